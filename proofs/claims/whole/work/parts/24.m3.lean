/-! the reference: what it forgets, its run, its gathering -/
theorem wf_drp {τ : St} {c d : Nat} (hw : wf τ) (hc : c < 24) : wf (drp τ c d) := by
  have hn := (wf_cnt hw hc).1
  obtain ⟨h1, h2, h3, h4, h5⟩ := hw
  refine ⟨fun c' hc' => ?_, h2, fun j hj => ?_, fun j hj => ?_, h5⟩
  · show ∃ n, n ≤ 4 ∧ upd (τ 6) c (nI (cnt τ c - 1)) c' = nI n
    by_cases e : c' = c
    · rw [e, pk_us]; exact ⟨_, by omega, rfl⟩
    · rw [pk_un e]; exact h1 c' hc'
  · show cl24 (shf (τ 4) c d (cnt τ c - 1) j)
    unfold shf
    split
    · exact h3 (j + 1) (by omega)
    · exact h3 j hj
  · show cl24 (shf (τ 5) c d (cnt τ c - 1) j)
    unfold shf
    split
    · exact h4 (j + 1) (by omega)
    · exact h4 j hj
theorem cnt_drp {τ : St} {c d : Nat} (hn : cnt τ c ≤ 4) : cnt (drp τ c d) c = cnt τ c - 1 := by
  show (upd (τ 6) c (nI (cnt τ c - 1)) c).toNatClampNeg = _
  rw [pk_us, nI_clamp (by omega)]
theorem rws_get (σ : St) (c n j : Nat) : (rws σ c n)[j]? = if j < n then some (σ 4 (c * 4 + j), σ 5 (c * 4 + j)) else none := by
  unfold rws
  by_cases h : j < n
  · rw [if_pos h]; simp [h]
  · rw [if_neg h]; simp [h]
theorem ent_drp {τ : St} {c d : Nat} (hn : cnt τ c ≤ 4) (hd : d < cnt τ c) : ent (drp τ c d) c = (ent τ c).eraseIdx d := by
  refine List.ext_getElem? (fun j => ?_)
  rw [ent_rws, cnt_drp hn, rws_get, List.getElem?_eraseIdx, ent_rws, rws_get, rws_get]
  have e4 : (drp τ c d) 4 = shf (τ 4) c d (cnt τ c - 1) := rfl
  have e5 : (drp τ c d) 5 = shf (τ 5) c d (cnt τ c - 1) := rfl
  rw [e4, e5]
  unfold shf
  by_cases h1 : j < d
  · have q1 : j < cnt τ c - 1 := by omega
    have q2 : j < cnt τ c := by omega
    have q3 : ¬ (c * 4 + d ≤ c * 4 + j ∧ c * 4 + j < c * 4 + (cnt τ c - 1)) := by omega
    simp only [if_pos h1, if_pos q1, if_pos q2, if_neg q3]
  · rw [if_neg h1]
    by_cases h2 : j < cnt τ c - 1
    · have q2 : j + 1 < cnt τ c := by omega
      have q3 : c * 4 + d ≤ c * 4 + j ∧ c * 4 + j < c * 4 + (cnt τ c - 1) := by omega
      simp only [if_pos h2, if_pos q2, if_pos q3]; rfl
    · have q2 : ¬ j + 1 < cnt τ c := by omega
      simp only [if_neg h2, if_neg q2]
/-- a table's entries are forgotten from the last one on; i of them are still to be seen -/
def fgD (ρ : St) (c : Nat) (S : Nat → Bool) (i : Nat) (τ : St) : Prop := i ≤ cnt ρ c ∧ (∀ k, k ≠ 4 → k ≠ 5 → k ≠ 6 → τ k = ρ k) ∧ (∀ j, (j < c * 4 ∨ c * 4 + 4 ≤ j) → τ 4 j = ρ 4 j ∧ τ 5 j = ρ 5 j) ∧ (∀ c', c' ≠ c → τ 6 c' = ρ 6 c') ∧ wf τ ∧ ent τ c = (ent ρ c).take i ++ ((ent ρ c).drop i).filter (fun q => S q.1.toNatClampNeg)
theorem fgD_0 {ρ : St} {c : Nat} {S : Nat → Bool} (hw : wf ρ) : fgD ρ c S (cnt ρ c) ρ := ⟨Nat.le_refl _, fun _ _ _ _ => rfl, fun _ _ => ⟨rfl, rfl⟩, fun _ _ => rfl, hw, by
  rw [List.take_of_length_le (by rw [ent_len]; exact Nat.le_refl _), List.drop_of_length_le (by rw [ent_len]; exact Nat.le_refl _)]; simp⟩
theorem fgD_end {ρ τ : St} {c : Nat} {S : Nat → Bool} (h : fgD ρ c S 0 τ) : fge ρ c S τ := by
  obtain ⟨h1, h2, h3, h4, h5, h6⟩ := h
  exact ⟨h2, h3, h4, by simpa using h6, h5⟩
theorem fgD_lt {ρ τ : St} {c i : Nat} {S : Nat → Bool} (h : fgD ρ c S (i + 1) τ) : i < cnt τ c := by
  obtain ⟨h1, h2, h3, h4, h5, h6⟩ := h
  have e := congrArg List.length h6
  rw [ent_len, List.length_append, List.length_take, ent_len] at e
  omega
theorem fgD_row {ρ τ : St} {c i : Nat} {S : Nat → Bool} (h : fgD ρ c S (i + 1) τ) : (ent ρ c)[i]? = some (τ 4 (c * 4 + i), τ 5 (c * 4 + i)) := by
  have hl := fgD_lt h
  obtain ⟨h1, h2, h3, h4, h5, h6⟩ := h
  rw [← ent_get hl, h6, List.getElem?_append_left (by rw [List.length_take, ent_len]; omega), List.getElem?_take, if_pos (by omega)]
theorem fgD_split {A : List (Int32 × Int32)} {i : Nat} {a : Int32 × Int32} (h : A[i]? = some a) : A.take (i + 1) = A.take i ++ [a] ∧ A.drop i = a :: A.drop (i + 1) := by
  obtain ⟨hl, e⟩ := List.getElem?_eq_some_iff.mp h
  refine ⟨?_, ?_⟩
  · rw [List.take_add_one, h]; rfl
  · rw [List.drop_eq_getElem_cons hl, e]
theorem fgD_yes {ρ τ : St} {c i k : Nat} {S : Nat → Bool} (h : fgD ρ c S (i + 1) τ) (hk : k < 24) (ek : τ 4 (c * 4 + i) = nI k) (hs : S k = true) : fgD ρ c S i τ := by
  obtain ⟨t1, t2⟩ := fgD_split (fgD_row h)
  obtain ⟨h1, h2, h3, h4, h5, h6⟩ := h
  refine ⟨by omega, h2, h3, h4, h5, ?_⟩
  rw [h6, t1, t2, List.filter_cons, if_pos (by show S _ = true; rw [ek, nI_clamp (by omega)]; exact hs)]
  simp
theorem fgD_no {ρ τ : St} {c i k : Nat} {S : Nat → Bool} (hc : c < 24) (h : fgD ρ c S (i + 1) τ) (hk : k < 24) (ek : τ 4 (c * 4 + i) = nI k) (hs : S k = false) : fgD ρ c S i (drp τ c i) := by
  have hl := fgD_lt h
  obtain ⟨t1, t2⟩ := fgD_split (fgD_row h)
  obtain ⟨h1, h2, h3, h4, h5, h6⟩ := h
  have hn := (wf_cnt h5 hc).1
  refine ⟨by omega, fun k a b d => ?_, fun j hj => ?_, fun c' hc' => ?_, wf_drp h5 hc, ?_⟩
  · rw [← h2 k a b d]
    show va_up (va_up (va_up τ 4 _) 5 _) 6 _ k = _
    rw [va_up_ne _ _ d, va_up_ne _ _ b, va_up_ne _ _ a]
  · obtain ⟨a, b⟩ := h3 j hj
    have e4 : (drp τ c i) 4 = shf (τ 4) c i (cnt τ c - 1) := rfl
    have e5 : (drp τ c i) 5 = shf (τ 5) c i (cnt τ c - 1) := rfl
    rw [e4, e5]
    unfold shf
    rw [if_neg (by omega), if_neg (by omega)]
    exact ⟨a, b⟩
  · show upd (τ 6) c _ c' = _
    rw [pk_un hc']; exact h4 c' hc'
  · have hL : ((ent ρ c).take i).length = i := by rw [List.length_take, ent_len]; omega
    rw [ent_drp hn hl, h6, t1, t2, List.filter_cons, if_neg (by show ¬ S _ = true; rw [ek, nI_clamp (by omega), hs]; decide), List.append_assoc, List.eraseIdx_append_of_length_le (by omega), hL, Nat.sub_self]
    rfl
/-- a weak thing within S forgets -/
def fgw (τ : St) (c : Nat) (S : Nat → Bool) : St := if S c = true ∧ τ 1 c = nI 1 then fgr τ c S else τ
theorem fgw_n {τ : St} {c : Nat} {S : Nat → Bool} (h : ¬ (S c = true ∧ τ 1 c = nI 1)) : fgw τ c S = τ := by unfold fgw; rw [if_neg h]
theorem fgw_y {τ : St} {c : Nat} {S : Nat → Bool} (h : S c = true ∧ τ 1 c = nI 1) : fgw τ c S = fgr τ c S := by unfold fgw; rw [if_pos h]
theorem fgr_k (τ : St) (c : Nat) (S : Nat → Bool) {k : Nat} (h : k ≠ 3) : fgr τ c S k = τ k := by
  unfold fgr; split
  · exact va_up_ne _ _ h
  · rfl
theorem fgw_k (τ : St) (c : Nat) (S : Nat → Bool) {k : Nat} (h : k ≠ 3) : fgw τ c S k = τ k := by
  unfold fgw; split
  · exact fgr_k τ c S h
  · rfl
theorem wf_fgw {τ : St} {c : Nat} {S : Nat → Bool} (hw : wf τ) : wf (fgw τ c S) := by
  unfold fgw; split
  · unfold fgr; split
    · exact wf_3 hw (Or.inl rfl)
    · exact hw
  · exact hw
theorem fgo_fw {σ τ : St} {S : Nat → Bool} {i : Nat} (h24 : i < 24) (h : fgo σ S i τ) (hn : ¬ (S i = true ∧ σ 1 i = nI 2)) : fgo σ S (i + 1) (fgw τ i S) := by
  have e1 : τ 1 = σ 1 := h.1 1 (by decide) (by decide) (by decide) (by decide)
  by_cases q : S i = true ∧ τ 1 i = nI 1
  · rw [fgw_y q]; exact fgo_weak h24 h q.1 (e1 ▸ q.2)
  · rw [fgw_n q]
    refine fgo_no h24 h ?_
    cases hs : S i
    · exact Or.inl rfl
    · exact Or.inr ⟨fun z => q ⟨hs, e1 ▸ z⟩, fun z => hn ⟨hs, z⟩⟩
theorem fgo_ft {σ τ u : St} {S : Nat → Bool} {i : Nat} (h24 : i < 24) (h : fgo σ S i τ) (hs : S i = true ∧ σ 1 i = nI 2) (hu : fge (fgw τ i S) i S u) : fgo σ S (i + 1) u := by
  have e1 : τ 1 = σ 1 := h.1 1 (by decide) (by decide) (by decide) (by decide)
  rw [fgw_n (fun z => by have z2 := z.2; rw [e1, hs.2] at z2; exact absurd z2 (by decide))] at hu
  exact fgo_tab h24 h hs.1 hs.2 hu
theorem gB_t {g : Nat → Int32} {c : Nat} (hb : bl g) (hc : c < 24) (h : ¬ g c = 0) : gB g c = true := decide_eq_true ((hb c hc).resolve_left h)
theorem gB_f {g : Nat → Int32} {c : Nat} (h : g c = 0) : gB g c = false := by unfold gB; rw [h]; decide
theorem fgw_in {τ : St} {c : Nat} {S : Nat → Bool} {d : Nat} (h1 : S c = true ∧ τ 1 c = nI 1) (hd : d < 24) (ed : τ 3 (c * 3 + 0) = nI d) (hs : S d = true) : fgw τ c S = τ := by
  rw [fgw_y h1]; unfold fgr; rw [if_neg]
  rintro ⟨-, q⟩
  rw [ed, nI_clamp (by omega), hs] at q; cases q
theorem fgw_m1 {τ : St} {c : Nat} {S : Nat → Bool} (hn : nc (τ 3 (c * 3 + 0))) (hm : τ 3 (c * 3 + 0) < 0) : fgw τ c S = τ := by
  by_cases q : S c = true ∧ τ 1 c = nI 1
  · rw [fgw_y q]; unfold fgr; rw [if_neg (fun z => z.1 (nc_neg hn hm))]
  · exact fgw_n q
theorem fgw_out {τ : St} {c : Nat} {S : Nat → Bool} {d : Nat} (h1 : S c = true ∧ τ 1 c = nI 1) (hd : d < 24) (ed : τ 3 (c * 3 + 0) = nI d) (hs : S d = false) : fgw τ c S = va_up τ 3 (upd (τ 3) (c * 3 + 0) (-1)) := by
  rw [fgw_y h1]; unfold fgr; rw [if_pos]
  exact ⟨by rw [ed]; exact nI_m1 (by omega), by rw [ed, nI_clamp (by omega)]; exact hs⟩
theorem nc_ge {x : Int32} (h : nc x) (h0 : ¬ x < 0) : ∃ d, d < 24 ∧ x = nI d := nc_cl h (fun e => h0 (by rw [e]; decide))
/-- the reference's put -/
def puR (σ : St) (c i : Nat) (k v : Int32) : St := va_up (va_up (va_up σ 4 (upd (σ 4) (c * 4 + i) k)) 5 (upd (σ 5) (c * 4 + i) v)) 6 (upd (σ 6) c (nI (cnt σ c + 0)))
def putM (σ : St) (x k v r : Int32) (u : St) : Prop := (¬ (tM σ x ∧ tM σ k ∧ tM σ v) ∧ u = th σ 1) ∨ ((tM σ x ∧ tM σ k ∧ tM σ v) ∧ ((¬ isTab σ x ∧ u = th σ 2) ∨ ∃ c, c < 24 ∧ x = nI c ∧ σ 1 c = nI 2 ∧ ((cnt σ c = 4 ∧ (∀ j, j < cnt σ c → σ 4 (c * 4 + j) ≠ k) ∧ u = th σ 3) ∨ (∃ i, i < cnt σ c ∧ σ 4 (c * 4 + i) = k ∧ r = nI 0 ∧ u = puR (th σ 0) c i k v) ∨ ((∀ j, j < cnt σ c → σ 4 (c * 4 + j) ≠ k) ∧ cnt σ c < 4 ∧ r = nI 1 ∧ u = apd (th σ 0) c k v))))
/-- the reference's free cells -/
theorem fcM_s {σ : St} {v : Int32} (h : (∃ c, lfM σ c ∧ v = nI c) ∨ (v = -1 ∧ fullM σ)) (h0 : 0 ≤ v) : ∃ c, lfM σ c ∧ v = nI c := h.resolve_right (fun q => by rw [q.1] at h0; exact absurd h0 (by decide))
theorem fcM_f {σ : St} {v : Int32} (h : (∃ c, lfM σ c ∧ v = nI c) ∨ (v = -1 ∧ fullM σ)) (h0 : ¬ 0 ≤ v) : fullM σ := by
  rcases h with ⟨c, hl, e⟩ | h
  · exact absurd (by rw [e]; exact nI_pos' (by have := hl.1; omega)) h0
  · exact h.2
theorem fcM_a {σ : St} {v : Int32} {c : Nat} (h : (∃ c, lfM σ c ∧ v = nI c) ∨ (v = -1 ∧ fullM σ)) (hl : lfM σ c) : ∃ c, lfM σ c ∧ v = nI c := h.resolve_right (fun q => q.2 c hl.1 hl.2.1)
def plM (τ : St) (c : Nat) (k : Int32) : St := emp (pl5 (pl4 (pl3 (pl1 τ) c k) c) c) c
/-- what isn't in and waits -/
def qM (σ : St) (g : Nat → Int32) : Nat → Bool := fun c => decide (¬ σ 1 c < 0 ∧ g c = nI 0)
theorem qst_k (σ : St) (S : Nat → Bool) (i : Nat) {k : Nat} (h0 : k ≠ 0) (h7 : k ≠ 7) (h11 : k ≠ 11) : qst σ S i k = σ k := by
  induction i with
  | zero => rfl
  | succ i ih =>
    by_cases h : S i = true ∧ (qst σ S i) 7 i = nI 1
    · rw [qst_yes h, enq, enqW, va_up_ne _ _ h0, va_up_ne _ _ h11, va_up_ne _ _ h7]; exact ih
    · rw [← qst_no h]; exact ih
def fr1 (ρ : St) (i : Nat) : St := va_up (va_up (va_up (va_up ρ 1 (upd (ρ 1) i (-1))) 6 (upd (ρ 6) i (nI 0))) 3 (upd (ρ 3) (i * 3 + 0) (-1))) 7 (upd (ρ 7) i (nI 0))
def frS (σ : St) (D : Nat → Bool) : Nat → St
  | 0 => σ
  | i + 1 => if D i = true then fr1 (frS σ D i) i else frS σ D i
theorem frS_y {σ : St} {D : Nat → Bool} {i : Nat} (h : D i = true) : frS σ D (i + 1) = fr1 (frS σ D i) i := by
  show (if _ then _ else _) = _
  rw [if_pos h]
theorem frS_n {σ : St} {D : Nat → Bool} {i : Nat} (h : D i = false) : frS σ D (i + 1) = frS σ D i := by
  show (if _ then _ else _) = _
  rw [if_neg (by rw [h]; decide)]
theorem num_y {D : Nat → Bool} {i : Nat} (h : D i = true) : num D (i + 1) = num D i + 1 := by
  show num D i + _ = _
  rw [if_pos h]
theorem num_n {D : Nat → Bool} {i : Nat} (h : D i = false) : num D (i + 1) = num D i := by
  show num D i + _ = _
  rw [if_neg (by rw [h]; decide)]; rfl
theorem fr1_1 (ρ : St) (i : Nat) : (fr1 ρ i) 1 = upd (ρ 1) i (-1) := rfl
theorem frS_1 (σ : St) (D : Nat → Bool) {i j : Nat} (h : i ≤ j) : frS σ D i 1 j = σ 1 j := by
  induction i with
  | zero => rfl
  | succ i ih =>
    cases hd : D i
    · rw [frS_n hd]; exact ih (by omega)
    · rw [frS_y hd, fr1_1, pk_un (by omega)]; exact ih (by omega)
theorem frS_12 (σ : St) (D : Nat → Bool) (i : Nat) : frS σ D i 12 = σ 12 := by
  induction i with
  | zero => rfl
  | succ i ih =>
    cases hd : D i
    · rw [frS_n hd]; exact ih
    · rw [frS_y hd]; exact ih
/-- what the reference's gathering does -/
def gatM (σ : St) (v : Int32) (u : St) : Prop := ∃ (g0 g1 : Nat → Int32) (σ2 : St) (w : Nat) (g2 g3 : Nat → Int32) (σ4 : St),
  (∀ c, c < 24 → (g0 c = nI 1 ↔ ∃ r, r < 6 ∧ (col1 σ) 10 r = nI c)) ∧ (bl g1 ∧ ∀ c, c < 24 → (g1 c = nI 1 ↔ rch (col1 σ) (fun d => g0 d = nI 1) c)) ∧ fgo (va_up (col1 σ) 12 g1) (gB g1) 24 σ2 ∧
  w ≤ 24 ∧ (qst σ2 (qM σ2 g1) 24) 0 1 = nI w ∧ (∀ c, c < 24 → (g2 c = nI 1 ↔ (g1 c = nI 1 ∨ ∃ r, r < w ∧ (qst σ2 (qM σ2 g1) 24) 11 r = nI c))) ∧
  (bl g3 ∧ ∀ c, c < 24 → (g3 c = nI 1 ↔ rch (qst σ2 (qM σ2 g1) 24) (fun d => g2 d = nI 1) c)) ∧ fgo (va_up (qst σ2 (qM σ2 g1) 24) 12 g3) (gB g3) 24 σ4 ∧
  v = nI (num (qM σ4 g3) 24) ∧ u = frS σ4 (qM σ4 g3) 24
theorem wf_12 {σ : St} {g : Nat → Int32} (h : wf σ) : wf (va_up σ 12 g) := h
theorem qI_12 {σ : St} {g : Nat → Int32} (h : qI σ) : qI (va_up σ 12 g) := h
theorem fgo_12 {σ u : St} {S : Nat → Bool} {i : Nat} (h : fgo σ S i u) : u 12 = σ 12 := h.1 12 (by decide) (by decide) (by decide) (by decide)
theorem fgo_1 {σ u : St} {S : Nat → Bool} {i : Nat} (h : fgo σ S i u) : u 1 = σ 1 := h.1 1 (by decide) (by decide) (by decide) (by decide)
/-- the first i are out -/
def clG (g : Nat → Int32) : Nat → Nat → Int32
  | 0 => g
  | i + 1 => upd (clG g i) i (nI 0)
theorem clG_0 (g : Nat → Int32) {i c : Nat} (h : c < i) : clG g i c = nI 0 := by
  induction i with
  | zero => omega
  | succ i ih =>
    show upd (clG g i) i (nI 0) c = _
    by_cases e : c = i
    · rw [e, pk_us]
    · rw [pk_un e]; exact ih (by omega)
theorem adS {g g' : Nat → Int32} {x v : Int32} {A : Nat → Prop} {f : Nat → Int32} {i : Nat} (h : ∀ c, c < 24 → (g c = nI 1 ↔ (A c ∨ ∃ r, r < i ∧ f r = nI c))) (ha : adG g x v g') (ex : x = f i) : ∀ c, c < 24 → (g' c = nI 1 ↔ (A c ∨ ∃ r, r < i + 1 ∧ f r = nI c)) := fun c hc => by
  rw [adG_iff ha hc, h c hc, ex]
  constructor
  · rintro ((q | ⟨r, hr, q⟩) | q)
    · exact Or.inl q
    · exact Or.inr ⟨r, by omega, q⟩
    · exact Or.inr ⟨i, by omega, q⟩
  · rintro (q | ⟨r, hr, q⟩)
    · exact Or.inl (Or.inl q)
    · by_cases e : r = i
      · rw [e] at q; exact Or.inr q
      · exact Or.inl (Or.inr ⟨r, by omega, q⟩)
abbrev gOk (g : Nat → Int32) : Prop := bl g
theorem up_eq {σ : St} {k : Nat} {g : Nat → Int32} (h : σ k = g) : va_up σ k g = σ := by rw [← h, va_up_same]
def mkM (σ : St) (k v : Int32) (u : St) : Prop := (¬ isK k ∧ u = th σ 1) ∨ (isK k ∧ ((∃ c, lfM σ c ∧ v = nI c ∧ u = plM (th (th σ 0) 0) c k) ∨ (fullM σ ∧ ∃ v1 σ1, gatM (th σ 0) v1 σ1 ∧ ((∃ c, lfM σ1 c ∧ v = nI c ∧ u = plM (th σ1 0) c k) ∨ (fullM σ1 ∧ u = th σ1 2)))))
set_option maxHeartbeats 4000000 in
set_option maxRecDepth 100000 in
theorem c_m_forget {l : Launch} {D : va_G} {cI cB cL : ClassId} {h : Nat → Nat} {σ : St} (hw : wf σ) (hb : bl (σ 12)) : zMet l y_m_forget w_m_forget rm_m_forget D zCl (zTy cI cB cL) (wm h cI cB σ) [.ref (h 0)] (qv (wm h cI cB) (fun u => fgo σ (gB (σ 12)) 24 u) noXs) 0 0 0 0 := by
  refine z_meth (by decide) rfl (Nat.le_of_ble_eq_true rfl) (fun p e s mm as bl me cd Z hr hnm ht => ?_)
  refine z_iconst Z (nI 0) d_m_forget_0 zi_0 ?_
  refine z_istore_n Z 1 d_m_forget_1 rfl (by decide) rfl ?_
  refine z_lv (lv' := [(0, .ref (h 0)), (1, .int (nI 0))]) rfl ?_
  refine z_loop (fun q : Nat × St => q.1 ≤ 24 ∧ fgo σ (gB (σ 12)) q.1 q.2) (fun q : Nat × St => 24 - q.1) (fun q : Nat × St => wm h cI cB q.2) (fun q : Nat × St => [(0, .ref (h 0)), (1, .int (nI q.1))]) (fun q hi ih => ?_) (0, σ) ⟨by omega, fgo_0 hw⟩
  obtain ⟨c, τ⟩ := q
  dsimp only at hi ih ⊢
  have e1 : τ 1 = σ 1 := fgo_1 hi.2
  have e12 : τ 12 = σ 12 := fgo_12 hi.2
  have hwt : wf τ := fgo_wf hi.2
  refine z_iload_n Z 1 d_m_forget_2 rfl rfl ?_
  refine z_bipush Z (nI 24) d_m_forget_3 zb_24 ?_
  refine z_icmpN_ge Z 130 d_m_forget_5 (by decide) (by omega) (by omega) (fun h5 => ?_) (fun h5 => ?_)
  · obtain rfl : c = 24 := by omega
    refine z_rv Z _ hr d_m_forget_130 (by decide) (by decide) rfl ?_
    exact hi.2
  · have hc : c < 24 := h5
    refine z_aload_n Z 0 d_m_forget_8 rfl rfl ?_
    refine mg_3 Z d_m_forget_9 ?_
    refine z_iconst Z (nI 3) d_m_forget_12 zi_3 ?_
    refine z_iload_n Z 1 d_m_forget_13 rfl rfl ?_
    refine z_imulN Z d_m_forget_14 ?_
    refine z_eqi (y := nI (c * 3 + 0)) (congrArg nI (Nat.mul_comm 3 c)) ?_
    refine ml_3 Z (by omega) d_m_forget_15 ?_
    refine z_istore_n Z 2 d_m_forget_16 rfl (by decide) rfl ?_
    refine z_cut (fun q : Unit => True) 58 (fun q => wm h cI cB (fgw τ c (gB (σ 12)))) (fun q => [(0, .ref (h 0)), (1, .int (nI c))]) (fun _ => []) (fun q hi2 => ?_) (fun J => ?_)
    · have r1 : (fgw τ c (gB (σ 12))) 1 = σ 1 := (fgw_k τ c _ (by decide)).trans e1
      have r12 : (fgw τ c (gB (σ 12))) 12 = σ 12 := (fgw_k τ c _ (by decide)).trans e12
      have hwr : wf (fgw τ c (gB (σ 12))) := wf_fgw hwt
      have e6 : (fgw τ c (gB (σ 12))) 6 c = nI (cnt (fgw τ c (gB (σ 12))) c) := (wf_cnt hwr hc).2
      have n6 : cnt (fgw τ c (gB (σ 12))) c ≤ 4 := (wf_cnt hwr hc).1
      refine z_aload_n Z 0 d_m_forget_58 rfl rfl ?_
      refine mg_6 Z d_m_forget_59 ?_
      refine z_iload_n Z 1 d_m_forget_62 rfl rfl ?_
      refine ml_6 Z (by omega) d_m_forget_63 ?_
      refine z_eqi e6 ?_
      refine z_iconst Z (nI 1) d_m_forget_64 zi_1 ?_
      refine z_isub Z d_m_forget_65 ?_
      refine z_eqi (dn_sub _) ?_
      refine z_istore_n Z 3 d_m_forget_66 rfl (by decide) rfl ?_
      by_cases hT : (gB (σ 12)) c = true ∧ σ 1 c = nI 2
      · refine z_lv (lv' := [(0, .ref (h 0)), (1, .int (nI c)), (3, .int (dn (cnt (fgw τ c (gB (σ 12))) c)))]) rfl ?_
        refine z_loop (fun q : Nat × St => fgD (fgw τ c (gB (σ 12))) c (gB (σ 12)) q.1 q.2) (fun q : Nat × St => q.1) (fun q : Nat × St => wm h cI cB q.2) (fun q : Nat × St => [(0, .ref (h 0)), (1, .int (nI c)), (3, .int (dn q.1))]) (fun q hd ihd => ?_) (cnt (fgw τ c (gB (σ 12))) c, (fgw τ c (gB (σ 12)))) (fgD_0 hwr)
        obtain ⟨n, ρ⟩ := q
        dsimp only at hd ihd ⊢
        have f1 : ρ 1 = σ 1 := (hd.2.1 1 (by decide) (by decide) (by decide)).trans r1
        have f12 : ρ 12 = σ 12 := (hd.2.1 12 (by decide) (by decide) (by decide)).trans r12
        refine z_iload_n Z 3 d_m_forget_67 rfl rfl ?_
        refine z_if_lt Z 124 d_m_forget_68 (by decide) (fun h68 => ?_) (fun h68 => ?_)
        · obtain rfl := dn_neg (by have := hd.1; omega) h68
          refine z_iincN Z 1 d_m_forget_124 rfl (by decide) rfl ?_
          refine z_goto Z 2 d_m_forget_127 (by decide) ?_
          exact z_lv rfl (ih (c + 1, ρ) ⟨by omega, fgo_ft hc hi.2 hT (fgD_end hd)⟩ (by dsimp only; omega))
        · obtain ⟨i, rfl⟩ := dn_pos h68
          have hl := fgD_lt hd
          have n6r := (wf_cnt hd.2.2.2.2.1 hc).1
          refine z_aload_n Z 0 d_m_forget_71 rfl rfl ?_
          refine mg_12 Z d_m_forget_72 ?_
          refine z_iload_n Z 1 d_m_forget_75 rfl rfl ?_
          refine ml_12 Z (by omega) d_m_forget_76 ?_
          refine z_if_eq Z 124 d_m_forget_77 (by decide) (fun hx => absurd hx (fun q => by have z := of_decide_eq_true hT.1; rw [← f12, q] at z; exact absurd z (by decide))) (fun h77 => ?_)
          refine z_aload_n Z 0 d_m_forget_80 rfl rfl ?_
          refine mg_1 Z d_m_forget_81 ?_
          refine z_iload_n Z 1 d_m_forget_84 rfl rfl ?_
          refine ml_1 Z (by omega) d_m_forget_85 ?_
          refine z_iconst Z (nI 2) d_m_forget_86 zi_2 ?_
          refine z_icmp_ne Z 124 d_m_forget_87 (by decide) (fun hx => absurd hx (fun q => q (by rw [f1]; exact hT.2))) (fun h87 => ?_)
          refine z_aload_n Z 0 d_m_forget_90 rfl rfl ?_
          refine mg_12 Z d_m_forget_91 ?_
          refine z_aload_n Z 0 d_m_forget_94 rfl rfl ?_
          refine mg_4 Z d_m_forget_95 ?_
          refine z_iconst Z (nI 4) d_m_forget_98 zi_4 ?_
          refine z_iload_n Z 1 d_m_forget_99 rfl rfl ?_
          refine z_imulN Z d_m_forget_100 ?_
          refine z_iload_n Z 3 d_m_forget_101 rfl rfl ?_
          refine z_eqi (y := nI i) rfl ?_
          refine z_iaddN Z d_m_forget_102 ?_
          refine z_eqi (y := nI (c * 4 + i)) (by rw [Nat.mul_comm]) ?_
          refine ml_4 Z (by omega) d_m_forget_103 ?_
          obtain ⟨k, hk, ek⟩ := hd.2.2.2.2.1.2.2.1 (c * 4 + i) (by omega)
          refine z_eqi (y := nI k) ek ?_
          refine ml_12 Z (by omega) d_m_forget_104 ?_
          refine z_if_ne Z 118 d_m_forget_105 (by decide) (fun h105 => ?_) (fun h105 => ?_)
          · refine z_iinc Z 3 (dn i) d_m_forget_118 rfl (dn_dec i) (by decide) rfl ?_
            refine z_goto Z 67 d_m_forget_121 (by decide) ?_
            exact z_lv rfl (ihd (i, ρ) (fgD_yes hd hk ek (gB_t hb hk (by rw [← f12]; exact h105))) (by dsimp only; omega))
          · refine z_aload_n Z 0 d_m_forget_108 rfl rfl ?_
            refine z_iload_n Z 1 d_m_forget_109 rfl rfl ?_
            refine z_iconst Z (nI 4) d_m_forget_110 zi_4 ?_
            refine z_iload_n Z 1 d_m_forget_111 rfl rfl ?_
            refine z_imulN Z d_m_forget_112 ?_
            refine z_iload_n Z 3 d_m_forget_113 rfl rfl ?_
            refine z_eqi (y := nI i) rfl ?_
            refine z_iaddN Z d_m_forget_114 ?_
            refine z_eqi (y := nI (c * 4 + i)) (by rw [Nat.mul_comm]) ?_
            refine z_Wv Z (c_m_dropEntry hd.2.2.2.2.1 hc hl) (ok_m_dropEntry _) rfl rfl ⟨by decide, by decide⟩ rfl rfl rfl rfl (Nat.le_of_ble_eq_true rfl) d_m_forget_115 ⟨by decide, by decide⟩ (fun E u h => h.elim) (fun u115 h115 => ?_)
            subst h115
            refine z_iinc Z 3 (dn i) d_m_forget_118 rfl (dn_dec i) (by decide) rfl ?_
            refine z_goto Z 67 d_m_forget_121 (by decide) ?_
            exact z_lv rfl (ihd (i, _) (fgD_no hc hd hk ek (gB_f (by rw [← f12]; exact h105))) (by dsimp only; omega))
      · refine z_iload_n Z 3 d_m_forget_67 rfl rfl ?_
        refine z_if_lt Z 124 d_m_forget_68 (by decide) (fun h68 => ?_) (fun h68 => ?_)
        · refine z_iincN Z 1 d_m_forget_124 rfl (by decide) rfl ?_
          refine z_goto Z 2 d_m_forget_127 (by decide) ?_
          exact z_lv rfl (ih (c + 1, _) ⟨by omega, fgo_fw hc hi.2 hT⟩ (by dsimp only; omega))
        · refine z_aload_n Z 0 d_m_forget_71 rfl rfl ?_
          refine mg_12 Z d_m_forget_72 ?_
          refine z_iload_n Z 1 d_m_forget_75 rfl rfl ?_
          refine ml_12 Z (by omega) d_m_forget_76 ?_
          refine z_if_eq Z 124 d_m_forget_77 (by decide) (fun h77 => ?_) (fun h77 => ?_)
          · refine z_iincN Z 1 d_m_forget_124 rfl (by decide) rfl ?_
            refine z_goto Z 2 d_m_forget_127 (by decide) ?_
            exact z_lv rfl (ih (c + 1, _) ⟨by omega, fgo_fw hc hi.2 hT⟩ (by dsimp only; omega))
          · refine z_aload_n Z 0 d_m_forget_80 rfl rfl ?_
            refine mg_1 Z d_m_forget_81 ?_
            refine z_iload_n Z 1 d_m_forget_84 rfl rfl ?_
            refine ml_1 Z (by omega) d_m_forget_85 ?_
            refine z_iconst Z (nI 2) d_m_forget_86 zi_2 ?_
            refine z_icmp_ne Z 124 d_m_forget_87 (by decide) (fun h87 => ?_) (fun hx => absurd hx (fun q => hT ⟨gB_t hb hc (by rw [← r12]; exact h77), by rw [← r1]; exact q⟩))
            refine z_iincN Z 1 d_m_forget_124 rfl (by decide) rfl ?_
            refine z_goto Z 2 d_m_forget_127 (by decide) ?_
            exact z_lv rfl (ih (c + 1, _) ⟨by omega, fgo_fw hc hi.2 hT⟩ (by dsimp only; omega))
    · refine z_aload_n Z 0 d_m_forget_17 rfl rfl ?_
      refine mg_12 Z d_m_forget_18 ?_
      refine z_iload_n Z 1 d_m_forget_21 rfl rfl ?_
      refine ml_12 Z (by omega) d_m_forget_22 ?_
      refine z_if_eq Z 58 d_m_forget_23 (by decide) (fun h23 => ?_) (fun h23 => ?_)
      · exact z_ws (by rw [fgw_n (fun q => by have z := q.1; rw [gB_f (by rw [← e12]; exact h23)] at z; cases z)]) (z_lv rfl (J () trivial))
      · refine z_aload_n Z 0 d_m_forget_26 rfl rfl ?_
        refine mg_1 Z d_m_forget_27 ?_
        refine z_iload_n Z 1 d_m_forget_30 rfl rfl ?_
        refine ml_1 Z (by omega) d_m_forget_31 ?_
        refine z_iconst Z (nI 1) d_m_forget_32 zi_1 ?_
        refine z_icmp_ne Z 58 d_m_forget_33 (by decide) (fun h33 => ?_) (fun h33 => ?_)
        · exact z_ws (by rw [fgw_n (fun q => h33 q.2)]) (z_lv rfl (J () trivial))
        · refine z_iload_n Z 2 d_m_forget_36 rfl rfl ?_
          refine z_if_lt Z 58 d_m_forget_37 (by decide) (fun h37 => ?_) (fun h37 => ?_)
          · exact z_ws (by rw [fgw_m1 (hwt.2.1 (c * 3 + 0) (by omega)) h37]) (z_lv rfl (J () trivial))
          · obtain ⟨d, hd, ed⟩ := nc_ge (hwt.2.1 (c * 3 + 0) (by omega)) h37
            have hw1 : (gB (σ 12)) c = true ∧ τ 1 c = nI 1 := ⟨gB_t hb hc (by rw [← e12]; exact h23), h33⟩
            refine z_aload_n Z 0 d_m_forget_40 rfl rfl ?_
            refine mg_12 Z d_m_forget_41 ?_
            refine z_iload_n Z 2 d_m_forget_44 rfl rfl ?_
            refine z_eqi ed ?_
            refine ml_12 Z (by omega) d_m_forget_45 ?_
            refine z_if_ne Z 58 d_m_forget_46 (by decide) (fun h46 => ?_) (fun h46 => ?_)
            · exact z_ws (by rw [fgw_in hw1 hd ed (gB_t hb hd (by rw [← e12]; exact h46))]) (z_lv rfl (J () trivial))
            · refine z_aload_n Z 0 d_m_forget_49 rfl rfl ?_
              refine mg_3 Z d_m_forget_50 ?_
              refine z_iconst Z (nI 3) d_m_forget_53 zi_3 ?_
              refine z_iload_n Z 1 d_m_forget_54 rfl rfl ?_
              refine z_imulN Z d_m_forget_55 ?_
              refine z_iconst Z (-1) d_m_forget_56 zi_m1 ?_
              refine z_eqi2 (y := nI (c * 3 + 0)) (congrArg nI (Nat.mul_comm 3 c)) ?_
              refine ms_3 Z (by omega) d_m_forget_57 ?_
              exact z_ws (by rw [fgw_out hw1 hd ed (gB_f (by rw [← e12]; exact h46))]) (z_lv rfl (J () trivial))
set_option maxHeartbeats 4000000 in
set_option maxRecDepth 100000 in
theorem c_m_put {l : Launch} {D : va_G} {cI cB cL : ClassId} {h : Nat → Nat} {σ : St} (hw : wf σ) {x k v : Int32} : zMet l y_m_put w_m_put rm_m_put D zCl (zTy cI cB cL) (wm h cI cB σ) [.ref (h 0), .int x, .int k, .int v] (qi (wm h cI cB) (fun r u => putM σ x k v r u) noXs) 0 0 0 0 := by
  refine z_meth (by decide) rfl (Nat.le_of_ble_eq_true rfl) (fun p e s mm as bl me cd Z hr hnm ht => ?_)
  refine z_aload_n Z 0 d_m_put_0 rfl rfl ?_
  refine z_aload_n Z 0 d_m_put_1 rfl rfl ?_
  refine z_iload_n Z 1 d_m_put_2 rfl rfl ?_
  refine z_Wi0 Z (c_m_isThing ) (ok_m_isThing _) rfl rfl ⟨by decide, by decide⟩ rfl rfl rfl rfl (Nat.le_of_ble_eq_true rfl) d_m_put_3 ⟨by decide, by decide⟩ (fun E h => h.elim) (fun v3 h3 => ?_)
  refine z_if_eq Z 25 d_m_put_6 (by decide) (fun h6 => ?_) (fun h6 => ?_)
  · refine z_iconst Z (nI 1) d_m_put_25 zi_1 ?_
    refine z_goto Z 67 d_m_put_26 (by decide) ?_
    refine mp_0 Z d_m_put_67 ?_
    refine z_aload_n Z 0 d_m_put_70 rfl rfl ?_
    refine mn_0 Z d_m_put_71 ?_
    refine z_if_le Z 79 d_m_put_74 (by decide) (fun hx => absurd hx (show ¬ (nI 1 : Int32) ≤ 0 from by decide)) (fun h74 => ?_)
    refine z_iconst Z (nI 0) d_m_put_77 zi_0 ?_
    refine z_ri Z _ hr rfl d_m_put_78 (by decide) (by decide) rfl ?_
    exact Or.inl ⟨fun q => zB0 h3 h6 q.1, rfl⟩
  · have hx := zB1 h3 h6
    obtain ⟨c, hc, rfl, hxx⟩ := id hx
    have e6 : σ 6 c = nI (cnt σ c) := (wf_cnt hw hc).2
    have n6 : cnt σ c ≤ 4 := (wf_cnt hw hc).1
    refine z_aload_n Z 0 d_m_put_9 rfl rfl ?_
    refine z_iload_n Z 2 d_m_put_10 rfl rfl ?_
    refine z_Wi0 Z (c_m_isThing ) (ok_m_isThing _) rfl rfl ⟨by decide, by decide⟩ rfl rfl rfl rfl (Nat.le_of_ble_eq_true rfl) d_m_put_11 ⟨by decide, by decide⟩ (fun E h => h.elim) (fun v11 h11 => ?_)
    refine z_if_eq Z 25 d_m_put_14 (by decide) (fun h14 => ?_) (fun h14 => ?_)
    · refine z_iconst Z (nI 1) d_m_put_25 zi_1 ?_
      refine z_goto Z 67 d_m_put_26 (by decide) ?_
      refine mp_0 Z d_m_put_67 ?_
      refine z_aload_n Z 0 d_m_put_70 rfl rfl ?_
      refine mn_0 Z d_m_put_71 ?_
      refine z_if_le Z 79 d_m_put_74 (by decide) (fun hx => absurd hx (show ¬ (nI 1 : Int32) ≤ 0 from by decide)) (fun h74 => ?_)
      refine z_iconst Z (nI 0) d_m_put_77 zi_0 ?_
      refine z_ri Z _ hr rfl d_m_put_78 (by decide) (by decide) rfl ?_
      exact Or.inl ⟨fun q => zB0 h11 h14 q.2.1, rfl⟩
    · have hk := zB1 h11 h14
      refine z_aload_n Z 0 d_m_put_17 rfl rfl ?_
      refine z_iload_n Z 3 d_m_put_18 rfl rfl ?_
      refine z_Wi0 Z (c_m_isThing ) (ok_m_isThing _) rfl rfl ⟨by decide, by decide⟩ rfl rfl rfl rfl (Nat.le_of_ble_eq_true rfl) d_m_put_19 ⟨by decide, by decide⟩ (fun E h => h.elim) (fun v19 h19 => ?_)
      refine z_if_ne Z 29 d_m_put_22 (by decide) (fun h22 => ?_) (fun h22 => ?_)
      · have hv := zB1 h19 h22
        refine z_aload_n Z 0 d_m_put_29 rfl rfl ?_
        refine mg_1 Z d_m_put_30 ?_
        refine z_iload_n Z 1 d_m_put_33 rfl rfl ?_
        refine ml_1 Z (by omega) d_m_put_34 ?_
        refine z_iconst Z (nI 2) d_m_put_35 zi_2 ?_
        refine z_icmp_eq Z 43 d_m_put_36 (by decide) (fun h36 => ?_) (fun h36 => ?_)
        · refine z_aload_n Z 0 d_m_put_43 rfl rfl ?_
          refine mg_6 Z d_m_put_44 ?_
          refine z_iload_n Z 1 d_m_put_47 rfl rfl ?_
          refine ml_6 Z (by omega) d_m_put_48 ?_
          refine z_iconst Z (nI 4) d_m_put_49 zi_4 ?_
          refine z_eqi2 (y := nI (cnt σ c)) e6 ?_
          refine z_icmpN_ne Z 66 d_m_put_50 (by decide) (by omega) (by omega) (fun h50 => ?_) (fun h50 => ?_)
          · have hz : cnt σ c < 4 ∨ ∃ i, i < cnt σ c ∧ σ 4 (c * 4 + i) = k := Or.inl (by omega)
            refine z_iconst Z (nI 0) d_m_put_66 zi_0 ?_
            refine mp_0 Z d_m_put_67 ?_
            refine z_aload_n Z 0 d_m_put_70 rfl rfl ?_
            refine mn_0 Z d_m_put_71 ?_
            refine z_if_le Z 79 d_m_put_74 (by decide) (fun h74 => ?_) (fun hx => absurd hx (fun q => q (show (nI 0 : Int32) ≤ 0 from by decide)))
            refine z_aload_n Z 0 d_m_put_79 rfl rfl ?_
            refine z_iload_n Z 1 d_m_put_80 rfl rfl ?_
            refine z_iload_n Z 2 d_m_put_81 rfl rfl ?_
            refine z_Wi0 Z (c_m_entryOf (wf_th hw) hc) (ok_m_entryOf _) rfl rfl ⟨by decide, by decide⟩ rfl rfl rfl rfl (Nat.le_of_ble_eq_true rfl) d_m_put_82 ⟨by decide, by decide⟩ (fun E h => h.elim) (fun v82 h82 => ?_)
            refine z_istore Z 4 d_m_put_85 (by decide) rfl ?_
            refine z_iload Z 4 d_m_put_87 rfl ?_
            refine z_if_ge Z 96 d_m_put_89 (by decide) (fun h89 => ?_) (fun h89 => ?_)
            · obtain ⟨i, hi, rfl, ek, -⟩ := eoM_ge h82 h89
              have hi : i < cnt σ c := hi
              refine z_iconst Z (nI 0) d_m_put_96 zi_0 ?_
              refine z_istore Z 5 d_m_put_97 (by decide) rfl ?_
              refine z_iload Z 5 d_m_put_99 rfl ?_
              refine z_if_eq Z 117 d_m_put_101 (by decide) (fun h101 => ?_) (fun hx => absurd hx (fun q => q rfl))
              refine z_iload Z 4 d_m_put_117 rfl ?_
              refine z_istore Z 4 d_m_put_119 (by decide) rfl ?_
              refine z_aload_n Z 0 d_m_put_121 rfl rfl ?_
              refine mg_4 Z d_m_put_122 ?_
              refine z_iload Z 4 d_m_put_125 rfl ?_
              refine z_iload_n Z 2 d_m_put_127 rfl rfl ?_
              refine ms_4 Z (by omega) d_m_put_128 ?_
              refine z_aload_n Z 0 d_m_put_129 rfl rfl ?_
              refine mg_5 Z d_m_put_130 ?_
              refine z_iload Z 4 d_m_put_133 rfl ?_
              refine z_iload_n Z 3 d_m_put_135 rfl rfl ?_
              refine ms_5 Z (by omega) d_m_put_136 ?_
              refine z_aload_n Z 0 d_m_put_137 rfl rfl ?_
              refine mg_6 Z d_m_put_138 ?_
              refine z_iload_n Z 1 d_m_put_141 rfl rfl ?_
              refine z_dup2 Z d_m_put_142 ?_
              refine ml_6 Z (by omega) d_m_put_143 ?_
              refine z_eqi (y := nI (cnt σ c)) e6 ?_
              refine z_iload Z 5 d_m_put_144 rfl ?_
              refine z_if_eq Z 153 d_m_put_146 (by decide) (fun h146 => ?_) (fun hx => absurd hx (fun q => q rfl))
              refine z_iconst Z (nI 0) d_m_put_153 zi_0 ?_
              refine z_iaddN Z d_m_put_154 ?_
              refine ms_6 Z (by omega) d_m_put_155 ?_
              refine z_iload Z 5 d_m_put_156 rfl ?_
              refine z_ri Z _ hr rfl d_m_put_158 (by decide) (by decide) rfl ?_
              exact Or.inr ⟨⟨hx, hk, hv⟩, Or.inr ⟨c, hc, rfl, h36, Or.inr (Or.inl ⟨i, hi, ek, rfl, rfl⟩)⟩⟩
            · have hno : ∀ j, j < cnt σ c → σ 4 (c * 4 + j) ≠ k := eoM_lt h82 h89 (wf_cnt hw hc).1 hc
              have h4 : cnt σ c < 4 := hz.resolve_right (fun ⟨i, hi, e⟩ => hno i hi e)
              refine z_iconst Z (nI 1) d_m_put_92 zi_1 ?_
              refine z_goto Z 97 d_m_put_93 (by decide) ?_
              refine z_istore Z 5 d_m_put_97 (by decide) rfl ?_
              refine z_iload Z 5 d_m_put_99 rfl ?_
              refine z_if_eq Z 117 d_m_put_101 (by decide) (fun hx => absurd hx (show ¬ (nI 1 : Int32) = 0 from by decide)) (fun h101 => ?_)
              refine z_iconst Z (nI 4) d_m_put_104 zi_4 ?_
              refine z_iload_n Z 1 d_m_put_105 rfl rfl ?_
              refine z_imulN Z d_m_put_106 ?_
              refine z_aload_n Z 0 d_m_put_107 rfl rfl ?_
              refine mg_6 Z d_m_put_108 ?_
              refine z_iload_n Z 1 d_m_put_111 rfl rfl ?_
              refine ml_6 Z (by omega) d_m_put_112 ?_
              refine z_eqi (y := nI (cnt σ c)) e6 ?_
              refine z_iaddN Z d_m_put_113 ?_
              refine z_goto Z 119 d_m_put_114 (by decide) ?_
              refine z_eqi (y := nI (c * 4 + cnt σ c)) (by rw [Nat.mul_comm]) ?_
              refine z_istore Z 4 d_m_put_119 (by decide) rfl ?_
              refine z_aload_n Z 0 d_m_put_121 rfl rfl ?_
              refine mg_4 Z d_m_put_122 ?_
              refine z_iload Z 4 d_m_put_125 rfl ?_
              refine z_iload_n Z 2 d_m_put_127 rfl rfl ?_
              refine ms_4 Z (by omega) d_m_put_128 ?_
              refine z_aload_n Z 0 d_m_put_129 rfl rfl ?_
              refine mg_5 Z d_m_put_130 ?_
              refine z_iload Z 4 d_m_put_133 rfl ?_
              refine z_iload_n Z 3 d_m_put_135 rfl rfl ?_
              refine ms_5 Z (by omega) d_m_put_136 ?_
              refine z_aload_n Z 0 d_m_put_137 rfl rfl ?_
              refine mg_6 Z d_m_put_138 ?_
              refine z_iload_n Z 1 d_m_put_141 rfl rfl ?_
              refine z_dup2 Z d_m_put_142 ?_
              refine ml_6 Z (by omega) d_m_put_143 ?_
              refine z_eqi (y := nI (cnt σ c)) e6 ?_
              refine z_iload Z 5 d_m_put_144 rfl ?_
              refine z_if_eq Z 153 d_m_put_146 (by decide) (fun hx => absurd hx (show ¬ (nI 1 : Int32) = 0 from by decide)) (fun h146 => ?_)
              refine z_iconst Z (nI 1) d_m_put_149 zi_1 ?_
              refine z_goto Z 154 d_m_put_150 (by decide) ?_
              refine z_iaddN Z d_m_put_154 ?_
              refine ms_6 Z (by omega) d_m_put_155 ?_
              refine z_iload Z 5 d_m_put_156 rfl ?_
              refine z_ri Z _ hr rfl d_m_put_158 (by decide) (by decide) rfl ?_
              exact Or.inr ⟨⟨hx, hk, hv⟩, Or.inr ⟨c, hc, rfl, h36, Or.inr (Or.inr ⟨hno, h4, rfl, rfl⟩)⟩⟩
          · refine z_aload_n Z 0 d_m_put_53 rfl rfl ?_
            refine z_iload_n Z 1 d_m_put_54 rfl rfl ?_
            refine z_iload_n Z 2 d_m_put_55 rfl rfl ?_
            refine z_Wi0 Z (c_m_entryOf hw hc) (ok_m_entryOf _) rfl rfl ⟨by decide, by decide⟩ rfl rfl rfl rfl (Nat.le_of_ble_eq_true rfl) d_m_put_56 ⟨by decide, by decide⟩ (fun E h => h.elim) (fun v56 h56 => ?_)
            refine z_if_ge Z 66 d_m_put_59 (by decide) (fun h59 => ?_) (fun h59 => ?_)
            · have hz : cnt σ c < 4 ∨ ∃ i, i < cnt σ c ∧ σ 4 (c * 4 + i) = k := by obtain ⟨i, hi, -, e, -⟩ := eoM_ge h56 h59; exact Or.inr ⟨i, hi, e⟩
              refine z_iconst Z (nI 0) d_m_put_66 zi_0 ?_
              refine mp_0 Z d_m_put_67 ?_
              refine z_aload_n Z 0 d_m_put_70 rfl rfl ?_
              refine mn_0 Z d_m_put_71 ?_
              refine z_if_le Z 79 d_m_put_74 (by decide) (fun h74 => ?_) (fun hx => absurd hx (fun q => q (show (nI 0 : Int32) ≤ 0 from by decide)))
              refine z_aload_n Z 0 d_m_put_79 rfl rfl ?_
              refine z_iload_n Z 1 d_m_put_80 rfl rfl ?_
              refine z_iload_n Z 2 d_m_put_81 rfl rfl ?_
              refine z_Wi0 Z (c_m_entryOf (wf_th hw) hc) (ok_m_entryOf _) rfl rfl ⟨by decide, by decide⟩ rfl rfl rfl rfl (Nat.le_of_ble_eq_true rfl) d_m_put_82 ⟨by decide, by decide⟩ (fun E h => h.elim) (fun v82 h82 => ?_)
              refine z_istore Z 4 d_m_put_85 (by decide) rfl ?_
              refine z_iload Z 4 d_m_put_87 rfl ?_
              refine z_if_ge Z 96 d_m_put_89 (by decide) (fun h89 => ?_) (fun h89 => ?_)
              · obtain ⟨i, hi, rfl, ek, -⟩ := eoM_ge h82 h89
                have hi : i < cnt σ c := hi
                refine z_iconst Z (nI 0) d_m_put_96 zi_0 ?_
                refine z_istore Z 5 d_m_put_97 (by decide) rfl ?_
                refine z_iload Z 5 d_m_put_99 rfl ?_
                refine z_if_eq Z 117 d_m_put_101 (by decide) (fun h101 => ?_) (fun hx => absurd hx (fun q => q rfl))
                refine z_iload Z 4 d_m_put_117 rfl ?_
                refine z_istore Z 4 d_m_put_119 (by decide) rfl ?_
                refine z_aload_n Z 0 d_m_put_121 rfl rfl ?_
                refine mg_4 Z d_m_put_122 ?_
                refine z_iload Z 4 d_m_put_125 rfl ?_
                refine z_iload_n Z 2 d_m_put_127 rfl rfl ?_
                refine ms_4 Z (by omega) d_m_put_128 ?_
                refine z_aload_n Z 0 d_m_put_129 rfl rfl ?_
                refine mg_5 Z d_m_put_130 ?_
                refine z_iload Z 4 d_m_put_133 rfl ?_
                refine z_iload_n Z 3 d_m_put_135 rfl rfl ?_
                refine ms_5 Z (by omega) d_m_put_136 ?_
                refine z_aload_n Z 0 d_m_put_137 rfl rfl ?_
                refine mg_6 Z d_m_put_138 ?_
                refine z_iload_n Z 1 d_m_put_141 rfl rfl ?_
                refine z_dup2 Z d_m_put_142 ?_
                refine ml_6 Z (by omega) d_m_put_143 ?_
                refine z_eqi (y := nI (cnt σ c)) e6 ?_
                refine z_iload Z 5 d_m_put_144 rfl ?_
                refine z_if_eq Z 153 d_m_put_146 (by decide) (fun h146 => ?_) (fun hx => absurd hx (fun q => q rfl))
                refine z_iconst Z (nI 0) d_m_put_153 zi_0 ?_
                refine z_iaddN Z d_m_put_154 ?_
                refine ms_6 Z (by omega) d_m_put_155 ?_
                refine z_iload Z 5 d_m_put_156 rfl ?_
                refine z_ri Z _ hr rfl d_m_put_158 (by decide) (by decide) rfl ?_
                exact Or.inr ⟨⟨hx, hk, hv⟩, Or.inr ⟨c, hc, rfl, h36, Or.inr (Or.inl ⟨i, hi, ek, rfl, rfl⟩)⟩⟩
              · have hno : ∀ j, j < cnt σ c → σ 4 (c * 4 + j) ≠ k := eoM_lt h82 h89 (wf_cnt hw hc).1 hc
                have h4 : cnt σ c < 4 := hz.resolve_right (fun ⟨i, hi, e⟩ => hno i hi e)
                refine z_iconst Z (nI 1) d_m_put_92 zi_1 ?_
                refine z_goto Z 97 d_m_put_93 (by decide) ?_
                refine z_istore Z 5 d_m_put_97 (by decide) rfl ?_
                refine z_iload Z 5 d_m_put_99 rfl ?_
                refine z_if_eq Z 117 d_m_put_101 (by decide) (fun hx => absurd hx (show ¬ (nI 1 : Int32) = 0 from by decide)) (fun h101 => ?_)
                refine z_iconst Z (nI 4) d_m_put_104 zi_4 ?_
                refine z_iload_n Z 1 d_m_put_105 rfl rfl ?_
                refine z_imulN Z d_m_put_106 ?_
                refine z_aload_n Z 0 d_m_put_107 rfl rfl ?_
                refine mg_6 Z d_m_put_108 ?_
                refine z_iload_n Z 1 d_m_put_111 rfl rfl ?_
                refine ml_6 Z (by omega) d_m_put_112 ?_
                refine z_eqi (y := nI (cnt σ c)) e6 ?_
                refine z_iaddN Z d_m_put_113 ?_
                refine z_goto Z 119 d_m_put_114 (by decide) ?_
                refine z_eqi (y := nI (c * 4 + cnt σ c)) (by rw [Nat.mul_comm]) ?_
                refine z_istore Z 4 d_m_put_119 (by decide) rfl ?_
                refine z_aload_n Z 0 d_m_put_121 rfl rfl ?_
                refine mg_4 Z d_m_put_122 ?_
                refine z_iload Z 4 d_m_put_125 rfl ?_
                refine z_iload_n Z 2 d_m_put_127 rfl rfl ?_
                refine ms_4 Z (by omega) d_m_put_128 ?_
                refine z_aload_n Z 0 d_m_put_129 rfl rfl ?_
                refine mg_5 Z d_m_put_130 ?_
                refine z_iload Z 4 d_m_put_133 rfl ?_
                refine z_iload_n Z 3 d_m_put_135 rfl rfl ?_
                refine ms_5 Z (by omega) d_m_put_136 ?_
                refine z_aload_n Z 0 d_m_put_137 rfl rfl ?_
                refine mg_6 Z d_m_put_138 ?_
                refine z_iload_n Z 1 d_m_put_141 rfl rfl ?_
                refine z_dup2 Z d_m_put_142 ?_
                refine ml_6 Z (by omega) d_m_put_143 ?_
                refine z_eqi (y := nI (cnt σ c)) e6 ?_
                refine z_iload Z 5 d_m_put_144 rfl ?_
                refine z_if_eq Z 153 d_m_put_146 (by decide) (fun hx => absurd hx (show ¬ (nI 1 : Int32) = 0 from by decide)) (fun h146 => ?_)
                refine z_iconst Z (nI 1) d_m_put_149 zi_1 ?_
                refine z_goto Z 154 d_m_put_150 (by decide) ?_
                refine z_iaddN Z d_m_put_154 ?_
                refine ms_6 Z (by omega) d_m_put_155 ?_
                refine z_iload Z 5 d_m_put_156 rfl ?_
                refine z_ri Z _ hr rfl d_m_put_158 (by decide) (by decide) rfl ?_
                exact Or.inr ⟨⟨hx, hk, hv⟩, Or.inr ⟨c, hc, rfl, h36, Or.inr (Or.inr ⟨hno, h4, rfl, rfl⟩)⟩⟩
            · refine z_iconst Z (nI 3) d_m_put_62 zi_3 ?_
              refine z_goto Z 67 d_m_put_63 (by decide) ?_
              refine mp_0 Z d_m_put_67 ?_
              refine z_aload_n Z 0 d_m_put_70 rfl rfl ?_
              refine mn_0 Z d_m_put_71 ?_
              refine z_if_le Z 79 d_m_put_74 (by decide) (fun hx => absurd hx (show ¬ (nI 3 : Int32) ≤ 0 from by decide)) (fun h74 => ?_)
              refine z_iconst Z (nI 0) d_m_put_77 zi_0 ?_
              refine z_ri Z _ hr rfl d_m_put_78 (by decide) (by decide) rfl ?_
              exact Or.inr ⟨⟨hx, hk, hv⟩, Or.inr ⟨c, hc, rfl, h36, Or.inl ⟨h50, eoM_lt h56 h59 n6 hc, rfl⟩⟩⟩
        · refine z_iconst Z (nI 2) d_m_put_39 zi_2 ?_
          refine z_goto Z 67 d_m_put_40 (by decide) ?_
          refine mp_0 Z d_m_put_67 ?_
          refine z_aload_n Z 0 d_m_put_70 rfl rfl ?_
          refine mn_0 Z d_m_put_71 ?_
          refine z_if_le Z 79 d_m_put_74 (by decide) (fun hx => absurd hx (show ¬ (nI 2 : Int32) ≤ 0 from by decide)) (fun h74 => ?_)
          refine z_iconst Z (nI 0) d_m_put_77 zi_0 ?_
          refine z_ri Z _ hr rfl d_m_put_78 (by decide) (by decide) rfl ?_
          exact Or.inr ⟨⟨hx, hk, hv⟩, Or.inl ⟨fun q => h36 ((isTab_nI hc).mp q), rfl⟩⟩
      · refine z_iconst Z (nI 1) d_m_put_25 zi_1 ?_
        refine z_goto Z 67 d_m_put_26 (by decide) ?_
        refine mp_0 Z d_m_put_67 ?_
        refine z_aload_n Z 0 d_m_put_70 rfl rfl ?_
        refine mn_0 Z d_m_put_71 ?_
        refine z_if_le Z 79 d_m_put_74 (by decide) (fun hx => absurd hx (show ¬ (nI 1 : Int32) ≤ 0 from by decide)) (fun h74 => ?_)
        refine z_iconst Z (nI 0) d_m_put_77 zi_0 ?_
        refine z_ri Z _ hr rfl d_m_put_78 (by decide) (by decide) rfl ?_
        exact Or.inl ⟨fun q => zB0 h19 h22 q.2.2, rfl⟩
set_option maxHeartbeats 4000000 in
set_option maxRecDepth 100000 in
theorem c_m_run {l : Launch} {D : va_G} {cI cB cL : ClassId} {h : Nat → Nat} {σ : St} (hw : wf σ) (h8 : ∀ c, c < 24 → ∃ a, a < 4 ∧ σ 8 c = nI a) {w : Nat} (hw24 : w ≤ 24) (ew : σ 0 1 = nI w) : zMet l y_m_run w_m_run rm_m_run D zCl (zTy cI cB cL) (wm h cI cB σ) [.ref (h 0)] (qi (wm h cI cB) (fun v u => (w = 0 ∧ u = th σ 1) ∨ ∃ w0 c a, w = w0 + 1 ∧ c < 24 ∧ σ 11 0 = nI c ∧ a < 4 ∧ σ 8 c = nI a ∧ v = nI c ∧ u = act (va_up (deq (th σ 0) w0) 7 (upd (σ 7) c (nI 3))) c a) noXs) 0 0 0 0 := by
  refine z_meth (by decide) rfl (Nat.le_of_ble_eq_true rfl) (fun p e s mm as bl me cd Z hr hnm ht => ?_)
  refine z_aload_n Z 0 d_m_run_0 rfl rfl ?_
  refine z_aload_n Z 0 d_m_run_1 rfl rfl ?_
  refine mn_1 Z d_m_run_2 ?_
  refine z_eqi ew ?_
  refine z_if_ne Z 12 d_m_run_5 (by decide) (fun h5 => ?_) (fun h5 => ?_)
  · obtain ⟨w0, rfl⟩ : ∃ w0, w = w0 + 1 := ⟨w - 1, by rcases Nat.eq_zero_or_pos w with q | q; exact absurd (by rw [q]; rfl) h5; omega⟩
    obtain ⟨c, hc, ec⟩ := hw.2.2.2.2.2.2.1 0 (by decide)
    obtain ⟨a, ha, ea⟩ := h8 c hc
    obtain ⟨t, ht6, et⟩ := hw.2.2.2.2.1 c hc
    have ect : (σ 9 c).toNatClampNeg = t := by rw [et, nI_clamp (by omega)]
    refine z_iconst Z (nI 0) d_m_run_12 zi_0 ?_
    refine mp_0 Z d_m_run_13 ?_
    refine z_aload_n Z 0 d_m_run_16 rfl rfl ?_
    refine mn_0 Z d_m_run_17 ?_
    refine z_if_le Z 25 d_m_run_20 (by decide) (fun h20 => ?_) (fun hx => absurd hx (fun q => q (show (nI 0 : Int32) ≤ 0 from by decide)))
    refine z_aload_n Z 0 d_m_run_25 rfl rfl ?_
    refine mg_11 Z d_m_run_26 ?_
    refine z_iconst Z (nI 0) d_m_run_29 zi_0 ?_
    refine ml_11 Z (by omega) d_m_run_30 ?_
    refine z_eqi (y := nI c) ec ?_
    refine z_istore_n Z 1 d_m_run_31 rfl (by decide) rfl ?_
    refine z_aload_n Z 0 d_m_run_32 rfl rfl ?_
    refine z_dup Z d_m_run_33 ?_
    refine mn_1 Z d_m_run_34 ?_
    refine z_eqi (y := nI (w0 + 1)) ew ?_
    refine z_iconst Z (nI 1) d_m_run_37 zi_1 ?_
    refine z_isubN Z d_m_run_38 (by omega) ?_
    refine mp_1 Z d_m_run_39 ?_
    refine z_iconst Z (nI 0) d_m_run_42 zi_0 ?_
    refine z_istore_n Z 2 d_m_run_43 rfl (by decide) rfl ?_
    refine z_lv (lv' := [(0, .ref (h 0)), (1, .int (nI c)), (2, .int (nI 0))]) rfl ?_
    refine z_ws (ws' := wm h cI cB (deqN (th σ 0) w0 0)) rfl ?_
    refine z_loop (fun i : Nat => i ≤ w0) (fun i : Nat => w0 - i) (fun i : Nat => wm h cI cB (deqN (th σ 0) w0 i)) (fun i : Nat => [(0, .ref (h 0)), (1, .int (nI c)), (2, .int (nI i))]) (fun i hi ih => ?_) 0 (by omega)
    refine z_iload_n Z 2 d_m_run_44 rfl rfl ?_
    refine z_aload_n Z 0 d_m_run_45 rfl rfl ?_
    refine mn_1 Z d_m_run_46 ?_
    refine z_eqi (y := nI w0) rfl ?_
    refine z_icmpN_ge Z 72 d_m_run_49 (by decide) (by omega) (by omega) (fun h49 => ?_) (fun h49 => ?_)
    · obtain rfl : i = w0 := by omega
      refine z_aload_n Z 0 d_m_run_72 rfl rfl ?_
      refine mg_7 Z d_m_run_73 ?_
      refine z_iload_n Z 1 d_m_run_76 rfl rfl ?_
      refine z_iconst Z (nI 3) d_m_run_77 zi_3 ?_
      refine ms_7 Z (by omega) d_m_run_78 ?_
      rcases (show a = 0 ∨ a = 1 ∨ a = 2 ∨ a = 3 by omega) with rfl | rfl | rfl | rfl
      · refine z_aload_n Z 0 d_m_run_79 rfl rfl ?_
        refine mg_8 Z d_m_run_80 ?_
        refine z_iload_n Z 1 d_m_run_83 rfl rfl ?_
        refine ml_8 Z (by omega) d_m_run_84 ?_
        refine z_iconst Z (nI 1) d_m_run_85 zi_1 ?_
        refine z_eqi2 (y := nI 0) ea ?_
        refine z_icmpN_ne Z 101 d_m_run_86 (by decide) (by omega) (by omega) (fun h86 => ?_) (fun hx => absurd hx (by omega))
        refine z_aload_n Z 0 d_m_run_101 rfl rfl ?_
        refine mg_8 Z d_m_run_102 ?_
        refine z_iload_n Z 1 d_m_run_105 rfl rfl ?_
        refine ml_8 Z (by omega) d_m_run_106 ?_
        refine z_iconst Z (nI 2) d_m_run_107 zi_2 ?_
        refine z_eqi2 (y := nI 0) ea ?_
        refine z_icmpN_ne Z 139 d_m_run_108 (by decide) (by omega) (by omega) (fun h108 => ?_) (fun hx => absurd hx (by omega))
        refine z_aload_n Z 0 d_m_run_139 rfl rfl ?_
        refine mg_8 Z d_m_run_140 ?_
        refine z_iload_n Z 1 d_m_run_143 rfl rfl ?_
        refine ml_8 Z (by omega) d_m_run_144 ?_
        refine z_iconst Z (nI 3) d_m_run_145 zi_3 ?_
        refine z_eqi2 (y := nI 0) ea ?_
        refine z_icmpN_ne Z 154 d_m_run_146 (by decide) (by omega) (by omega) (fun h146 => ?_) (fun hx => absurd hx (by omega))
        refine z_iload_n Z 1 d_m_run_154 rfl rfl ?_
        refine z_ri Z _ hr rfl d_m_run_155 (by decide) (by decide) rfl ?_
        exact Or.inr ⟨_, c, 0, rfl, hc, ec, by decide, ea, rfl, rfl⟩
      · refine z_aload_n Z 0 d_m_run_79 rfl rfl ?_
        refine mg_8 Z d_m_run_80 ?_
        refine z_iload_n Z 1 d_m_run_83 rfl rfl ?_
        refine ml_8 Z (by omega) d_m_run_84 ?_
        refine z_iconst Z (nI 1) d_m_run_85 zi_1 ?_
        refine z_eqi2 (y := nI 1) ea ?_
        refine z_icmpN_ne Z 101 d_m_run_86 (by decide) (by omega) (by omega) (fun hx => absurd hx (by omega)) (fun h86 => ?_)
        refine z_aload_n Z 0 d_m_run_89 rfl rfl ?_
        refine mg_10 Z d_m_run_90 ?_
        refine z_aload_n Z 0 d_m_run_93 rfl rfl ?_
        refine mg_9 Z d_m_run_94 ?_
        refine z_iload_n Z 1 d_m_run_97 rfl rfl ?_
        refine ml_9 Z (by omega) d_m_run_98 ?_
        refine z_eqi (y := nI t) et ?_
        refine z_iload_n Z 1 d_m_run_99 rfl rfl ?_
        refine ms_10 Z (by omega) d_m_run_100 ?_
        refine z_aload_n Z 0 d_m_run_101 rfl rfl ?_
        refine mg_8 Z d_m_run_102 ?_
        refine z_iload_n Z 1 d_m_run_105 rfl rfl ?_
        refine ml_8 Z (by omega) d_m_run_106 ?_
        refine z_iconst Z (nI 2) d_m_run_107 zi_2 ?_
        refine z_eqi2 (y := nI 1) ea ?_
        refine z_icmpN_ne Z 139 d_m_run_108 (by decide) (by omega) (by omega) (fun h108 => ?_) (fun hx => absurd hx (by omega))
        refine z_aload_n Z 0 d_m_run_139 rfl rfl ?_
        refine mg_8 Z d_m_run_140 ?_
        refine z_iload_n Z 1 d_m_run_143 rfl rfl ?_
        refine ml_8 Z (by omega) d_m_run_144 ?_
        refine z_iconst Z (nI 3) d_m_run_145 zi_3 ?_
        refine z_eqi2 (y := nI 1) ea ?_
        refine z_icmpN_ne Z 154 d_m_run_146 (by decide) (by omega) (by omega) (fun h146 => ?_) (fun hx => absurd hx (by omega))
        refine z_iload_n Z 1 d_m_run_154 rfl rfl ?_
        refine z_ri Z _ hr rfl d_m_run_155 (by decide) (by decide) rfl ?_
        exact Or.inr ⟨_, c, 1, rfl, hc, ec, by decide, ea, rfl, (by show _ = va_up _ 10 (upd (σ 10) (σ 9 c).toNatClampNeg (nI c)); rw [ect]; rfl)⟩
      · refine z_aload_n Z 0 d_m_run_79 rfl rfl ?_
        refine mg_8 Z d_m_run_80 ?_
        refine z_iload_n Z 1 d_m_run_83 rfl rfl ?_
        refine ml_8 Z (by omega) d_m_run_84 ?_
        refine z_iconst Z (nI 1) d_m_run_85 zi_1 ?_
        refine z_eqi2 (y := nI 2) ea ?_
        refine z_icmpN_ne Z 101 d_m_run_86 (by decide) (by omega) (by omega) (fun h86 => ?_) (fun hx => absurd hx (by omega))
        refine z_aload_n Z 0 d_m_run_101 rfl rfl ?_
        refine mg_8 Z d_m_run_102 ?_
        refine z_iload_n Z 1 d_m_run_105 rfl rfl ?_
        refine ml_8 Z (by omega) d_m_run_106 ?_
        refine z_iconst Z (nI 2) d_m_run_107 zi_2 ?_
        refine z_eqi2 (y := nI 2) ea ?_
        refine z_icmpN_ne Z 139 d_m_run_108 (by decide) (by omega) (by omega) (fun hx => absurd hx (by omega)) (fun h108 => ?_)
        refine z_aload_n Z 0 d_m_run_111 rfl rfl ?_
        refine mg_1 Z d_m_run_112 ?_
        refine z_iload_n Z 1 d_m_run_115 rfl rfl ?_
        refine ml_1 Z (by omega) d_m_run_116 ?_
        refine z_if_ne Z 139 d_m_run_117 (by decide) (fun h117 => ?_) (fun h117 => ?_)
        · refine z_aload_n Z 0 d_m_run_139 rfl rfl ?_
          refine mg_8 Z d_m_run_140 ?_
          refine z_iload_n Z 1 d_m_run_143 rfl rfl ?_
          refine ml_8 Z (by omega) d_m_run_144 ?_
          refine z_iconst Z (nI 3) d_m_run_145 zi_3 ?_
          refine z_eqi2 (y := nI 2) ea ?_
          refine z_icmpN_ne Z 154 d_m_run_146 (by decide) (by omega) (by omega) (fun h146 => ?_) (fun hx => absurd hx (by omega))
          refine z_iload_n Z 1 d_m_run_154 rfl rfl ?_
          refine z_ri Z _ hr rfl d_m_run_155 (by decide) (by decide) rfl ?_
          exact Or.inr ⟨_, c, 2, rfl, hc, ec, by decide, ea, rfl, (if_neg h117).symm⟩
        · refine z_aload_n Z 0 d_m_run_120 rfl rfl ?_
          refine mg_10 Z d_m_run_121 ?_
          refine z_aload_n Z 0 d_m_run_124 rfl rfl ?_
          refine mg_9 Z d_m_run_125 ?_
          refine z_iload_n Z 1 d_m_run_128 rfl rfl ?_
          refine ml_9 Z (by omega) d_m_run_129 ?_
          refine z_eqi (y := nI t) et ?_
          refine z_aload_n Z 0 d_m_run_130 rfl rfl ?_
          refine mg_3 Z d_m_run_131 ?_
          refine z_iconst Z (nI 3) d_m_run_134 zi_3 ?_
          refine z_iload_n Z 1 d_m_run_135 rfl rfl ?_
          refine z_imulN Z d_m_run_136 ?_
          refine z_eqi (y := nI (c * 3 + 0)) (congrArg nI (Nat.mul_comm 3 c)) ?_
          refine ml_3 Z (by omega) d_m_run_137 ?_
          refine ms_10 Z (by omega) d_m_run_138 ?_
          refine z_aload_n Z 0 d_m_run_139 rfl rfl ?_
          refine mg_8 Z d_m_run_140 ?_
          refine z_iload_n Z 1 d_m_run_143 rfl rfl ?_
          refine ml_8 Z (by omega) d_m_run_144 ?_
          refine z_iconst Z (nI 3) d_m_run_145 zi_3 ?_
          refine z_eqi2 (y := nI 2) ea ?_
          refine z_icmpN_ne Z 154 d_m_run_146 (by decide) (by omega) (by omega) (fun h146 => ?_) (fun hx => absurd hx (by omega))
          refine z_iload_n Z 1 d_m_run_154 rfl rfl ?_
          refine z_ri Z _ hr rfl d_m_run_155 (by decide) (by decide) rfl ?_
          exact Or.inr ⟨_, c, 2, rfl, hc, ec, by decide, ea, rfl, (by refine Eq.trans ?_ (if_pos h117).symm; show _ = va_up _ 10 (upd (σ 10) (σ 9 c).toNatClampNeg (σ 3 (c * 3 + 0))); rw [ect]; rfl)⟩
      · refine z_aload_n Z 0 d_m_run_79 rfl rfl ?_
        refine mg_8 Z d_m_run_80 ?_
        refine z_iload_n Z 1 d_m_run_83 rfl rfl ?_
        refine ml_8 Z (by omega) d_m_run_84 ?_
        refine z_iconst Z (nI 1) d_m_run_85 zi_1 ?_
        refine z_eqi2 (y := nI 3) ea ?_
        refine z_icmpN_ne Z 101 d_m_run_86 (by decide) (by omega) (by omega) (fun h86 => ?_) (fun hx => absurd hx (by omega))
        refine z_aload_n Z 0 d_m_run_101 rfl rfl ?_
        refine mg_8 Z d_m_run_102 ?_
        refine z_iload_n Z 1 d_m_run_105 rfl rfl ?_
        refine ml_8 Z (by omega) d_m_run_106 ?_
        refine z_iconst Z (nI 2) d_m_run_107 zi_2 ?_
        refine z_eqi2 (y := nI 3) ea ?_
        refine z_icmpN_ne Z 139 d_m_run_108 (by decide) (by omega) (by omega) (fun h108 => ?_) (fun hx => absurd hx (by omega))
        refine z_aload_n Z 0 d_m_run_139 rfl rfl ?_
        refine mg_8 Z d_m_run_140 ?_
        refine z_iload_n Z 1 d_m_run_143 rfl rfl ?_
        refine ml_8 Z (by omega) d_m_run_144 ?_
        refine z_iconst Z (nI 3) d_m_run_145 zi_3 ?_
        refine z_eqi2 (y := nI 3) ea ?_
        refine z_icmpN_ne Z 154 d_m_run_146 (by decide) (by omega) (by omega) (fun hx => absurd hx (by omega)) (fun h146 => ?_)
        refine z_aload_n Z 0 d_m_run_149 rfl rfl ?_
        refine z_iload_n Z 1 d_m_run_150 rfl rfl ?_
        refine z_Wv Z (c_m_lose hc) (ok_m_lose _) rfl rfl ⟨by decide, by decide⟩ rfl rfl rfl rfl (Nat.le_of_ble_eq_true rfl) d_m_run_151 ⟨by decide, by decide⟩ (fun E u h => h.elim) (fun u151 h151 => ?_)
        subst h151
        refine z_iload_n Z 1 d_m_run_154 rfl rfl ?_
        refine z_ri Z _ hr rfl d_m_run_155 (by decide) (by decide) rfl ?_
        exact Or.inr ⟨_, c, 3, rfl, hc, ec, by decide, ea, rfl, rfl⟩
    · refine z_aload_n Z 0 d_m_run_52 rfl rfl ?_
      refine mg_11 Z d_m_run_53 ?_
      refine z_iload_n Z 2 d_m_run_56 rfl rfl ?_
      refine z_aload_n Z 0 d_m_run_57 rfl rfl ?_
      refine mg_11 Z d_m_run_58 ?_
      refine z_iload_n Z 2 d_m_run_61 rfl rfl ?_
      refine z_iconst Z (nI 1) d_m_run_62 zi_1 ?_
      refine z_iaddN Z d_m_run_63 ?_
      refine ml_11 Z (by omega) d_m_run_64 ?_
      refine ms_11 Z (by omega) d_m_run_65 ?_
      refine z_iincN Z 2 d_m_run_66 rfl (by decide) rfl ?_
      refine z_goto Z 44 d_m_run_69 (by decide) ?_
      refine z_ws (ws' := wm h cI cB (deqN (th σ 0) w0 (i + 1))) (by rw [← deqN_s]; rfl) ?_
      exact z_lv rfl (ih (i + 1) (by omega) (by omega))
  · refine z_iconst Z (nI 1) d_m_run_8 zi_1 ?_
    refine z_goto Z 13 d_m_run_9 (by decide) ?_
    refine mp_0 Z d_m_run_13 ?_
    refine z_aload_n Z 0 d_m_run_16 rfl rfl ?_
    refine mn_0 Z d_m_run_17 ?_
    refine z_if_le Z 25 d_m_run_20 (by decide) (fun hx => absurd hx (show ¬ (nI 1 : Int32) ≤ 0 from by decide)) (fun h20 => ?_)
    refine z_iconst Z (nI 0) d_m_run_23 zi_0 ?_
    refine z_ri Z _ hr rfl d_m_run_24 (by decide) (by decide) rfl ?_
    exact Or.inl ⟨nI_z hw24 h5, rfl⟩
set_option maxHeartbeats 4000000 in
set_option maxRecDepth 100000 in
theorem c_m_gather {l : Launch} {D : va_G} {cI cB cL : ClassId} {h : Nat → Nat} {σ : St} (hw : wf σ) (hq : qI σ) : zMet l y_m_gather w_m_gather rm_m_gather D zCl (zTy cI cB cL) (wm h cI cB σ) [.ref (h 0)] (qi (wm h cI cB) (fun v u => gatM σ v u) noXs) 0 0 0 0 := by
  refine z_meth (by decide) rfl (Nat.le_of_ble_eq_true rfl) (fun p e s mm as bl me cd Z hr hnm ht => ?_)
  refine z_aload_n Z 0 d_m_gather_0 rfl rfl ?_
  refine z_dup Z d_m_gather_1 ?_
  refine mn_3 Z d_m_gather_2 ?_
  refine z_iconst Z (nI 1) d_m_gather_5 zi_1 ?_
  refine z_iadd Z d_m_gather_6 ?_
  refine mp_3 Z d_m_gather_7 ?_
  refine z_iconst Z (nI 0) d_m_gather_10 zi_0 ?_
  refine z_istore_n Z 1 d_m_gather_11 rfl (by decide) rfl ?_
  refine z_lv (lv' := [(0, .ref (h 0)), (1, .int (nI 0))]) rfl ?_
  refine z_ws (ws' := wm h cI cB (va_up (col1 σ) 12 (clG (σ 12) 0))) rfl ?_
  refine z_loop (fun i : Nat => i ≤ 24) (fun i : Nat => 24 - i) (fun i : Nat => wm h cI cB (va_up (col1 σ) 12 (clG (σ 12) i))) (fun i : Nat => [(0, .ref (h 0)), (1, .int (nI i))]) (fun i hi ih => ?_) 0 (by omega)
  refine z_iload_n Z 1 d_m_gather_12 rfl rfl ?_
  refine z_bipush Z (nI 24) d_m_gather_13 zb_24 ?_
  refine z_icmpN_ge Z 31 d_m_gather_15 (by decide) (by omega) (by omega) (fun h15 => ?_) (fun h15 => ?_)
  · obtain rfl : i = 24 := by omega
    refine z_iconst Z (nI 0) d_m_gather_31 zi_0 ?_
    refine z_istore_n Z 1 d_m_gather_32 rfl (by decide) rfl ?_
    refine z_lv (lv' := [(0, .ref (h 0)), (1, .int (nI 0))]) rfl ?_
    refine z_loop (fun q : Nat × (Nat → Int32) => q.1 ≤ 6 ∧ gOk q.2 ∧ ∀ c, c < 24 → (q.2 c = nI 1 ↔ (False ∨ ∃ r, r < q.1 ∧ (col1 σ) 10 r = nI c))) (fun q : Nat × (Nat → Int32) => 6 - q.1) (fun q : Nat × (Nat → Int32) => wm h cI cB (va_up (col1 σ) 12 q.2)) (fun q : Nat × (Nat → Int32) => [(0, .ref (h 0)), (1, .int (nI q.1))]) (fun q hi ih => ?_) (0, clG (σ 12) 24) ⟨by omega, fun c hc => Or.inl (clG_0 _ hc), fun c hc => ⟨fun q => absurd ((clG_0 _ hc).symm.trans q) (by decide), fun q => by rcases q with q | ⟨r, hr, -⟩; exact q.elim; exact absurd hr (Nat.not_lt_zero _)⟩⟩
    obtain ⟨i, g⟩ := q
    dsimp only at hi ih ⊢
    refine z_iload_n Z 1 d_m_gather_33 rfl rfl ?_
    refine z_bipush Z (nI 6) d_m_gather_34 zb_6 ?_
    refine z_icmpN_ge Z 56 d_m_gather_36 (by decide) (by omega) (by omega) (fun h36 => ?_) (fun h36 => ?_)
    · obtain rfl : i = 6 := by omega
      have hR := hi.2.2
      refine z_aload_n Z 0 d_m_gather_56 rfl rfl ?_
      refine z_Wv Z (c_m_close (σ := col1 σ) (wf_0 hw) (g := g) hi.2.1) (ok_m_close _) rfl rfl ⟨by decide, by decide⟩ rfl rfl rfl rfl (Nat.le_of_ble_eq_true rfl) d_m_gather_57 ⟨by decide, by decide⟩ (fun E u h => h.elim) (fun u57 h57 => ?_)
      refine z_aload_n Z 0 d_m_gather_60 rfl rfl ?_
      refine z_Wv Z (c_m_forget (σ := va_up (col1 σ) 12 u57) (wf_12 (wf_0 hw)) h57.1) (ok_m_forget _) rfl rfl ⟨by decide, by decide⟩ rfl rfl rfl rfl (Nat.le_of_ble_eq_true rfl) d_m_gather_61 ⟨by decide, by decide⟩ (fun E u h => h.elim) (fun u61 h61 => ?_)
      have e12 : u61 12 = u57 := fgo_12 h61
      have hw2 : wf u61 := fgo_wf h61
      have hq2 : qI u61 := qI_fgo h61 (qI_12 (qI_col hq))
      refine z_iconst Z (nI 0) d_m_gather_64 zi_0 ?_
      refine z_istore_n Z 1 d_m_gather_65 rfl (by decide) rfl ?_
      refine z_lv (lv' := [(0, .ref (h 0)), (1, .int (nI 0))]) rfl ?_
      refine z_ws (ws' := wm h cI cB (qst u61 (qM u61 u57) 0)) rfl ?_
      refine z_loop (fun i : Nat => i ≤ 24) (fun i : Nat => 24 - i) (fun i : Nat => wm h cI cB (qst u61 (qM u61 u57) i)) (fun i : Nat => [(0, .ref (h 0)), (1, .int (nI i))]) (fun i hi ih => ?_) 0 (by omega)
      obtain ⟨hwi, hqi⟩ := qst_ok hw2 hq2 (qM u61 u57) hi
      have s1 : (qst u61 (qM u61 u57) i) 1 = u61 1 := qst_k _ _ _ (by decide) (by decide) (by decide)
      have s12 : (qst u61 (qM u61 u57) i) 12 = u57 := (qst_k _ _ _ (by decide) (by decide) (by decide)).trans e12
      refine z_iload_n Z 1 d_m_gather_66 rfl rfl ?_
      refine z_bipush Z (nI 24) d_m_gather_67 zb_24 ?_
      refine z_icmpN_ge Z 133 d_m_gather_69 (by decide) (by omega) (by omega) (fun h69 => ?_) (fun h69 => ?_)
      · obtain rfl : i = 24 := by omega
        obtain ⟨w, hw24, ew, -, -⟩ := id hqi
        refine z_iconst Z (nI 0) d_m_gather_133 zi_0 ?_
        refine z_istore_n Z 1 d_m_gather_134 rfl (by decide) rfl ?_
        refine z_lv (lv' := [(0, .ref (h 0)), (1, .int (nI 0))]) rfl ?_
        refine z_ws (ws' := wm h cI cB (va_up (qst u61 (qM u61 u57) 24) 12 u57)) (congrArg (wm h cI cB) (up_eq s12).symm) ?_
        refine z_loop (fun q : Nat × (Nat → Int32) => q.1 ≤ w ∧ gOk q.2 ∧ ∀ c, c < 24 → (q.2 c = nI 1 ↔ (u57 c = nI 1 ∨ ∃ r, r < q.1 ∧ (qst u61 (qM u61 u57) 24) 11 r = nI c))) (fun q : Nat × (Nat → Int32) => w - q.1) (fun q : Nat × (Nat → Int32) => wm h cI cB (va_up (qst u61 (qM u61 u57) 24) 12 q.2)) (fun q : Nat × (Nat → Int32) => [(0, .ref (h 0)), (1, .int (nI q.1))]) (fun q hi ih => ?_) (0, u57) ⟨by omega, h57.1, fun c hc => ⟨Or.inl, fun q => by rcases q with q | ⟨r, hr, -⟩; exact q; exact absurd hr (Nat.not_lt_zero _)⟩⟩
        obtain ⟨i, g'⟩ := q
        dsimp only at hi ih ⊢
        refine z_iload_n Z 1 d_m_gather_135 rfl rfl ?_
        refine z_aload_n Z 0 d_m_gather_136 rfl rfl ?_
        refine mn_1 Z d_m_gather_137 ?_
        refine z_eqi (y := nI w) ew ?_
        refine z_icmpN_ge Z 160 d_m_gather_140 (by decide) (by omega) (by omega) (fun h140 => ?_) (fun h140 => ?_)
        · obtain rfl : i = w := by omega
          refine z_aload_n Z 0 d_m_gather_160 rfl rfl ?_
          refine z_Wv Z (c_m_close (σ := (qst u61 (qM u61 u57) 24)) hwi (g := g') hi.2.1) (ok_m_close _) rfl rfl ⟨by decide, by decide⟩ rfl rfl rfl rfl (Nat.le_of_ble_eq_true rfl) d_m_gather_161 ⟨by decide, by decide⟩ (fun E u h => h.elim) (fun u161 h161 => ?_)
          refine z_aload_n Z 0 d_m_gather_164 rfl rfl ?_
          refine z_Wv Z (c_m_forget (σ := va_up (qst u61 (qM u61 u57) 24) 12 u161) (wf_12 hwi) h161.1) (ok_m_forget _) rfl rfl ⟨by decide, by decide⟩ rfl rfl rfl rfl (Nat.le_of_ble_eq_true rfl) d_m_gather_165 ⟨by decide, by decide⟩ (fun E u h => h.elim) (fun u165 h165 => ?_)
          have f12 : u165 12 = u161 := fgo_12 h165
          refine z_iconst Z (nI 0) d_m_gather_168 zi_0 ?_
          refine z_istore_n Z 1 d_m_gather_169 rfl (by decide) rfl ?_
          refine z_iconst Z (nI 0) d_m_gather_170 zi_0 ?_
          refine z_istore_n Z 2 d_m_gather_171 rfl (by decide) rfl ?_
          refine z_lv (lv' := [(0, .ref (h 0)), (1, .int (nI (num (qM u165 u161) 0))), (2, .int (nI 0))]) rfl ?_
          refine z_ws (ws' := wm h cI cB (frS u165 (qM u165 u161) 0)) rfl ?_
          refine z_loop (fun i : Nat => i ≤ 24) (fun i : Nat => 24 - i) (fun i : Nat => wm h cI cB (frS u165 (qM u165 u161) i)) (fun i : Nat => [(0, .ref (h 0)), (1, .int (nI (num (qM u165 u161) i))), (2, .int (nI i))]) (fun i hj ih => ?_) 0 (by omega)
          have t1 : (frS u165 (qM u165 u161) i) 1 i = u165 1 i := frS_1 _ _ (Nat.le_refl _)
          have t12 : (frS u165 (qM u165 u161) i) 12 = u161 := (frS_12 _ _ _).trans f12
          refine z_iload_n Z 2 d_m_gather_172 rfl rfl ?_
          refine z_bipush Z (nI 24) d_m_gather_173 zb_24 ?_
          refine z_icmpN_ge Z 235 d_m_gather_175 (by decide) (by omega) (by omega) (fun h175 => ?_) (fun h175 => ?_)
          · obtain rfl : i = 24 := by omega
            refine z_iload_n Z 1 d_m_gather_235 rfl rfl ?_
            refine z_ri Z _ hr rfl d_m_gather_236 (by decide) (by decide) rfl ?_
            exact ⟨_, _, _, _, _, _, _, fun c hc => ⟨fun q => ((hR c hc).mp q).resolve_left id, fun q => (hR c hc).mpr (Or.inr q)⟩, h57, h61, hw24, ew, hi.2.2, h161, h165, rfl, rfl⟩
          · refine z_aload_n Z 0 d_m_gather_178 rfl rfl ?_
            refine mg_1 Z d_m_gather_179 ?_
            refine z_iload_n Z 2 d_m_gather_182 rfl rfl ?_
            refine ml_1 Z (by omega) d_m_gather_183 ?_
            refine z_if_lt Z 229 d_m_gather_184 (by decide) (fun h184 => ?_) (fun h184 => ?_)
            · have hD : (qM u165 u161) i = false := decide_eq_false (fun q => q.1 (by rw [← t1]; exact h184))
              refine z_iincN Z 2 d_m_gather_229 rfl (by decide) rfl ?_
              refine z_goto Z 172 d_m_gather_232 (by decide) ?_
              exact z_ws (by rw [frS_n hD]) (z_lv (by rw [num_n hD]; rfl) (ih (i + 1) (by omega) (by omega)))
            · refine z_aload_n Z 0 d_m_gather_187 rfl rfl ?_
              refine mg_12 Z d_m_gather_188 ?_
              refine z_iload_n Z 2 d_m_gather_191 rfl rfl ?_
              refine ml_12 Z (by omega) d_m_gather_192 ?_
              refine z_if_ne Z 229 d_m_gather_193 (by decide) (fun h193 => ?_) (fun h193 => ?_)
              · have hD : (qM u165 u161) i = false := decide_eq_false (fun q => h193 (by rw [t12]; exact q.2))
                refine z_iincN Z 2 d_m_gather_229 rfl (by decide) rfl ?_
                refine z_goto Z 172 d_m_gather_232 (by decide) ?_
                exact z_ws (by rw [frS_n hD]) (z_lv (by rw [num_n hD]; rfl) (ih (i + 1) (by omega) (by omega)))
              · have hD : (qM u165 u161) i = true := decide_eq_true ⟨by rw [← t1]; exact h184, by rw [← t12]; exact h193⟩
                refine z_aload_n Z 0 d_m_gather_196 rfl rfl ?_
                refine mg_1 Z d_m_gather_197 ?_
                refine z_iload_n Z 2 d_m_gather_200 rfl rfl ?_
                refine z_iconst Z (-1) d_m_gather_201 zi_m1 ?_
                refine ms_1 Z (by omega) d_m_gather_202 ?_
                refine z_aload_n Z 0 d_m_gather_203 rfl rfl ?_
                refine mg_6 Z d_m_gather_204 ?_
                refine z_iload_n Z 2 d_m_gather_207 rfl rfl ?_
                refine z_iconst Z (nI 0) d_m_gather_208 zi_0 ?_
                refine ms_6 Z (by omega) d_m_gather_209 ?_
                refine z_aload_n Z 0 d_m_gather_210 rfl rfl ?_
                refine mg_3 Z d_m_gather_211 ?_
                refine z_iconst Z (nI 3) d_m_gather_214 zi_3 ?_
                refine z_iload_n Z 2 d_m_gather_215 rfl rfl ?_
                refine z_imulN Z d_m_gather_216 ?_
                refine z_iconst Z (-1) d_m_gather_217 zi_m1 ?_
                refine z_eqi2 (y := nI (i * 3 + 0)) (congrArg nI (Nat.mul_comm 3 i)) ?_
                refine ms_3 Z (by omega) d_m_gather_218 ?_
                refine z_aload_n Z 0 d_m_gather_219 rfl rfl ?_
                refine mg_7 Z d_m_gather_220 ?_
                refine z_iload_n Z 2 d_m_gather_223 rfl rfl ?_
                refine z_iconst Z (nI 0) d_m_gather_224 zi_0 ?_
                refine ms_7 Z (by omega) d_m_gather_225 ?_
                refine z_iincN Z 1 d_m_gather_226 rfl (by decide) rfl ?_
                refine z_iincN Z 2 d_m_gather_229 rfl (by decide) rfl ?_
                refine z_goto Z 172 d_m_gather_232 (by decide) ?_
                refine z_ws (ws' := wm h cI cB (frS u165 (qM u165 u161) (i + 1))) (by rw [frS_y hD]; rfl) ?_
                exact z_lv (by rw [num_y hD]; rfl) (ih (i + 1) (by omega) (by omega))
        · refine z_aload_n Z 0 d_m_gather_143 rfl rfl ?_
          refine z_aload_n Z 0 d_m_gather_144 rfl rfl ?_
          refine mg_11 Z d_m_gather_145 ?_
          refine z_iload_n Z 1 d_m_gather_148 rfl rfl ?_
          refine ml_11 Z (by omega) d_m_gather_149 ?_
          refine z_Wi Z (c_m_add (σ := (qst u61 (qM u61 u57) 24)) (g := g') hi.2.1 (cl24_nc (hwi.2.2.2.2.2.2.1 i (by omega)))) (ok_m_add _) rfl rfl ⟨by decide, by decide⟩ rfl rfl rfl rfl (Nat.le_of_ble_eq_true rfl) d_m_gather_150 ⟨by decide, by decide⟩ (fun E u h => h.elim) (fun v150 u150 h150 => ?_)
          refine z_pop Z d_m_gather_153 ?_
          refine z_iincN Z 1 d_m_gather_154 rfl (by decide) rfl ?_
          refine z_goto Z 135 d_m_gather_157 (by decide) ?_
          exact z_lv rfl (ih (i + 1, u150) ⟨by omega, adG_bl hi.2.1 h150, adS hi.2.2 h150 rfl⟩ (by dsimp only; omega))
      · refine z_aload_n Z 0 d_m_gather_72 rfl rfl ?_
        refine mg_1 Z d_m_gather_73 ?_
        refine z_iload_n Z 1 d_m_gather_76 rfl rfl ?_
        refine ml_1 Z (by omega) d_m_gather_77 ?_
        refine z_if_lt Z 127 d_m_gather_78 (by decide) (fun h78 => ?_) (fun h78 => ?_)
        · refine z_iincN Z 1 d_m_gather_127 rfl (by decide) rfl ?_
          refine z_goto Z 66 d_m_gather_130 (by decide) ?_
          exact z_ws (by rw [qst_no (fun q => (of_decide_eq_true q.1).1 (by rw [← s1]; exact h78))]) (z_lv rfl (ih (i + 1) (by omega) (by omega)))
        · refine z_aload_n Z 0 d_m_gather_81 rfl rfl ?_
          refine mg_12 Z d_m_gather_82 ?_
          refine z_iload_n Z 1 d_m_gather_85 rfl rfl ?_
          refine ml_12 Z (by omega) d_m_gather_86 ?_
          refine z_if_ne Z 127 d_m_gather_87 (by decide) (fun h87 => ?_) (fun h87 => ?_)
          · refine z_iincN Z 1 d_m_gather_127 rfl (by decide) rfl ?_
            refine z_goto Z 66 d_m_gather_130 (by decide) ?_
            exact z_ws (by rw [qst_no (fun q => h87 (by rw [s12]; exact (of_decide_eq_true q.1).2))]) (z_lv rfl (ih (i + 1) (by omega) (by omega)))
          · refine z_aload_n Z 0 d_m_gather_90 rfl rfl ?_
            refine mg_7 Z d_m_gather_91 ?_
            refine z_iload_n Z 1 d_m_gather_94 rfl rfl ?_
            refine ml_7 Z (by omega) d_m_gather_95 ?_
            refine z_iconst Z (nI 1) d_m_gather_96 zi_1 ?_
            refine z_icmp_ne Z 127 d_m_gather_97 (by decide) (fun h97 => ?_) (fun h97 => ?_)
            · refine z_iincN Z 1 d_m_gather_127 rfl (by decide) rfl ?_
              refine z_goto Z 66 d_m_gather_130 (by decide) ?_
              exact z_ws (by rw [qst_no (fun q => h97 q.2)]) (z_lv rfl (ih (i + 1) (by omega) (by omega)))
            · obtain ⟨w, hw24, ew, -, -⟩ := id hqi
              have hwl : w < 24 := qI_room hqi ew hw24 (by omega) h97
              have ecl : ((qst u61 (qM u61 u57) i) 0 1).toNatClampNeg = w := by rw [ew, nI_clamp (by omega)]
              refine z_aload_n Z 0 d_m_gather_100 rfl rfl ?_
              refine mg_7 Z d_m_gather_101 ?_
              refine z_iload_n Z 1 d_m_gather_104 rfl rfl ?_
              refine z_iconst Z (nI 2) d_m_gather_105 zi_2 ?_
              refine ms_7 Z (by omega) d_m_gather_106 ?_
              refine z_aload_n Z 0 d_m_gather_107 rfl rfl ?_
              refine mg_11 Z d_m_gather_108 ?_
              refine z_aload_n Z 0 d_m_gather_111 rfl rfl ?_
              refine mn_1 Z d_m_gather_112 ?_
              refine z_eqi (y := nI w) ew ?_
              refine z_iload_n Z 1 d_m_gather_115 rfl rfl ?_
              refine ms_11 Z (by omega) d_m_gather_116 ?_
              refine z_aload_n Z 0 d_m_gather_117 rfl rfl ?_
              refine z_dup Z d_m_gather_118 ?_
              refine mn_1 Z d_m_gather_119 ?_
              refine z_eqi (y := nI w) ew ?_
              refine z_iconst Z (nI 1) d_m_gather_122 zi_1 ?_
              refine z_iaddN Z d_m_gather_123 ?_
              refine mp_1 Z d_m_gather_124 ?_
              refine z_iincN Z 1 d_m_gather_127 rfl (by decide) rfl ?_
              refine z_goto Z 66 d_m_gather_130 (by decide) ?_
              refine z_ws (ws' := wm h cI cB (qst u61 (qM u61 u57) (i + 1))) (by rw [qst_yes ⟨decide_eq_true ⟨by rw [← s1]; exact h78, by rw [← s12]; exact h87⟩, h97⟩, enq, ecl]; rfl) ?_
              exact z_lv rfl (ih (i + 1) (by omega) (by omega))
    · refine z_aload_n Z 0 d_m_gather_39 rfl rfl ?_
      refine z_aload_n Z 0 d_m_gather_40 rfl rfl ?_
      refine mg_10 Z d_m_gather_41 ?_
      refine z_iload_n Z 1 d_m_gather_44 rfl rfl ?_
      refine ml_10 Z (by omega) d_m_gather_45 ?_
      refine z_Wi Z (c_m_add (σ := col1 σ) (g := g) hi.2.1 (hw.2.2.2.2.2.1 i (by omega))) (ok_m_add _) rfl rfl ⟨by decide, by decide⟩ rfl rfl rfl rfl (Nat.le_of_ble_eq_true rfl) d_m_gather_46 ⟨by decide, by decide⟩ (fun E u h => h.elim) (fun v46 u46 h46 => ?_)
      refine z_pop Z d_m_gather_49 ?_
      refine z_iincN Z 1 d_m_gather_50 rfl (by decide) rfl ?_
      refine z_goto Z 33 d_m_gather_53 (by decide) ?_
      exact z_lv rfl (ih (i + 1, u46) ⟨by omega, adG_bl hi.2.1 h46, adS hi.2.2 h46 rfl⟩ (by dsimp only; omega))
  · refine z_aload_n Z 0 d_m_gather_18 rfl rfl ?_
    refine mg_12 Z d_m_gather_19 ?_
    refine z_iload_n Z 1 d_m_gather_22 rfl rfl ?_
    refine z_iconst Z (nI 0) d_m_gather_23 zi_0 ?_
    refine ms_12 Z (by omega) d_m_gather_24 rfl ?_
    refine z_iincN Z 1 d_m_gather_25 rfl (by decide) rfl ?_
    refine z_goto Z 12 d_m_gather_28 (by decide) ?_
    exact z_ws rfl (z_lv rfl (ih (i + 1) (by omega) (by omega)))
set_option maxHeartbeats 4000000 in
set_option maxRecDepth 100000 in
theorem c_m_make {l : Launch} {D : va_G} {cI cB cL : ClassId} {h : Nat → Nat} {σ : St} (hw : wf σ) (hq : qI σ) {k : Int32} : zMet l y_m_make w_m_make rm_m_make D zCl (zTy cI cB cL) (wm h cI cB σ) [.ref (h 0), .int k] (qi (wm h cI cB) (fun v u => mkM σ k v u) noXs) 0 0 0 0 := by
  refine z_meth (by decide) rfl (Nat.le_of_ble_eq_true rfl) (fun p e s mm as bl me cd Z hr hnm ht => ?_)
  refine z_aload_n Z 0 d_m_make_0 rfl rfl ?_
  refine z_iload_n Z 1 d_m_make_1 rfl rfl ?_
  refine z_if_lt Z 10 d_m_make_2 (by decide) (fun h2 => ?_) (fun h2 => ?_)
  · refine z_iconst Z (nI 1) d_m_make_10 zi_1 ?_
    refine z_goto Z 15 d_m_make_11 (by decide) ?_
    refine mp_0 Z d_m_make_15 ?_
    refine z_aload_n Z 0 d_m_make_18 rfl rfl ?_
    refine mn_0 Z d_m_make_19 ?_
    refine z_if_le Z 27 d_m_make_22 (by decide) (fun hx => absurd hx (show ¬ (nI 1 : Int32) ≤ 0 from by decide)) (fun h22 => ?_)
    refine z_iconst Z (nI 0) d_m_make_25 zi_0 ?_
    refine z_ri Z _ hr rfl d_m_make_26 (by decide) (by decide) rfl ?_
    exact Or.inl ⟨fun ⟨i, hi, q⟩ => nI_pos (by omega) (q ▸ h2), rfl⟩
  · refine z_iload_n Z 1 d_m_make_5 rfl rfl ?_
    refine z_iconst Z (nI 2) d_m_make_6 zi_2 ?_
    refine z_icmp_le Z 14 d_m_make_7 (by decide) (fun h7 => ?_) (fun h7 => ?_)
    · have hk : isK k := isK_of h2 h7
      refine z_iconst Z (nI 0) d_m_make_14 zi_0 ?_
      refine mp_0 Z d_m_make_15 ?_
      refine z_aload_n Z 0 d_m_make_18 rfl rfl ?_
      refine mn_0 Z d_m_make_19 ?_
      refine z_if_le Z 27 d_m_make_22 (by decide) (fun h22 => ?_) (fun hx => absurd hx (fun q => q (show (nI 0 : Int32) ≤ 0 from by decide)))
      refine z_aload_n Z 0 d_m_make_27 rfl rfl ?_
      refine z_Wi0 Z (c_m_freeCell ) (ok_m_freeCell _) rfl rfl ⟨by decide, by decide⟩ rfl rfl rfl rfl (Nat.le_of_ble_eq_true rfl) d_m_make_28 ⟨by decide, by decide⟩ (fun E h => h.elim) (fun v28 h28 => ?_)
      refine z_if_ge Z 39 d_m_make_31 (by decide) (fun h31 => ?_) (fun h31 => ?_)
      · obtain ⟨c0, hl0, -⟩ := fcM_s h28 h31
        refine z_aload_n Z 0 d_m_make_39 rfl rfl ?_
        refine z_Wi0 Z (c_m_freeCell ) (ok_m_freeCell _) rfl rfl ⟨by decide, by decide⟩ rfl rfl rfl rfl (Nat.le_of_ble_eq_true rfl) d_m_make_40 ⟨by decide, by decide⟩ (fun E h => h.elim) (fun v40 h40 => ?_)
        obtain ⟨c, hlf, rfl⟩ := fcM_a h40 hl0
        have hc : c < 24 := hlf.1
        refine z_istore_n Z 2 d_m_make_43 rfl (by decide) rfl ?_
        refine z_aload_n Z 0 d_m_make_44 rfl rfl ?_
        refine z_iload_n Z 2 d_m_make_45 rfl rfl ?_
        refine z_if_ge Z 53 d_m_make_46 (by decide) (fun h46 => ?_) (fun hx => absurd hx (fun q => q (nI_pos' (by omega))))
        refine z_iconst Z (nI 0) d_m_make_53 zi_0 ?_
        refine mp_0 Z d_m_make_54 ?_
        refine z_aload_n Z 0 d_m_make_57 rfl rfl ?_
        refine mn_0 Z d_m_make_58 ?_
        refine z_if_le Z 66 d_m_make_61 (by decide) (fun h61 => ?_) (fun hx => absurd hx (fun q => q (show (nI 0 : Int32) ≤ 0 from by decide)))
        refine z_aload_n Z 0 d_m_make_66 rfl rfl ?_
        refine z_dup Z d_m_make_67 ?_
        refine mn_2 Z d_m_make_68 ?_
        refine z_iconst Z (nI 1) d_m_make_71 zi_1 ?_
        refine z_iadd Z d_m_make_72 ?_
        refine mp_2 Z d_m_make_73 ?_
        refine z_aload_n Z 0 d_m_make_76 rfl rfl ?_
        refine mg_1 Z d_m_make_77 ?_
        refine z_iload_n Z 2 d_m_make_80 rfl rfl ?_
        refine z_iload_n Z 1 d_m_make_81 rfl rfl ?_
        refine ms_1 Z (by omega) d_m_make_82 ?_
        refine z_aload_n Z 0 d_m_make_83 rfl rfl ?_
        refine mg_2 Z d_m_make_84 ?_
        refine z_iload_n Z 2 d_m_make_87 rfl rfl ?_
        refine z_aload_n Z 0 d_m_make_88 rfl rfl ?_
        refine mn_2 Z d_m_make_89 ?_
        refine ms_2 Z (by omega) d_m_make_92 ?_
        refine z_aload_n Z 0 d_m_make_93 rfl rfl ?_
        refine mg_7 Z d_m_make_94 ?_
        refine z_iload_n Z 2 d_m_make_97 rfl rfl ?_
        refine z_iconst Z (nI 0) d_m_make_98 zi_0 ?_
        refine ms_7 Z (by omega) d_m_make_99 ?_
        refine z_aload_n Z 0 d_m_make_100 rfl rfl ?_
        refine z_iload_n Z 2 d_m_make_101 rfl rfl ?_
        refine z_Wv Z (c_m_lose hc) (ok_m_lose _) rfl rfl ⟨by decide, by decide⟩ rfl rfl rfl rfl (Nat.le_of_ble_eq_true rfl) d_m_make_102 ⟨by decide, by decide⟩ (fun E u h => h.elim) (fun u102 h102 => ?_)
        subst h102
        refine z_iload_n Z 2 d_m_make_105 rfl rfl ?_
        refine z_ri Z _ hr rfl d_m_make_106 (by decide) (by decide) rfl ?_
        exact Or.inr ⟨hk, Or.inl ⟨c, hlf, rfl, rfl⟩⟩
      · refine z_aload_n Z 0 d_m_make_34 rfl rfl ?_
        refine z_Wi Z (c_m_gather (wf_th hw) hq) (ok_m_gather _) rfl rfl ⟨by decide, by decide⟩ rfl rfl rfl rfl (Nat.le_of_ble_eq_true rfl) d_m_make_35 ⟨by decide, by decide⟩ (fun E u h => h.elim) (fun v35 u35 h35 => ?_)
        refine z_pop Z d_m_make_38 ?_
        refine z_aload_n Z 0 d_m_make_39 rfl rfl ?_
        refine z_Wi0 Z (c_m_freeCell ) (ok_m_freeCell _) rfl rfl ⟨by decide, by decide⟩ rfl rfl rfl rfl (Nat.le_of_ble_eq_true rfl) d_m_make_40 ⟨by decide, by decide⟩ (fun E h => h.elim) (fun v40 h40 => ?_)
        refine z_istore_n Z 2 d_m_make_43 rfl (by decide) rfl ?_
        refine z_aload_n Z 0 d_m_make_44 rfl rfl ?_
        refine z_iload_n Z 2 d_m_make_45 rfl rfl ?_
        refine z_if_ge Z 53 d_m_make_46 (by decide) (fun h46 => ?_) (fun h46 => ?_)
        · obtain ⟨c, hlf, rfl⟩ := fcM_s h40 h46
          have hc : c < 24 := hlf.1
          refine z_iconst Z (nI 0) d_m_make_53 zi_0 ?_
          refine mp_0 Z d_m_make_54 ?_
          refine z_aload_n Z 0 d_m_make_57 rfl rfl ?_
          refine mn_0 Z d_m_make_58 ?_
          refine z_if_le Z 66 d_m_make_61 (by decide) (fun h61 => ?_) (fun hx => absurd hx (fun q => q (show (nI 0 : Int32) ≤ 0 from by decide)))
          refine z_aload_n Z 0 d_m_make_66 rfl rfl ?_
          refine z_dup Z d_m_make_67 ?_
          refine mn_2 Z d_m_make_68 ?_
          refine z_iconst Z (nI 1) d_m_make_71 zi_1 ?_
          refine z_iadd Z d_m_make_72 ?_
          refine mp_2 Z d_m_make_73 ?_
          refine z_aload_n Z 0 d_m_make_76 rfl rfl ?_
          refine mg_1 Z d_m_make_77 ?_
          refine z_iload_n Z 2 d_m_make_80 rfl rfl ?_
          refine z_iload_n Z 1 d_m_make_81 rfl rfl ?_
          refine ms_1 Z (by omega) d_m_make_82 ?_
          refine z_aload_n Z 0 d_m_make_83 rfl rfl ?_
          refine mg_2 Z d_m_make_84 ?_
          refine z_iload_n Z 2 d_m_make_87 rfl rfl ?_
          refine z_aload_n Z 0 d_m_make_88 rfl rfl ?_
          refine mn_2 Z d_m_make_89 ?_
          refine ms_2 Z (by omega) d_m_make_92 ?_
          refine z_aload_n Z 0 d_m_make_93 rfl rfl ?_
          refine mg_7 Z d_m_make_94 ?_
          refine z_iload_n Z 2 d_m_make_97 rfl rfl ?_
          refine z_iconst Z (nI 0) d_m_make_98 zi_0 ?_
          refine ms_7 Z (by omega) d_m_make_99 ?_
          refine z_aload_n Z 0 d_m_make_100 rfl rfl ?_
          refine z_iload_n Z 2 d_m_make_101 rfl rfl ?_
          refine z_Wv Z (c_m_lose hc) (ok_m_lose _) rfl rfl ⟨by decide, by decide⟩ rfl rfl rfl rfl (Nat.le_of_ble_eq_true rfl) d_m_make_102 ⟨by decide, by decide⟩ (fun E u h => h.elim) (fun u102 h102 => ?_)
          subst h102
          refine z_iload_n Z 2 d_m_make_105 rfl rfl ?_
          refine z_ri Z _ hr rfl d_m_make_106 (by decide) (by decide) rfl ?_
          exact Or.inr ⟨hk, Or.inr ⟨fcM_f h28 h31, v35, u35, h35, Or.inl ⟨c, hlf, rfl, rfl⟩⟩⟩
        · refine z_iconst Z (nI 2) d_m_make_49 zi_2 ?_
          refine z_goto Z 54 d_m_make_50 (by decide) ?_
          refine mp_0 Z d_m_make_54 ?_
          refine z_aload_n Z 0 d_m_make_57 rfl rfl ?_
          refine mn_0 Z d_m_make_58 ?_
          refine z_if_le Z 66 d_m_make_61 (by decide) (fun hx => absurd hx (show ¬ (nI 2 : Int32) ≤ 0 from by decide)) (fun h61 => ?_)
          refine z_iconst Z (nI 0) d_m_make_64 zi_0 ?_
          refine z_ri Z _ hr rfl d_m_make_65 (by decide) (by decide) rfl ?_
          exact Or.inr ⟨hk, Or.inr ⟨fcM_f h28 h31, v35, u35, h35, Or.inr ⟨fcM_f h40 h46, rfl⟩⟩⟩
    · refine z_iconst Z (nI 1) d_m_make_10 zi_1 ?_
      refine z_goto Z 15 d_m_make_11 (by decide) ?_
      refine mp_0 Z d_m_make_15 ?_
      refine z_aload_n Z 0 d_m_make_18 rfl rfl ?_
      refine mn_0 Z d_m_make_19 ?_
      refine z_if_le Z 27 d_m_make_22 (by decide) (fun hx => absurd hx (show ¬ (nI 1 : Int32) ≤ 0 from by decide)) (fun h22 => ?_)
      refine z_iconst Z (nI 0) d_m_make_25 zi_0 ?_
      refine z_ri Z _ hr rfl d_m_make_26 (by decide) (by decide) rfl ?_
      exact Or.inl ⟨fun ⟨i, hi, q⟩ => h7 (by rw [q]; exact nI_le (by omega) (by decide)), rfl⟩
set_option maxHeartbeats 4000000 in
set_option maxRecDepth 100000 in
theorem c_m_collect {l : Launch} {D : va_G} {cI cB cL : ClassId} {h : Nat → Nat} {σ : St} (hw : wf σ) (hq : qI σ) : zMet l y_m_collect w_m_collect rm_m_collect D zCl (zTy cI cB cL) (wm h cI cB σ) [.ref (h 0)] (qi (wm h cI cB) (fun v u => gatM (th σ 0) v u) noXs) 0 0 0 0 := by
  refine z_meth (by decide) rfl (Nat.le_of_ble_eq_true rfl) (fun p e s mm as bl me cd Z hr hnm ht => ?_)
  refine z_aload_n Z 0 d_m_collect_0 rfl rfl ?_
  refine z_iconst Z (nI 0) d_m_collect_1 zi_0 ?_
  refine mp_0 Z d_m_collect_2 ?_
  refine z_aload_n Z 0 d_m_collect_5 rfl rfl ?_
  refine z_Wi Z (c_m_gather (wf_th hw) hq) (ok_m_gather _) rfl rfl ⟨by decide, by decide⟩ rfl rfl rfl rfl (Nat.le_of_ble_eq_true rfl) d_m_collect_6 ⟨by decide, by decide⟩ (fun E u h => h.elim) (fun v6 u6 h6 => ?_)
  refine z_ri Z _ hr rfl d_m_collect_9 (by decide) (by decide) rfl ?_
  exact h6
