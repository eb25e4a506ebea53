/-! a pass over the graph, its closure; what is forgotten outside a set -/
def whp (σ : St) (x v : Int32) : Prop := lo24 v ∧ (∀ c, c < 24 → bt x c = true → bt v c = true) ∧ (∀ T : Nat → Prop, (∀ c, c < 24 → bt x c = true → T c) → clo σ T → ∀ c, c < 24 → bt v c = true → T c) ∧ (v = x → clo σ (fun c => bt x c = true))
def whi (σ : St) (x : Int32) (i : Nat) (y : Int32) : Prop := lo24 y ∧ (∀ c, c < 24 → bt x c = true → bt y c = true) ∧ (∀ T : Nat → Prop, (∀ c, c < 24 → bt x c = true → T c) → clo σ T → ∀ c, c < 24 → bt y c = true → T c) ∧ ∀ c d, c < i → c < 24 → d < 24 → bt x c = true → hld σ (fun k => bt x k = true) c d → bt y d = true
theorem whi_0 {σ : St} {x : Int32} (hx : lo24 x) : whi σ x 0 x := ⟨hx, fun _ _ h => h, fun _ h _ => h, fun c _ h => absurd h (Nat.not_lt_zero _)⟩
theorem whi_no {σ : St} {x y : Int32} {i : Nat} (h : whi σ x i y) (hb : bt y i = false) : whi σ x (i + 1) y := ⟨h.1, h.2.1, h.2.2.1, fun c d h1 h2 h3 h4 h5 => by
  by_cases e : c = i
  · subst e
    have := h.2.1 c h2 h4
    rw [hb] at this; cases this
  · exact h.2.2.2 c d (by omega) h2 h3 h4 h5⟩
theorem whi_yes {σ : St} {x y v : Int32} {i : Nat} (hi : i < 24) (h : whi σ x i y) (hb : bt y i = true) (hv : lo24 v) (h2 : ∀ d, d < 24 → (bt v d = true ↔ hld σ (fun k => bt y k = true) i d)) : whi σ x (i + 1) (y ||| v) := by
  have hor : ∀ c, bt (y ||| v) c = true ↔ (bt y c = true ∨ bt v c = true) := fun c => by rw [b_or, Bool.or_eq_true]
  refine ⟨lo24_or h.1 hv, fun c h3 h4 => (hor c).mpr (Or.inl (h.2.1 c h3 h4)), fun T h3 h4 c h5 h6 => ?_, fun c d h3 h4 h5 h6 h7 => ?_⟩
  · rcases (hor c).mp h6 with h7 | h7
    · exact h.2.2.1 T h3 h4 c h5 h7
    · exact h4 i c hi h5 (h.2.2.1 T h3 h4 i hi hb) (hld_mono (fun k hk hy => h.2.2.1 T h3 h4 k hk hy) ((h2 c h5).mp h7))
  · refine (hor d).mpr ?_
    by_cases e : c = i
    · subst e
      exact Or.inr ((h2 d h5).mpr (hld_mono (fun k hk hy => h.2.1 k hk hy) h7))
    · exact Or.inl (h.2.2.2 c d (by omega) h4 h5 h6 h7)
theorem whi_end {σ : St} {x y : Int32} (h : whi σ x 24 y) : whp σ x y := ⟨h.1, h.2.1, h.2.2.1, fun e c d hc hd h1 h2 => by
  have := h.2.2.2 c d hc hc hd h1 h2
  rw [e] at this; exact this⟩
def cli (σ : St) (x : Int32) (i : Nat) (y : Int32) : Prop := lo24 y ∧ (∀ c, c < 24 → bt x c = true → bt y c = true) ∧ (∀ c, c < 24 → bt y c = true → rch σ (fun d => bt x d = true) c) ∧ i ≤ num (fun c => bt y c) 24
theorem cli_0 {σ : St} {x : Int32} (hx : lo24 x) : cli σ x 0 x := ⟨hx, fun _ _ h => h, fun _ hc h => rch_base hc h, Nat.zero_le _⟩
theorem cli_full {σ : St} {x y : Int32} (h : cli σ x 24 y) : lo24 y ∧ ∀ c, c < 24 → (bt y c = true ↔ rch σ (fun d => bt x d = true) c) :=
  ⟨h.1, rch_iff (S := fun c => bt y c = true) h.2.1 (fun _ d _ hd _ _ => num_full h.2.2.2 d hd) h.2.2.1⟩
theorem cli_end {σ : St} {x y z : Int32} {i : Nat} (h : cli σ x i y) (hz : whp σ y z) (e : z = y) : lo24 y ∧ ∀ c, c < 24 → (bt y c = true ↔ rch σ (fun d => bt x d = true) c) :=
  ⟨h.1, rch_iff (S := fun c => bt y c = true) h.2.1 (hz.2.2.2 e) h.2.2.1⟩
theorem lo24_grow {y z : Int32} (hy : lo24 y) (hz : lo24 z) (hm : ∀ c, c < 24 → bt y c = true → bt z c = true) (hn : ¬ z = y) : ∃ c, c < 24 ∧ bt y c = false ∧ bt z c = true := by
  by_cases h : ∃ c, c < 24 ∧ bt y c = false ∧ bt z c = true
  · exact h
  · refine absurd (lo24_ext hz hy (fun c hc => ?_)) hn
    cases h1 : bt y c
    · cases h2 : bt z c
      · rfl
      · exact absurd ⟨c, hc, h1, h2⟩ h
    · rw [hm c hc h1]
theorem cli_step {σ : St} {x y z : Int32} {i : Nat} (h : cli σ x i y) (hz : whp σ y z) (hn : ¬ z = y) : cli σ x (i + 1) z := by
  obtain ⟨c, hc, h1, h2⟩ := lo24_grow h.1 hz.1 hz.2.1 hn
  have := num_lt (S := fun c => bt y c) (S' := fun c => bt z c) hz.2.1 hc h1 h2
  have h4 := h.2.2.2
  exact ⟨hz.1, fun d hd q => hz.2.1 d hd (h.2.1 d hd q), fun d hd q => hz.2.2.1 _ h.2.2.1 (rch_clo σ _) d hd q, by omega⟩
/-- a weak thing's referent outside S is forgotten -/
def fgr (σ : St) (c : Nat) (S : Nat → Bool) : St := if σ 3 (c * 3 + 0) ≠ -1 ∧ S (σ 3 (c * 3 + 0)).toNatClampNeg = false then va_up σ 3 (upd (σ 3) (c * 3 + 0) (-1)) else σ
def rws (σ : St) (c n : Nat) : List (Int32 × Int32) := (List.range n).map (fun i => (σ 4 (c * 4 + i), σ 5 (c * 4 + i)))
theorem ent_rws (σ : St) (c : Nat) : ent σ c = rws σ c (cnt σ c) := rfl
theorem rws_s (σ : St) (c n : Nat) : rws σ c (n + 1) = rws σ c n ++ [(σ 4 (c * 4 + n), σ 5 (c * 4 + n))] := by
  simp [rws, List.range_succ]
theorem rws_congr {σ τ : St} {c n : Nat} (h : ∀ j, c * 4 ≤ j → j < c * 4 + n → τ 4 j = σ 4 j ∧ τ 5 j = σ 5 j) : rws τ c n = rws σ c n := by
  unfold rws
  refine List.map_congr_left (fun i hi => ?_)
  have := h (c * 4 + i) (by omega) (by have := List.mem_range.mp hi; omega)
  rw [this.1, this.2]
theorem cnt_congr {σ τ : St} {c : Nat} (h : τ 6 c = σ 6 c) : cnt τ c = cnt σ c := by unfold cnt; rw [h]
theorem ent_congr {σ τ : St} {c : Nat} (h6 : τ 6 c = σ 6 c) (hn : cnt σ c ≤ 4) (h : ∀ j, c * 4 ≤ j → j < c * 4 + 4 → τ 4 j = σ 4 j ∧ τ 5 j = σ 5 j) : ent τ c = ent σ c := by
  rw [ent_rws, ent_rws, cnt_congr h6]
  exact rws_congr (fun j h1 h2 => h j h1 (by omega))
def fgi (σ : St) (c : Nat) (S : Nat → Bool) (i r : Nat) (τ : St) : Prop := r ≤ i ∧ i ≤ cnt σ c ∧ (∀ k, k ≠ 4 → k ≠ 5 → τ k = σ k) ∧ (∀ j, (j < c * 4 ∨ c * 4 + i ≤ j) → τ 4 j = σ 4 j ∧ τ 5 j = σ 5 j) ∧ rws τ c r = (rws σ c i).filter (fun q => S q.1.toNatClampNeg) ∧ wf τ
theorem fgi_0 {σ : St} {c : Nat} {S : Nat → Bool} (hw : wf σ) : fgi σ c S 0 0 σ := ⟨Nat.le_refl _, Nat.zero_le _, fun _ _ _ => rfl, fun _ _ => ⟨rfl, rfl⟩, rfl, hw⟩
theorem fgi_6 {σ τ : St} {c i r : Nat} {S : Nat → Bool} (h : fgi σ c S i r τ) : τ 6 c = σ 6 c := by rw [h.2.2.1 6 (by decide) (by decide)]
theorem fgi_wf {σ τ : St} {c i r : Nat} {S : Nat → Bool} (h : fgi σ c S i r τ) : wf τ := h.2.2.2.2.2
theorem fgi_no {σ τ : St} {c i r k : Nat} {S : Nat → Bool} (h : fgi σ c S i r τ) (hi : i < cnt σ c) (hk : k < 24) (ek : τ 4 (c * 4 + i) = nI k) (hs : S k = false) : fgi σ c S (i + 1) r τ := by
  obtain ⟨h1, h2, h3, h4, h5, h6⟩ := h
  have e4 : σ 4 (c * 4 + i) = nI k := by rw [← (h4 (c * 4 + i) (Or.inr (Nat.le_refl _))).1]; exact ek
  refine ⟨by omega, by omega, h3, fun j hj => h4 j (by omega), ?_, h6⟩
  rw [rws_s, List.filter_append, h5]
  simp [e4, nI_clamp (show k < 2 ^ 31 by omega), hs]
theorem wf_cpy {τ : St} {c a b : Nat} (hw : wf τ) (hc : c < 24) (ha : a < 4) (hb : b < 4) : wf (cpy τ c a b) := by
  obtain ⟨h1, h2, h3, h4, h5, h6, h7, h8⟩ := hw
  refine ⟨h1, h2, fun j hj => ?_, fun j hj => ?_, h5, h6, h7, h8⟩
  · show cl24 (upd (τ 4) (c * 4 + b) (τ 4 (c * 4 + a)) j)
    by_cases e : j = c * 4 + b
    · rw [e, pk_us]; exact h3 _ (by omega)
    · rw [pk_un e]; exact h3 j hj
  · show cl24 (upd (τ 5) (c * 4 + b) (τ 5 (c * 4 + a)) j)
    by_cases e : j = c * 4 + b
    · rw [e, pk_us]; exact h4 _ (by omega)
    · rw [pk_un e]; exact h4 j hj
theorem fgi_yes {σ τ : St} {c i r k : Nat} {S : Nat → Bool} (h : fgi σ c S i r τ) (hc : c < 24) (hn : cnt σ c ≤ 4) (hi : i < cnt σ c) (hk : k < 24) (ek : τ 4 (c * 4 + i) = nI k) (hs : S k = true) : fgi σ c S (i + 1) (r + 1) (cpy τ c i r) := by
  obtain ⟨h1, h2, h3, h4, h5, h6⟩ := h
  have q4 := h4 (c * 4 + i) (Or.inr (Nat.le_refl _))
  have e4 : σ 4 (c * 4 + i) = nI k := by rw [← q4.1]; exact ek
  refine ⟨by omega, by omega, fun j ha hb => ?_, fun j hj => ?_, ?_, wf_cpy h6 hc (by omega) (by omega)⟩
  · show va_up (va_up τ 4 _) 5 _ j = σ j
    rw [va_up_ne _ _ hb, va_up_ne _ _ ha]; exact h3 j ha hb
  · have := h4 j (by omega)
    refine ⟨?_, ?_⟩
    · show upd (τ 4) (c * 4 + r) _ j = _
      rw [pk_un (by omega)]; exact this.1
    · show upd (τ 5) (c * 4 + r) _ j = _
      rw [pk_un (by omega)]; exact this.2
  · have e1 : rws (cpy τ c i r) c r = rws τ c r := rws_congr (fun j ha hb => by
      refine ⟨?_, ?_⟩
      · show upd (τ 4) (c * 4 + r) _ j = _
        rw [pk_un (by omega)]
      · show upd (τ 5) (c * 4 + r) _ j = _
        rw [pk_un (by omega)])
    have e2 : (cpy τ c i r) 4 (c * 4 + r) = σ 4 (c * 4 + i) := by
      show upd (τ 4) (c * 4 + r) (τ 4 (c * 4 + i)) (c * 4 + r) = _
      rw [pk_us]; exact q4.1
    have e3 : (cpy τ c i r) 5 (c * 4 + r) = σ 5 (c * 4 + i) := by
      show upd (τ 5) (c * 4 + r) (τ 5 (c * 4 + i)) (c * 4 + r) = _
      rw [pk_us]; exact q4.2
    rw [rws_s, rws_s, List.filter_append, e1, e2, e3, h5]
    simp [e4, nI_clamp (show k < 2 ^ 31 by omega), hs]
/-- a table's entries with keys outside S are forgotten -/
def fge (σ : St) (c : Nat) (S : Nat → Bool) (u : St) : Prop := (∀ k, k ≠ 4 → k ≠ 5 → k ≠ 6 → u k = σ k) ∧ (∀ j, (j < c * 4 ∨ c * 4 + 4 ≤ j) → u 4 j = σ 4 j ∧ u 5 j = σ 5 j) ∧ (∀ c', c' ≠ c → u 6 c' = σ 6 c') ∧ ent u c = (ent σ c).filter (fun q => S q.1.toNatClampNeg) ∧ wf u
theorem wf_6 {τ : St} {c r : Nat} (hw : wf τ) (hr : r ≤ 4) : wf (va_up τ 6 (upd (τ 6) c (nI r))) := by
  obtain ⟨h1, h2⟩ := hw
  refine ⟨fun c' hc' => ?_, h2⟩
  show ∃ n, n ≤ 4 ∧ upd (τ 6) c (nI r) c' = nI n
  by_cases e : c' = c
  · rw [e, pk_us]; exact ⟨r, hr, rfl⟩
  · rw [pk_un e]; exact h1 c' hc'
theorem fge_end {σ τ : St} {c r : Nat} {S : Nat → Bool} (hw : wf σ) (hc : c < 24) (h : fgi σ c S (cnt σ c) r τ) : fge σ c S (va_up τ 6 (upd (τ 6) c (nI r))) := by
  obtain ⟨h1, h2, h3, h4, h5, h6⟩ := h
  have hn := (wf_cnt hw hc).1
  refine ⟨fun k ha hb hc' => ?_, fun j hj => ?_, fun c' hc' => ?_, ?_, wf_6 h6 (by omega)⟩
  · rw [va_up_ne _ _ hc']; exact h3 k ha hb
  · exact h4 j (by omega)
  · show upd (τ 6) c (nI r) c' = _
    rw [pk_un hc', h3 6 (by decide) (by decide)]
  · have e : cnt (va_up τ 6 (upd (τ 6) c (nI r))) c = r := by
      show (upd (τ 6) c (nI r) c).toNatClampNeg = r
      rw [pk_us, nI_clamp (by omega)]
    rw [ent_rws, e, ent_rws, ← h5]
    rfl
def fgF (σ : St) (S : Nat → Bool) (c f : Nat) : Int32 := if S c = true ∧ σ 1 c = nI 1 ∧ f = 0 ∧ σ 3 (c * 3 + 0) ≠ -1 ∧ S (σ 3 (c * 3 + 0)).toNatClampNeg = false then -1 else σ 3 (c * 3 + f)
def fgL (σ : St) (S : Nat → Bool) (c : Nat) : List (Int32 × Int32) := if S c = true ∧ σ 1 c = nI 2 then (ent σ c).filter (fun q => S q.1.toNatClampNeg) else ent σ c
/-- in all cells before i what lies outside S is forgotten -/
def fgo (σ : St) (S : Nat → Bool) (i : Nat) (u : St) : Prop := (∀ k, k ≠ 3 → k ≠ 4 → k ≠ 5 → k ≠ 6 → u k = σ k) ∧ wf u ∧ (∀ c, c < 24 → c < i → (∀ f, f < 3 → u 3 (c * 3 + f) = fgF σ S c f) ∧ ent u c = fgL σ S c) ∧ ∀ c, c < 24 → i ≤ c → (∀ f, f < 3 → u 3 (c * 3 + f) = σ 3 (c * 3 + f)) ∧ ent u c = ent σ c
theorem fgo_0 {σ : St} {S : Nat → Bool} (hw : wf σ) : fgo σ S 0 σ := ⟨fun _ _ _ _ _ => rfl, hw, fun _ _ h => absurd h (Nat.not_lt_zero _), fun _ _ _ => ⟨fun _ _ => rfl, rfl⟩⟩
theorem fgo_wf {σ τ : St} {S : Nat → Bool} {i : Nat} (h : fgo σ S i τ) : wf τ := h.2.1
/-- one cell more -/
theorem fgo_s {σ τ u : St} {S : Nat → Bool} {i : Nat} (h : fgo σ S i τ) (hk : ∀ k, k ≠ 3 → k ≠ 4 → k ≠ 5 → k ≠ 6 → u k = τ k) (hw : wf u) (ho : ∀ c, c < 24 → c ≠ i → (∀ f, f < 3 → u 3 (c * 3 + f) = τ 3 (c * 3 + f)) ∧ ent u c = ent τ c)
    (hi : i < 24 → (∀ f, f < 3 → u 3 (i * 3 + f) = fgF σ S i f) ∧ ent u i = fgL σ S i) : fgo σ S (i + 1) u := by
  refine ⟨fun k h3 h4 h5 h6 => (hk k h3 h4 h5 h6).trans (h.1 k h3 h4 h5 h6), hw, fun c hc hci => ?_, fun c hc hci => ?_⟩
  · by_cases e : c = i
    · subst e; exact hi hc
    · obtain ⟨a, b⟩ := ho c hc e
      obtain ⟨a2, b2⟩ := h.2.2.1 c hc (by omega)
      exact ⟨fun f hf => (a f hf).trans (a2 f hf), b.trans b2⟩
  · obtain ⟨a, b⟩ := ho c hc (by omega)
    obtain ⟨a2, b2⟩ := h.2.2.2 c hc (by omega)
    exact ⟨fun f hf => (a f hf).trans (a2 f hf), b.trans b2⟩
theorem fgo_no {σ τ : St} {S : Nat → Bool} {i : Nat} (h24 : i < 24) (h : fgo σ S i τ) (hn : S i = false ∨ (¬ σ 1 i = nI 1 ∧ ¬ σ 1 i = nI 2)) : fgo σ S (i + 1) τ := by
  refine fgo_s h (fun _ _ _ _ _ => rfl) h.2.1 (fun _ _ _ => ⟨fun _ _ => rfl, rfl⟩) (fun _ => ?_)
  obtain ⟨a, b⟩ := h.2.2.2 i h24 (Nat.le_refl _)
  refine ⟨fun f hf => ?_, ?_⟩
  · rw [a f hf]; unfold fgF; rw [if_neg]
    rintro ⟨q1, q2, -⟩
    rcases hn with hn | hn
    · rw [hn] at q1; cases q1
    · exact hn.1 q2
  · rw [b]; unfold fgL; rw [if_neg]
    rintro ⟨q1, q2⟩
    rcases hn with hn | hn
    · rw [hn] at q1; cases q1
    · exact hn.2 q2
theorem wf_3 {τ : St} {j : Nat} {x : Int32} (hw : wf τ) (hx : nc x) : wf (va_up τ 3 (upd (τ 3) j x)) := by
  obtain ⟨h1, h2, h3⟩ := hw
  refine ⟨h1, fun j' hj' => ?_, h3⟩
  show nc (upd (τ 3) j x j')
  by_cases e : j' = j
  · rw [e, pk_us]; exact hx
  · rw [pk_un e]; exact h2 j' hj'
theorem fgo_weak {σ τ : St} {S : Nat → Bool} {i : Nat} (h24 : i < 24) (h : fgo σ S i τ) (hs : S i = true) (h1 : σ 1 i = nI 1) : fgo σ S (i + 1) (fgr τ i S) := by
  obtain ⟨a, b⟩ := h.2.2.2 i h24 (Nat.le_refl _)
  have a0 : τ 3 (i * 3 + 0) = σ 3 (i * 3 + 0) := a 0 (by decide)
  have hl : fgL σ S i = ent σ i := by
    unfold fgL; rw [if_neg]
    rintro ⟨-, q⟩; rw [h1] at q; exact absurd q (by decide)
  by_cases q : τ 3 (i * 3 + 0) ≠ -1 ∧ S (τ 3 (i * 3 + 0)).toNatClampNeg = false
  · have e : fgr τ i S = va_up τ 3 (upd (τ 3) (i * 3 + 0) (-1)) := by unfold fgr; rw [if_pos q]
    rw [e]
    refine fgo_s h (fun k h3 _ _ _ => va_up_ne _ _ h3) (wf_3 h.2.1 (Or.inl rfl)) (fun c hc hci => ⟨fun f hf => ?_, rfl⟩) (fun _ => ⟨fun f hf => ?_, b.trans hl.symm⟩)
    · show upd (τ 3) (i * 3 + 0) (-1) (c * 3 + f) = _
      rw [pk_un (by omega)]
    · show upd (τ 3) (i * 3 + 0) (-1) (i * 3 + f) = _
      by_cases f0 : f = 0
      · subst f0
        rw [pk_us]; unfold fgF; rw [if_pos ⟨hs, h1, rfl, by rw [← a0]; exact q.1, by rw [← a0]; exact q.2⟩]
      · rw [pk_un (by omega), a f hf]; unfold fgF; rw [if_neg (fun z => f0 z.2.2.1)]
  · have e : fgr τ i S = τ := by unfold fgr; rw [if_neg q]
    rw [e]
    refine fgo_s h (fun _ _ _ _ _ => rfl) h.2.1 (fun _ _ _ => ⟨fun _ _ => rfl, rfl⟩) (fun _ => ⟨fun f hf => ?_, b.trans hl.symm⟩)
    rw [a f hf]; unfold fgF; rw [if_neg (fun z => q ⟨by rw [a0]; exact z.2.2.2.1, by rw [a0]; exact z.2.2.2.2⟩)]
theorem fgo_tab {σ τ u : St} {S : Nat → Bool} {i : Nat} (h24 : i < 24) (h : fgo σ S i τ) (hs : S i = true) (h2 : σ 1 i = nI 2) (hg : fge τ i S u) : fgo σ S (i + 1) u := by
  obtain ⟨a, b⟩ := h.2.2.2 i h24 (Nat.le_refl _)
  obtain ⟨g1, g2, g3, g4, g5⟩ := hg
  have e3 : u 3 = τ 3 := g1 3 (by decide) (by decide) (by decide)
  refine fgo_s h (fun k _ h4 h5 h6 => g1 k h4 h5 h6) g5 (fun c hc hci => ⟨fun f hf => by rw [e3], ?_⟩) (fun _ => ⟨fun f hf => ?_, ?_⟩)
  · exact ent_congr (g3 c hci) (wf_cnt h.2.1 hc).1 (fun j h1 h2 => g2 j (by omega))
  · rw [e3, a f hf]; unfold fgF; rw [if_neg]
    rintro ⟨-, q, -⟩; rw [h2] at q; exact absurd q (by decide)
  · rw [g4, b]; unfold fgL; rw [if_pos ⟨hs, h2⟩]
set_option maxHeartbeats 4000000 in
set_option maxRecDepth 100000 in
theorem c_withThingsHeld {l : Launch} {D : va_G} {cI cB cL : ClassId} {h : Nat → Nat} {σ : St} (hw : wf σ) {x : Int32} (hx : lo24 x) : zMet l y_withThingsHeld w_withThingsHeld rm_withThingsHeld D zCl (zTy cI cB cL) (wx h cI σ) [.ref (h 0), .int x] (qi0 (wx h cI σ) (fun v => whp σ x v) noX) 0 0 0 0 := by
  refine z_meth (by decide) rfl (Nat.le_of_ble_eq_true rfl) (fun p e s mm as bl me cd Z hr hnm ht => ?_)
  refine z_iload_n Z 1 d_withThingsHeld_0 rfl rfl ?_
  refine z_istore_n Z 2 d_withThingsHeld_1 rfl (by decide) rfl ?_
  refine z_iconst Z (nI 0) d_withThingsHeld_2 zi_0 ?_
  refine z_istore_n Z 3 d_withThingsHeld_3 rfl (by decide) rfl ?_
  refine z_lv (lv' := [(0, .ref (h 0)), (1, .int x), (2, .int x), (3, .int (nI 0))]) rfl ?_
  refine z_loop (fun q : Nat × Int32 => q.1 ≤ 24 ∧ whi σ x q.1 q.2) (fun q : Nat × Int32 => 24 - q.1) (fun q : Nat × Int32 => wx h cI σ) (fun q : Nat × Int32 => [(0, .ref (h 0)), (1, .int x), (2, .int q.2), (3, .int (nI q.1))]) (fun q hi ih => ?_) (0, x) ⟨by omega, whi_0 hx⟩
  obtain ⟨i, y⟩ := q
  dsimp only at hi ih ⊢
  refine z_iload_n Z 3 d_withThingsHeld_4 rfl rfl ?_
  refine z_bipush Z (nI 24) d_withThingsHeld_5 zb_24 ?_
  refine z_icmpN_ge Z 33 d_withThingsHeld_7 (by decide) (by omega) (by omega) (fun h7 => ?_) (fun h7 => ?_)
  · refine z_iload_n Z 2 d_withThingsHeld_33 rfl rfl ?_
    refine z_ri0 Z hr rfl d_withThingsHeld_34 (by decide) (by decide) ?_
    obtain rfl : i = 24 := by omega
    exact whi_end hi.2
  · refine z_iload_n Z 2 d_withThingsHeld_10 rfl rfl ?_
    refine z_iload_n Z 3 d_withThingsHeld_11 rfl rfl ?_
    refine z_S0 Z (c_contains (by omega)) (ok_contains _) rfl rfl ⟨by decide, by decide⟩ rfl rfl (Nat.le_of_ble_eq_true rfl) d_withThingsHeld_12 ⟨by decide, by decide⟩ (fun v12 h12 => ?_)
    refine z_if_eq Z 27 d_withThingsHeld_15 (by decide) (fun h15 => ?_) (fun h15 => ?_)
    · refine z_iincN Z 3 d_withThingsHeld_27 rfl (by decide) rfl ?_
      refine z_goto Z 4 d_withThingsHeld_30 (by decide) ?_
      exact z_lv rfl (ih (i + 1, y) ⟨by omega, whi_no hi.2 (zB0 h12 h15)⟩ (by dsimp only; omega))
    · refine z_iload_n Z 2 d_withThingsHeld_18 rfl rfl ?_
      refine z_aload_n Z 0 d_withThingsHeld_19 rfl rfl ?_
      refine z_iload_n Z 3 d_withThingsHeld_20 rfl rfl ?_
      refine z_iload_n Z 2 d_withThingsHeld_21 rfl rfl ?_
      refine z_Wi0 Z (c_thingsHeldBy hw (by omega)) (ok_thingsHeldBy _) rfl rfl ⟨by decide, by decide⟩ rfl rfl rfl rfl (Nat.le_of_ble_eq_true rfl) d_withThingsHeld_22 ⟨by decide, by decide⟩ (fun E h => h.elim) (fun v22 h22 => ?_)
      refine z_ior Z d_withThingsHeld_25 ?_
      refine z_istore_n Z 2 d_withThingsHeld_26 rfl (by decide) rfl ?_
      refine z_iincN Z 3 d_withThingsHeld_27 rfl (by decide) rfl ?_
      refine z_goto Z 4 d_withThingsHeld_30 (by decide) ?_
      exact z_lv rfl (ih (i + 1, _) ⟨by omega, whi_yes (by omega) hi.2 (zB1 h12 h15) h22.1 h22.2⟩ (by dsimp only; omega))
set_option maxHeartbeats 4000000 in
set_option maxRecDepth 100000 in
theorem c_closureOf {l : Launch} {D : va_G} {cI cB cL : ClassId} {h : Nat → Nat} {σ : St} (hw : wf σ) {x : Int32} (hx : lo24 x) : zMet l y_closureOf w_closureOf rm_closureOf D zCl (zTy cI cB cL) (wx h cI σ) [.ref (h 0), .int x] (qi0 (wx h cI σ) (fun v => lo24 v ∧ ∀ c, c < 24 → (bt v c = true ↔ rch σ (fun d => bt x d = true) c)) noX) 0 0 0 0 := by
  refine z_meth (by decide) rfl (Nat.le_of_ble_eq_true rfl) (fun p e s mm as bl me cd Z hr hnm ht => ?_)
  refine z_iload_n Z 1 d_closureOf_0 rfl rfl ?_
  refine z_istore_n Z 2 d_closureOf_1 rfl (by decide) rfl ?_
  refine z_iconst Z (nI 0) d_closureOf_2 zi_0 ?_
  refine z_istore_n Z 3 d_closureOf_3 rfl (by decide) rfl ?_
  refine z_lv (lv' := [(0, .ref (h 0)), (1, .int x), (2, .int x), (3, .int (nI 0))]) rfl ?_
  refine z_loop (fun q : Nat × Int32 => q.1 ≤ 24 ∧ cli σ x q.1 q.2) (fun q : Nat × Int32 => 24 - q.1) (fun q : Nat × Int32 => wx h cI σ) (fun q : Nat × Int32 => [(0, .ref (h 0)), (1, .int x), (2, .int q.2), (3, .int (nI q.1))]) (fun q hi ih => ?_) (0, x) ⟨by omega, cli_0 hx⟩
  obtain ⟨i, y⟩ := q
  dsimp only at hi ih ⊢
  refine z_iload_n Z 3 d_closureOf_4 rfl rfl ?_
  refine z_bipush Z (nI 24) d_closureOf_5 zb_24 ?_
  refine z_icmpN_ge Z 34 d_closureOf_7 (by decide) (by omega) (by omega) (fun h7 => ?_) (fun h7 => ?_)
  · refine z_iload_n Z 2 d_closureOf_34 rfl rfl ?_
    refine z_ri0 Z hr rfl d_closureOf_35 (by decide) (by decide) ?_
    obtain rfl : i = 24 := by omega
    exact cli_full hi.2
  · refine z_aload_n Z 0 d_closureOf_10 rfl rfl ?_
    refine z_iload_n Z 2 d_closureOf_11 rfl rfl ?_
    refine z_Wi0 Z (c_withThingsHeld hw hi.2.1) (ok_withThingsHeld _) rfl rfl ⟨by decide, by decide⟩ rfl rfl rfl rfl (Nat.le_of_ble_eq_true rfl) d_closureOf_12 ⟨by decide, by decide⟩ (fun E h => h.elim) (fun v12 h12 => ?_)
    refine z_istore Z 4 d_closureOf_15 (by decide) rfl ?_
    refine z_iload Z 4 d_closureOf_17 rfl ?_
    refine z_iload_n Z 2 d_closureOf_19 rfl rfl ?_
    refine z_icmp_ne Z 25 d_closureOf_20 (by decide) (fun h20 => ?_) (fun h20 => ?_)
    · refine z_iload Z 4 d_closureOf_25 rfl ?_
      refine z_istore_n Z 2 d_closureOf_27 rfl (by decide) rfl ?_
      refine z_iincN Z 3 d_closureOf_28 rfl (by decide) rfl ?_
      refine z_goto Z 4 d_closureOf_31 (by decide) ?_
      exact z_lv rfl (ih (i + 1, v12) ⟨by omega, cli_step hi.2 h12 h20⟩ (by dsimp only; omega))
    · refine z_iload_n Z 2 d_closureOf_23 rfl rfl ?_
      refine z_ri0 Z hr rfl d_closureOf_24 (by decide) (by decide) ?_
      exact cli_end hi.2 h12 h20
set_option maxHeartbeats 4000000 in
set_option maxRecDepth 100000 in
theorem c_forgetReferentOutside {l : Launch} {D : va_G} {cI cB cL : ClassId} {h : Nat → Nat} {σ : St} (hw : wf σ) {c : Nat} (hc : c < 24) {x : Int32} : zMet l y_forgetReferentOutside w_forgetReferentOutside rm_forgetReferentOutside D zCl (zTy cI cB cL) (wx h cI σ) [.ref (h 0), .int (nI c), .int x] (qv (wx h cI) (fun u => u = fgr σ c (fun d => bt x d)) noXs) 0 0 0 0 := by
  refine z_meth (by decide) rfl (Nat.le_of_ble_eq_true rfl) (fun p e s mm as bl me cd Z hr hnm ht => ?_)
  refine z_iload_n Z 1 d_forgetReferentOutside_0 rfl rfl ?_
  refine z_iconst Z (nI 0) d_forgetReferentOutside_1 zi_0 ?_
  refine z_S0 Z (c_fieldSlot ) (ok_fieldSlot _) rfl rfl ⟨by decide, by decide⟩ rfl rfl (Nat.le_of_ble_eq_true rfl) d_forgetReferentOutside_2 ⟨by decide, by decide⟩ (fun v2 h2 => ?_)
  subst h2
  refine z_istore_n Z 3 d_forgetReferentOutside_5 rfl (by decide) rfl ?_
  refine z_aload_n Z 0 d_forgetReferentOutside_6 rfl rfl ?_
  refine xg_3 Z d_forgetReferentOutside_7 ?_
  refine z_iload_n Z 3 d_forgetReferentOutside_10 rfl rfl ?_
  refine xl_3 Z (by omega) d_forgetReferentOutside_11 ?_
  refine z_iconst Z (-1) d_forgetReferentOutside_12 zi_m1 ?_
  refine z_icmp_eq Z 36 d_forgetReferentOutside_13 (by decide) (fun h13 => ?_) (fun h13 => ?_)
  · refine z_rv Z _ hr d_forgetReferentOutside_36 (by decide) (by decide) rfl ?_
    unfold fgr; rw [if_neg (fun q => q.1 h13)]
  · obtain ⟨d, hd, ed⟩ := nc_cl (hw.2.1 (c * 3 + 0) (by omega)) h13
    refine z_iload_n Z 2 d_forgetReferentOutside_16 rfl rfl ?_
    refine z_aload_n Z 0 d_forgetReferentOutside_17 rfl rfl ?_
    refine xg_3 Z d_forgetReferentOutside_18 ?_
    refine z_iload_n Z 3 d_forgetReferentOutside_21 rfl rfl ?_
    refine xl_3 Z (by omega) d_forgetReferentOutside_22 ?_
    refine z_eqi ed ?_
    refine z_S0 Z (c_contains (by omega)) (ok_contains _) rfl rfl ⟨by decide, by decide⟩ rfl rfl (Nat.le_of_ble_eq_true rfl) d_forgetReferentOutside_23 ⟨by decide, by decide⟩ (fun v23 h23 => ?_)
    refine z_if_ne Z 36 d_forgetReferentOutside_26 (by decide) (fun h26 => ?_) (fun h26 => ?_)
    · refine z_rv Z _ hr d_forgetReferentOutside_36 (by decide) (by decide) rfl ?_
      unfold fgr; rw [if_neg (fun q => by have q2 : bt x d = false := (by have q3 := q.2; rw [ed, nI_clamp (by omega)] at q3; exact q3); rw [zB1 h23 h26] at q2; cases q2)]
    · refine z_aload_n Z 0 d_forgetReferentOutside_29 rfl rfl ?_
      refine xg_3 Z d_forgetReferentOutside_30 ?_
      refine z_iload_n Z 3 d_forgetReferentOutside_33 rfl rfl ?_
      refine z_iconst Z (-1) d_forgetReferentOutside_34 zi_m1 ?_
      refine xs_3 Z (by omega) d_forgetReferentOutside_35 ?_
      refine z_rv Z _ hr d_forgetReferentOutside_36 (by decide) (by decide) rfl ?_
      unfold fgr; rw [if_pos ⟨h13, by rw [ed, nI_clamp (by omega)]; exact zB0 h23 h26⟩]
set_option maxHeartbeats 4000000 in
set_option maxRecDepth 100000 in
theorem c_forgetEntriesOutside {l : Launch} {D : va_G} {cI cB cL : ClassId} {h : Nat → Nat} {σ : St} (hw : wf σ) {c : Nat} (hc : c < 24) {x : Int32} : zMet l y_forgetEntriesOutside w_forgetEntriesOutside rm_forgetEntriesOutside D zCl (zTy cI cB cL) (wx h cI σ) [.ref (h 0), .int (nI c), .int x] (qv (wx h cI) (fun u => fge σ c (fun d => bt x d) u) noXs) 0 0 0 0 := by
  refine z_meth (by decide) rfl (Nat.le_of_ble_eq_true rfl) (fun p e s mm as bl me cd Z hr hnm ht => ?_)
  refine z_iconst Z (nI 0) d_forgetEntriesOutside_0 zi_0 ?_
  refine z_istore_n Z 3 d_forgetEntriesOutside_1 rfl (by decide) rfl ?_
  refine z_iconst Z (nI 0) d_forgetEntriesOutside_2 zi_0 ?_
  refine z_istore Z 4 d_forgetEntriesOutside_3 (by decide) rfl ?_
  refine z_lv (lv' := [(0, .ref (h 0)), (1, .int (nI c)), (2, .int x), (3, .int (nI 0)), (4, .int (nI 0))]) rfl ?_
  refine z_loop (fun q : Nat × Nat × St => fgi σ c (fun d => bt x d) q.1 q.2.1 q.2.2) (fun q : Nat × Nat × St => cnt σ c - q.1) (fun q : Nat × Nat × St => wx h cI q.2.2) (fun q : Nat × Nat × St => [(0, .ref (h 0)), (1, .int (nI c)), (2, .int x), (3, .int (nI q.2.1)), (4, .int (nI q.1))]) (fun q hi ih => ?_) (0, 0, σ) (fgi_0 hw)
  obtain ⟨i, r, τ⟩ := q
  dsimp only at hi ih ⊢
  have e6 : τ 6 c = nI (cnt σ c) := by rw [fgi_6 hi]; exact (wf_cnt hw hc).2
  have n6 : cnt σ c ≤ 4 := (wf_cnt hw hc).1
  have hri : r ≤ i ∧ i ≤ cnt σ c := ⟨hi.1, hi.2.1⟩
  refine z_iload Z 4 d_forgetEntriesOutside_5 rfl ?_
  refine z_aload_n Z 0 d_forgetEntriesOutside_7 rfl rfl ?_
  refine xg_6 Z d_forgetEntriesOutside_8 ?_
  refine z_iload_n Z 1 d_forgetEntriesOutside_11 rfl rfl ?_
  refine xl_6 Z (by omega) d_forgetEntriesOutside_12 ?_
  refine z_eqi e6 ?_
  refine z_icmpN_ge Z 51 d_forgetEntriesOutside_13 (by decide) (by omega) (by omega) (fun h13 => ?_) (fun h13 => ?_)
  · obtain rfl : i = cnt σ c := by omega
    refine z_aload_n Z 0 d_forgetEntriesOutside_51 rfl rfl ?_
    refine xg_6 Z d_forgetEntriesOutside_52 ?_
    refine z_iload_n Z 1 d_forgetEntriesOutside_55 rfl rfl ?_
    refine z_iload_n Z 3 d_forgetEntriesOutside_56 rfl rfl ?_
    refine xs_6 Z (by omega) d_forgetEntriesOutside_57 ?_
    refine z_rv Z _ hr d_forgetEntriesOutside_58 (by decide) (by decide) rfl ?_
    exact fge_end hw hc hi
  · refine z_iload_n Z 2 d_forgetEntriesOutside_16 rfl rfl ?_
    refine z_aload_n Z 0 d_forgetEntriesOutside_17 rfl rfl ?_
    refine xg_4 Z d_forgetEntriesOutside_18 ?_
    refine z_iload_n Z 1 d_forgetEntriesOutside_21 rfl rfl ?_
    refine z_iload Z 4 d_forgetEntriesOutside_22 rfl ?_
    refine z_S0 Z (c_entrySlot ) (ok_entrySlot _) rfl rfl ⟨by decide, by decide⟩ rfl rfl (Nat.le_of_ble_eq_true rfl) d_forgetEntriesOutside_24 ⟨by decide, by decide⟩ (fun v24 h24 => ?_)
    subst h24
    refine xl_4 Z (by omega) d_forgetEntriesOutside_27 ?_
    obtain ⟨k, hk, ek⟩ := (fgi_wf hi).2.2.1 (c * 4 + i) (by omega)
    refine z_eqi ek ?_
    refine z_S0 Z (c_contains (by omega)) (ok_contains _) rfl rfl ⟨by decide, by decide⟩ rfl rfl (Nat.le_of_ble_eq_true rfl) d_forgetEntriesOutside_28 ⟨by decide, by decide⟩ (fun v28 h28 => ?_)
    refine z_if_eq Z 45 d_forgetEntriesOutside_31 (by decide) (fun h31 => ?_) (fun h31 => ?_)
    · refine z_iincN Z 4 d_forgetEntriesOutside_45 rfl (by decide) rfl ?_
      refine z_goto Z 5 d_forgetEntriesOutside_48 (by decide) ?_
      exact z_lv rfl (ih (i + 1, r, τ) (fgi_no hi (by omega) hk ek (zB0 h28 h31)) (by dsimp only; omega))
    · refine z_aload_n Z 0 d_forgetEntriesOutside_34 rfl rfl ?_
      refine z_iload_n Z 1 d_forgetEntriesOutside_35 rfl rfl ?_
      refine z_iload Z 4 d_forgetEntriesOutside_36 rfl ?_
      refine z_iload_n Z 3 d_forgetEntriesOutside_38 rfl rfl ?_
      refine z_Wv Z (c_copyEntry hc (by omega) (by omega)) (ok_copyEntry _) rfl rfl ⟨by decide, by decide⟩ rfl rfl rfl rfl (Nat.le_of_ble_eq_true rfl) d_forgetEntriesOutside_39 ⟨by decide, by decide⟩ (fun E u h => h.elim) (fun u39 h39 => ?_)
      subst h39
      refine z_iincN Z 3 d_forgetEntriesOutside_42 rfl (by decide) rfl ?_
      refine z_iincN Z 4 d_forgetEntriesOutside_45 rfl (by decide) rfl ?_
      refine z_goto Z 5 d_forgetEntriesOutside_48 (by decide) ?_
      exact z_lv rfl (ih (i + 1, r + 1, _) (fgi_yes hi hc n6 (by omega) hk ek (zB1 h28 h31)) (by dsimp only; omega))
set_option maxHeartbeats 4000000 in
set_option maxRecDepth 100000 in
theorem c_forgetOutside {l : Launch} {D : va_G} {cI cB cL : ClassId} {h : Nat → Nat} {σ : St} (hw : wf σ) {x : Int32} : zMet l y_forgetOutside w_forgetOutside rm_forgetOutside D zCl (zTy cI cB cL) (wx h cI σ) [.ref (h 0), .int x] (qv (wx h cI) (fun u => fgo σ (fun d => bt x d) 24 u) noXs) 0 0 0 0 := by
  refine z_meth (by decide) rfl (Nat.le_of_ble_eq_true rfl) (fun p e s mm as bl me cd Z hr hnm ht => ?_)
  refine z_iconst Z (nI 0) d_forgetOutside_0 zi_0 ?_
  refine z_istore_n Z 2 d_forgetOutside_1 rfl (by decide) rfl ?_
  refine z_lv (lv' := [(0, .ref (h 0)), (1, .int x), (2, .int (nI 0))]) rfl ?_
  refine z_loop (fun q : Nat × St => q.1 ≤ 24 ∧ fgo σ (fun d => bt x d) q.1 q.2) (fun q : Nat × St => 24 - q.1) (fun q : Nat × St => wx h cI q.2) (fun q : Nat × St => [(0, .ref (h 0)), (1, .int x), (2, .int (nI q.1))]) (fun q hi ih => ?_) (0, σ) ⟨by omega, fgo_0 hw⟩
  obtain ⟨i, τ⟩ := q
  dsimp only at hi ih ⊢
  have e1 : τ 1 = σ 1 := hi.2.1 1 (by decide) (by decide) (by decide) (by decide)
  refine z_iload_n Z 2 d_forgetOutside_2 rfl rfl ?_
  refine z_bipush Z (nI 24) d_forgetOutside_3 zb_24 ?_
  refine z_icmpN_ge Z 57 d_forgetOutside_5 (by decide) (by omega) (by omega) (fun h5 => ?_) (fun h5 => ?_)
  · obtain rfl : i = 24 := by omega
    refine z_rv Z _ hr d_forgetOutside_57 (by decide) (by decide) rfl ?_
    exact hi.2
  · refine z_iload_n Z 1 d_forgetOutside_8 rfl rfl ?_
    refine z_iload_n Z 2 d_forgetOutside_9 rfl rfl ?_
    refine z_S0 Z (c_contains (by omega)) (ok_contains _) rfl rfl ⟨by decide, by decide⟩ rfl rfl (Nat.le_of_ble_eq_true rfl) d_forgetOutside_10 ⟨by decide, by decide⟩ (fun v10 h10 => ?_)
    refine z_if_eq Z 51 d_forgetOutside_13 (by decide) (fun h13 => ?_) (fun h13 => ?_)
    · refine z_iincN Z 2 d_forgetOutside_51 rfl (by decide) rfl ?_
      refine z_goto Z 2 d_forgetOutside_54 (by decide) ?_
      exact z_lv rfl (ih (i + 1, τ) ⟨by omega, fgo_no (by omega) hi.2 (Or.inl (zB0 h10 h13))⟩ (by dsimp only; omega))
    · refine z_aload_n Z 0 d_forgetOutside_16 rfl rfl ?_
      refine xg_1 Z d_forgetOutside_17 ?_
      refine z_iload_n Z 2 d_forgetOutside_20 rfl rfl ?_
      refine xl_1 Z (by omega) d_forgetOutside_21 ?_
      refine z_iconst Z (nI 1) d_forgetOutside_22 zi_1 ?_
      refine z_icmp_ne Z 35 d_forgetOutside_23 (by decide) (fun h23 => ?_) (fun h23 => ?_)
      · refine z_aload_n Z 0 d_forgetOutside_35 rfl rfl ?_
        refine xg_1 Z d_forgetOutside_36 ?_
        refine z_iload_n Z 2 d_forgetOutside_39 rfl rfl ?_
        refine xl_1 Z (by omega) d_forgetOutside_40 ?_
        refine z_iconst Z (nI 2) d_forgetOutside_41 zi_2 ?_
        refine z_icmp_ne Z 51 d_forgetOutside_42 (by decide) (fun h42 => ?_) (fun h42 => ?_)
        · refine z_iincN Z 2 d_forgetOutside_51 rfl (by decide) rfl ?_
          refine z_goto Z 2 d_forgetOutside_54 (by decide) ?_
          exact z_lv rfl (ih (i + 1, τ) ⟨by omega, fgo_no (by omega) hi.2 (Or.inr ⟨e1 ▸ h23, e1 ▸ h42⟩)⟩ (by dsimp only; omega))
        · refine z_aload_n Z 0 d_forgetOutside_45 rfl rfl ?_
          refine z_iload_n Z 2 d_forgetOutside_46 rfl rfl ?_
          refine z_iload_n Z 1 d_forgetOutside_47 rfl rfl ?_
          refine z_Wv Z (c_forgetEntriesOutside (fgo_wf hi.2) (by omega)) (ok_forgetEntriesOutside _) rfl rfl ⟨by decide, by decide⟩ rfl rfl rfl rfl (Nat.le_of_ble_eq_true rfl) d_forgetOutside_48 ⟨by decide, by decide⟩ (fun E u h => h.elim) (fun u48 h48 => ?_)
          refine z_iincN Z 2 d_forgetOutside_51 rfl (by decide) rfl ?_
          refine z_goto Z 2 d_forgetOutside_54 (by decide) ?_
          exact z_lv rfl (ih (i + 1, _) ⟨by omega, fgo_tab (by omega) hi.2 (zB1 h10 h13) (e1 ▸ h42) h48⟩ (by dsimp only; omega))
      · refine z_aload_n Z 0 d_forgetOutside_26 rfl rfl ?_
        refine z_iload_n Z 2 d_forgetOutside_27 rfl rfl ?_
        refine z_iload_n Z 1 d_forgetOutside_28 rfl rfl ?_
        refine z_Wv Z (c_forgetReferentOutside (fgo_wf hi.2) (by omega)) (ok_forgetReferentOutside _) rfl rfl ⟨by decide, by decide⟩ rfl rfl rfl rfl (Nat.le_of_ble_eq_true rfl) d_forgetOutside_29 ⟨by decide, by decide⟩ (fun E u h => h.elim) (fun u29 h29 => ?_)
        subst h29
        refine z_goto Z 51 d_forgetOutside_32 (by decide) ?_
        refine z_iincN Z 2 d_forgetOutside_51 rfl (by decide) rfl ?_
        refine z_goto Z 2 d_forgetOutside_54 (by decide) ?_
        exact z_lv rfl (ih (i + 1, _) ⟨by omega, fgo_weak (by omega) hi.2 (zB1 h10 h13) (e1 ▸ h23)⟩ (by dsimp only; omega))
