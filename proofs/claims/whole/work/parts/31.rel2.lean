/-! put, remove, run, make -/
section RelS2
variable {σ τ σ' τ' : St}
theorem ent_o4 {c c' : Nat} {f4 f5 : Nat → Int32} {x : Int32} (hn : cnt σ c' ≤ 4) (hne : c' ≠ c) (h4 : ∀ j, (j < c * 4 ∨ c * 4 + 4 ≤ j) → f4 j = σ 4 j) (h5 : ∀ j, (j < c * 4 ∨ c * 4 + 4 ≤ j) → f5 j = σ 5 j) : ent (va_up (va_up (va_up σ 4 f4) 5 f5) 6 (upd (σ 6) c x)) c' = ent σ c' :=
  ent_congr (τ := va_up (va_up (va_up σ 4 f4) 5 f5) 6 (upd (σ 6) c x)) (pk_un hne) hn (fun j h1 h2 => ⟨h4 j (by omega), h5 j (by omega)⟩)
theorem cl_T {x : Int32} (h : isT σ x) : cl24 x := by
  obtain ⟨d, hd, e, -⟩ := h; exact ⟨d, hd, e⟩
theorem wf_456 {c n i : Nat} {k v : Int32} (hw : wf σ) (hn : n ≤ 4) (hk : cl24 k) (hv : cl24 v) : wf (va_up (va_up (va_up σ 4 (upd (σ 4) i k)) 5 (upd (σ 5) i v)) 6 (upd (σ 6) c (nI n))) := by
  obtain ⟨h1, h2, h3, h4, h5⟩ := hw
  refine ⟨fun c' hc' => ?_, h2, fun j hj => ?_, fun j hj => ?_, h5⟩
  · show ∃ n', n' ≤ 4 ∧ upd (σ 6) c (nI n) c' = nI n'
    by_cases e : c' = c
    · rw [e, pk_us]; exact ⟨n, hn, rfl⟩
    · rw [pk_un e]; exact h1 c' hc'
  · show cl24 (upd (σ 4) i k j)
    by_cases e : j = i
    · rw [e, pk_us]; exact hk
    · rw [pk_un e]; exact h3 j hj
  · show cl24 (upd (σ 5) i v j)
    by_cases e : j = i
    · rw [e, pk_us]; exact hv
    · rw [pk_un e]; exact h4 j hj
theorem ent_apd {c : Nat} {k v : Int32} (hn : cnt σ c < 4) : ent (apd σ c k v) c = ent σ c ++ [(k, v)] := by
  have e : cnt (apd σ c k v) c = cnt σ c + 1 := by
    show (upd (σ 6) c (nI (cnt σ c + 1)) c).toNatClampNeg = _
    rw [pk_us, nI_clamp (by omega)]
  rw [ent_rws, e, rws_s, ent_rws]
  have e4 : (apd σ c k v) 4 (c * 4 + cnt σ c) = k := pk_us
  have e5 : (apd σ c k v) 5 (c * 4 + cnt σ c) = v := pk_us
  rw [e4, e5, rws_congr (σ := σ) (τ := apd σ c k v) (fun j h1 h2 => ⟨pk_un (by omega), pk_un (by omega)⟩)]
theorem up_out {c i : Nat} {x : Int32} {f : Nat → Int32} (hi : i < 4) : ∀ j, (j < c * 4 ∨ c * 4 + 4 ≤ j) → upd f (c * 4 + i) x j = f j := fun j hj => pk_un (by omega)
theorem Rel_apd {c : Nat} {k v : Int32} (h : Rel σ τ) (hc : c < 24) (ha : al σ c) (h2 : σ 1 c = nI 2) (hk : isT σ k) (hv : isT σ v) (hn : ∀ j, j < cnt σ c → σ 4 (c * 4 + j) ≠ k) (h4 : cnt σ c < 4) : Rel (apd σ c k v) (apd (th τ 0) c k v) := by
  have k4 := R_q1 h
  have k5 := R_8 h
  have k6 := R_8' h
  obtain ⟨⟨r1, r2, r3, r4, r7, r8⟩, i1, i7, i3, i4⟩ := R_C h hc ha
  have ec := cnt_of_ent (r4 h2)
  have h4' : cnt τ c < 4 := by omega
  refine Rel_one (c0 := c) h rfl ⟨rfl, rfl, rfl⟩ rfl rfl rfl rfl rfl (fun c' hc' hne => ⟨rfl, rfl, fun _ _ => rfl, ent_o4 (wf_cnt (R_w1 h) hc').1 hne (up_out h4) (up_out h4), rfl, rfl, rfl⟩) (fun c' hc' hne => ⟨rfl, rfl, fun _ _ => rfl, ent_o4 (σ := th τ 0) (wf_cnt (R_w2 h) hc').1 hne (up_out h4') (up_out h4'), rfl, rfl, rfl⟩) (fun _ _ => ?_) (wf_456 (R_w1 h) (by omega) (cl_T hk) (cl_T hv)) (wf_456 (σ := th τ 0) (R_w2 h) (show cnt τ c + 1 ≤ 4 by omega) (cl_T hk) (cl_T hv)) k4 k5 k6
  have eX : ent (apd σ c k v) c = ent σ c ++ [(k, v)] := ent_apd h4
  have eM : ent (apd (th τ 0) c k v) c = ent τ c ++ [(k, v)] := ent_apd (σ := th τ 0) h4'
  refine ⟨⟨r1, r2, r3, fun _ => by rw [eX, eM, r4 h2], r7, r8⟩, i1, i7, i3, fun _ => ?_⟩
  obtain ⟨e1, e2⟩ := i4 h2
  unfold iE
  rw [eX]
  refine ⟨fun q hq => ?_, ?_⟩
  · rcases List.mem_append.mp hq with z | z
    · exact e1 q z
    · rw [List.mem_singleton.mp z]
      obtain ⟨a, b, c1, d1⟩ := hk
      obtain ⟨a', b', c1', d1'⟩ := hv
      exact ⟨⟨a, b, c1, d1⟩, a', b', c1', d1'⟩
  · rw [List.map_append, List.nodup_append]
    refine ⟨e2, by simp, fun a ha b hb => ?_⟩
    simp only [List.map_cons, List.map_nil, List.mem_singleton] at hb
    rw [hb]
    obtain ⟨q, hq, rfl⟩ := List.mem_map.mp ha
    obtain ⟨i, hi, rfl⟩ := ent_mem.mp hq
    exact hn i hi
theorem ent_set {c i : Nat} {k v : Int32} (hn : cnt σ c ≤ 4) (hi : i < cnt σ c) (hs4 : σ' 4 = upd (σ 4) (c * 4 + i) k) (hs5 : σ' 5 = upd (σ 5) (c * 4 + i) v) (hs6 : σ' 6 c = σ 6 c) : ent σ' c = (ent σ c).set i (k, v) := by
  refine List.ext_getElem? (fun j => ?_)
  rw [List.getElem?_set, ent_rws, ent_rws, cnt_congr hs6, rws_get, rws_get, hs4, hs5]
  have hl : i < (rws σ c (cnt σ c)).length := by rw [← ent_rws, ent_len]; exact hi
  by_cases e : i = j
  · subst e
    rw [if_pos hi, if_pos rfl, if_pos hl, pk_us, pk_us]
  · rw [if_neg e]
    by_cases q : j < cnt σ c
    · rw [if_pos q, if_pos q, pk_un (by omega), pk_un (by omega)]
    · rw [if_neg q, if_neg q]
theorem upd_same' {f : Nat → Int32} {i : Nat} {x : Int32} (h : f i = x) : upd f i x = f := by
  funext j
  by_cases e : j = i
  · rw [e, pk_us]; exact h.symm
  · exact pk_un e
theorem map_fst_set {A : List (Int32 × Int32)} {i : Nat} {k v v0 : Int32} (h : A[i]? = some (k, v0)) : (A.set i (k, v)).map Prod.fst = A.map Prod.fst := by
  refine List.ext_getElem? (fun j => ?_)
  rw [List.getElem?_map, List.getElem?_map, List.getElem?_set]
  obtain ⟨hl, -⟩ := List.getElem?_eq_some_iff.mp h
  by_cases e : i = j
  · subst e; rw [if_pos rfl, if_pos hl, h]; rfl
  · rw [if_neg e]
theorem Rel_put {c i : Nat} {k v : Int32} (h : Rel σ τ) (hc : c < 24) (ha : al σ c) (h2 : σ 1 c = nI 2) (hk : isT σ k) (hv : isT σ v) (hi : i < cnt σ c) (ek : σ 4 (c * 4 + i) = k) : Rel (va_up σ 5 (upd (σ 5) (c * 4 + i) v)) (puR (th τ 0) c i k v) := by
  have k4 := R_q1 h
  have k5 := R_8 h
  have k6 := R_8' h
  have n1 := (wf_cnt (R_w1 h) hc).1
  have n2 := wf_cnt (R_w2 h) hc
  obtain ⟨⟨r1, r2, r3, r4, r7, r8⟩, i1, i7, i3, i4⟩ := R_C h hc ha
  have ec := cnt_of_ent (r4 h2)
  have e6 : (puR (th τ 0) c i k v) 6 c = τ 6 c := (pk_us).trans n2.2.symm
  have eX : ent (va_up σ 5 (upd (σ 5) (c * 4 + i) v)) c = (ent σ c).set i (k, v) := ent_set n1 hi (upd_same' ek).symm rfl rfl
  have eM : ent (puR (th τ 0) c i k v) c = (ent τ c).set i (k, v) := ent_set (σ := τ) n2.1 (by omega) rfl rfl e6
  refine Rel_one (c0 := c) h rfl ⟨rfl, rfl, rfl⟩ rfl rfl rfl rfl rfl (fun c' hc' hne => ⟨rfl, rfl, fun _ _ => rfl, ?_, rfl, rfl, rfl⟩) (fun c' hc' hne => ⟨rfl, rfl, fun _ _ => rfl, ent_o4 (σ := th τ 0) (wf_cnt (R_w2 h) hc').1 hne (up_out (by omega)) (up_out (by omega)), rfl, rfl, rfl⟩) (fun _ _ => ?_) ?_ (wf_456 (σ := th τ 0) (R_w2 h) n2.1 (cl_T hk) (cl_T hv)) k4 k5 k6
  · exact ent_congr (τ := va_up σ 5 (upd (σ 5) (c * 4 + i) v)) rfl (wf_cnt (R_w1 h) hc').1 (fun j h1 h2 => ⟨rfl, pk_un (by omega)⟩)
  · refine ⟨⟨r1, r2, r3, fun _ => by rw [eX, eM, r4 h2], r7, r8⟩, i1, i7, i3, fun _ => ?_⟩
    obtain ⟨e1, e2⟩ := i4 h2
    unfold iE
    rw [eX]
    refine ⟨fun q hq => ?_, ?_⟩
    · rcases List.mem_or_eq_of_mem_set hq with z | z
      · exact e1 q z
      · rw [z]
        obtain ⟨a, b, c1, d1⟩ := hk
        obtain ⟨a', b', c1', d1'⟩ := hv
        exact ⟨⟨a, b, c1, d1⟩, a', b', c1', d1'⟩
    · rw [map_fst_set (by rw [ent_get hi, ek])]; exact e2
  · obtain ⟨w1, w2, w3, w4, w5⟩ := R_w1 h
    refine ⟨w1, w2, w3, fun j hj => ?_, w5⟩
    show cl24 (upd (σ 5) (c * 4 + i) v j)
    by_cases e : j = c * 4 + i
    · rw [e, pk_us]; exact cl_T hv
    · rw [pk_un e]; exact w4 j hj
theorem ent_odrp {c c' d : Nat} (hn : cnt σ c' ≤ 4) (hn2 : cnt σ c ≤ 4) (hne : c' ≠ c) : ent (drp σ c d) c' = ent σ c' := by
  refine ent_congr (τ := drp σ c d) (pk_un hne) hn (fun j h1 h2 => ?_)
  have e4 : (drp σ c d) 4 = shf (σ 4) c d (cnt σ c - 1) := rfl
  have e5 : (drp σ c d) 5 = shf (σ 5) c d (cnt σ c - 1) := rfl
  rw [e4, e5]
  unfold shf
  rw [if_neg (by omega), if_neg (by omega)]
  exact ⟨rfl, rfl⟩
theorem Rel_drp {c i : Nat} (h : Rel σ τ) (hc : c < 24) (ha : al σ c) (h2 : σ 1 c = nI 2) (hi : i < cnt σ c) : Rel (drp σ c i) (drp (th τ 0) c i) := by
  have k4 := R_q1 h
  have k5 := R_8 h
  have k6 := R_8' h
  have n1 := (wf_cnt (R_w1 h) hc).1
  have n2 := (wf_cnt (R_w2 h) hc).1
  obtain ⟨⟨r1, r2, r3, r4, r7, r8⟩, i1, i7, i3, i4⟩ := R_C h hc ha
  have ec := cnt_of_ent (r4 h2)
  have eX : ent (drp σ c i) c = (ent σ c).eraseIdx i := ent_drp n1 hi
  have eM : ent (drp (th τ 0) c i) c = (ent τ c).eraseIdx i := ent_drp (τ := th τ 0) n2 (show i < cnt τ c by omega)
  refine Rel_one (c0 := c) h rfl ⟨rfl, rfl, rfl⟩ rfl rfl rfl rfl rfl (fun c' hc' hne => ⟨rfl, rfl, fun _ _ => rfl, ent_odrp (wf_cnt (R_w1 h) hc').1 n1 hne, rfl, rfl, rfl⟩) (fun c' hc' hne => ⟨rfl, rfl, fun _ _ => rfl, ent_odrp (σ := th τ 0) (wf_cnt (R_w2 h) hc').1 n2 hne, rfl, rfl, rfl⟩) (fun _ _ => ?_) (wf_drp (R_w1 h) hc) (wf_drp (τ := th τ 0) (R_w2 h) hc) k4 k5 k6
  refine ⟨⟨r1, r2, r3, fun _ => by rw [eX, eM, r4 h2], r7, r8⟩, i1, i7, i3, fun _ => ?_⟩
  obtain ⟨e1, e2⟩ := i4 h2
  unfold iE
  rw [eX]
  exact ⟨fun q hq => e1 q (List.mem_of_mem_eraseIdx hq), e2.sublist ((List.eraseIdx_sublist _ _).map _)⟩
/-- an emptied cell -/
theorem empF_at (f : Nat → Int32) {c n j : Nat} (hj : j < n) : empF f c n (c * 3 + j) = -1 := by
  induction n with
  | zero => omega
  | succ n ih =>
    show upd (empF f c n) (c * 3 + n) (-1) (c * 3 + j) = -1
    by_cases e : j = n
    · rw [e, pk_us]
    · rw [pk_un (by omega)]; exact ih (by omega)
theorem empF_o (f : Nat → Int32) {c n j : Nat} (hj : j < c * 3 ∨ c * 3 + n ≤ j) : empF f c n j = f j := by
  induction n with
  | zero => rfl
  | succ n ih =>
    show upd (empF f c n) (c * 3 + n) (-1) j = f j
    rw [pk_un (by omega)]; exact ih (by omega)
theorem ent_emp (c : Nat) : ent (emp σ c) c = [] := by
  have e : cnt (emp σ c) c = 0 := by
    show (upd (σ 6) c (nI 0) c).toNatClampNeg = 0
    rw [pk_us, nI_clamp (by decide)]
  rw [ent_rws, e]; rfl
theorem ent_oemp {c c' : Nat} (hn : cnt σ c' ≤ 4) (hne : c' ≠ c) : ent (emp σ c) c' = ent σ c' := ent_congr (τ := emp σ c) (pk_un hne) hn (fun j h1 h2 => ⟨rfl, rfl⟩)
theorem wf_emp {c : Nat} (hw : wf σ) (hc : c < 24) : wf (emp σ c) := by
  obtain ⟨h1, h2, h3⟩ := hw
  refine ⟨fun c' hc' => ?_, fun j hj => ?_, h3⟩
  · show ∃ n, n ≤ 4 ∧ upd (σ 6) c (nI 0) c' = nI n
    by_cases e : c' = c
    · rw [e, pk_us]; exact ⟨0, by decide, rfl⟩
    · rw [pk_un e]; exact h1 c' hc'
  · show nc (empF (σ 3) c 3 j)
    by_cases e : j < c * 3 ∨ c * 3 + 3 ≤ j
    · rw [empF_o _ e]; exact h2 j hj
    · obtain ⟨f, hf, rfl⟩ : ∃ f, f < 3 ∧ j = c * 3 + f := ⟨j - c * 3, by omega, by omega⟩
      rw [empF_at _ hf]; exact Or.inl rfl
theorem sC_emp {c c' : Nat} (hn : cnt σ c' ≤ 4) (hne : c' ≠ c) : sC σ (emp σ c) c' := ⟨rfl, rfl, fun f hf => empF_o _ (by omega), ent_oemp hn hne, rfl, rfl, rfl⟩
theorem Rel_emp {c : Nat} (h : Rel σ τ) (hc : c < 24) : Rel (emp σ c) (emp τ c) := by
  have k4 := R_q1 h
  have k5 := R_8 h
  have k6 := R_8' h
  refine Rel_one (c0 := c) h rfl ⟨rfl, rfl, rfl⟩ rfl rfl rfl rfl rfl (fun c' hc' hne => sC_emp (wf_cnt (R_w1 h) hc').1 hne) (fun c' hc' hne => sC_emp (wf_cnt (R_w2 h) hc').1 hne) (fun _ ha => ?_) (wf_emp (R_w1 h) hc) (wf_emp (R_w2 h) hc) k4 k5 k6
  obtain ⟨⟨r1, r2, r3, r4, r7, r8⟩, i1, i7, i3, i4⟩ := R_C h hc ha
  refine ⟨⟨r1, r2, fun f hf => (empF_at _ (fc3 hf)).trans (empF_at _ (fc3 hf)).symm, fun _ => (ent_emp c).trans (ent_emp c).symm, r7, r8⟩, i1, i7, fun f d hf hd e => ?_, fun _ => ?_⟩
  · have e : empF (σ 3) c 3 (c * 3 + f) = nI d := e
    rw [empF_at _ (fc3 hf)] at e
    exact absurd e.symm (nI_m1 (by omega))
  · unfold iE
    rw [ent_emp]
    exact ⟨fun q hq => absurd hq List.not_mem_nil, List.nodup_nil⟩
/-- run: the first of the queue leaves it -/
theorem qI_deq {w c : Nat} (h : qI σ) (hw : w < 24) (ew : σ 0 1 = nI (w + 1)) (hc : c < 24) (ec : σ 11 0 = nI c) : qI (va_up (deq σ w) 7 (upd (σ 7) c (nI 3))) := by
  obtain ⟨w', hw', ew', h1, h2⟩ := h
  have e : w' = w + 1 := (nI_eq (by omega) (by omega)).mp (ew'.symm.trans ew)
  subst e
  refine ⟨w, by omega, rfl, fun i hi => ?_, fun i j hi hj q => ?_⟩
  · show ∃ d, d < 24 ∧ shq (σ 11) w i = nI d ∧ upd (σ 7) c (nI 3) d = nI 2
    unfold shq; rw [if_pos hi]
    obtain ⟨d, hd, e1, e2⟩ := h1 (i + 1) (by omega)
    refine ⟨d, hd, e1, ?_⟩
    have hne : d ≠ c := fun z => by
      have := h2 (i + 1) 0 (by omega) (by omega) (by rw [e1, ec, z])
      omega
    rw [pk_un hne]; exact e2
  · have q : shq (σ 11) w i = shq (σ 11) w j := q
    unfold shq at q
    rw [if_pos hi, if_pos hj] at q
    have := h2 (i + 1) (j + 1) (by omega) (by omega) q
    omega
theorem Rel_deq {w c : Nat} (h : Rel σ τ) (hw : w < 24) (ew : σ 0 1 = nI (w + 1)) (hc : c < 24) (ec : σ 11 0 = nI c) : Rel (va_up (deq σ w) 7 (upd (σ 7) c (nI 3))) (va_up (deq (th τ 0) w) 7 (upd (τ 7) c (nI 3))) := by
  have k1 := R_A h
  have k2 := R_S h
  have k3 := R_R h
  have k5 := R_8 h
  have k6 := R_8' h
  obtain ⟨w', hw', ew', hi⟩ := R_Q h
  have e : w' = w + 1 := (nI_eq (by omega) (by omega)).mp (ew'.symm.trans ew)
  subst e
  refine ⟨k1, ⟨rfl, k2.2⟩, fun c' hc' ha => ?_, k3, ⟨w, by omega, rfl, fun i hil => ?_⟩, ⟨wf_run (R_w1 h) hw, wf_run (σ := th τ 0) (R_w2 h) hw⟩, qI_deq (R_q1 h) hw ew hc ec, k5, k6⟩
  · by_cases z : c' = c
    · subst z
      obtain ⟨d, hd, e1, e2⟩ := (R_q1 h).choose_spec.2.2.1 0 (by
        have := (R_q1 h).choose_spec.2.1
        have e3 : (R_q1 h).choose = w + 1 := (nI_eq (by have := (R_q1 h).choose_spec.1; omega) (by omega)).mp (this.symm.trans ew)
        omega)
      have ed : d = c' := nI_i hd hc (e1.symm.trans ec)
      subst ed
      obtain ⟨⟨r1, r2, r3, r4, r7, r8⟩, i1, i7, i3, i4⟩ := R_C h hc' ha
      have s7 : (va_up (deq σ w) 7 (upd (σ 7) d (nI 3))) 7 d = nI 3 := pk_us
      have t7 : (va_up (deq (th τ 0) w) 7 (upd (τ 7) d (nI 3))) 7 d = nI 3 := pk_us
      exact ⟨⟨r1, r2, r3, r4, s7.trans t7.symm, fun _ => r8 (by rw [e2]; decide)⟩, i1, ⟨3, by decide, s7⟩, i3, i4⟩
    · exact sC_ok (σ := σ) (τ := τ) ⟨rfl, rfl, fun _ _ => rfl, rfl, pk_un z, rfl, rfl⟩ ⟨rfl, rfl, fun _ _ => rfl, rfl, pk_un z, rfl, rfl⟩ (fun d _ q => q) (R_C h hc' ha)
  · show shq (σ 11) w i = shq (τ 11) w i ∧ ∀ d, d < 24 → shq (σ 11) w i = nI d → al σ d
    unfold shq; rw [if_pos hil, if_pos hil]
    exact hi (i + 1) (by omega)
theorem Rel_act {c a : Nat} (h : Rel σ τ) (hc : c < 24) (ha : al σ c) (h7 : ¬ σ 7 c = 0) : Rel (act σ c a) (act τ c a) := by
  obtain ⟨⟨r1, r2, r3, r4, r7, r8⟩, i1, i7, i3, i4⟩ := R_C h hc ha
  have e9 := (r8 h7).2
  match a with
  | 0 => exact h
  | 1 =>
    show Rel (va_up σ 10 (upd (σ 10) (σ 9 c).toNatClampNeg (nI c))) (va_up τ 10 (upd (τ 10) (τ 9 c).toNatClampNeg (nI c)))
    rw [← e9]
    exact Rel_root h (Or.inr ⟨c, hc, rfl, ha⟩)
  | 2 =>
    show Rel (if σ 1 c = 0 then va_up σ 10 (upd (σ 10) (σ 9 c).toNatClampNeg (σ 3 (c * 3 + 0))) else σ) (if τ 1 c = 0 then va_up τ 10 (upd (τ 10) (τ 9 c).toNatClampNeg (τ 3 (c * 3 + 0))) else τ)
    rw [← r1, ← e9]
    by_cases q : σ 1 c = 0
    · have f0 : 0 < fc (σ 1 c) := by rw [q]; decide
      rw [if_pos q, if_pos q, ← r3 0 f0]
      refine Rel_root h ?_
      rcases (R_w1 h).2.1 (c * 3 + 0) (by omega) with z | ⟨d, hd, z⟩
      · exact Or.inl z
      · exact Or.inr ⟨d, hd, z, i3 0 d f0 hd z⟩
    · rw [if_neg q, if_neg q]; exact h
  | 3 => exact Rel_emp h hc
  | n + 4 => exact h
end RelS2
