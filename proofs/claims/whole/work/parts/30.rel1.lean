/-! the class's state and the reference's: how they belong together -/
def al (σ : St) (c : Nat) : Prop := bt (σ 0 0) c = true
def rC (σ τ : St) (c : Nat) : Prop := σ 1 c = τ 1 c ∧ σ 2 c = τ 2 c ∧ (∀ f, f < fc (σ 1 c) → σ 3 (c * 3 + f) = τ 3 (c * 3 + f)) ∧ (σ 1 c = nI 2 → ent σ c = ent τ c) ∧ σ 7 c = τ 7 c ∧ (¬ σ 7 c = 0 → σ 8 c = τ 8 c ∧ σ 9 c = τ 9 c)
def iE (σ : St) (c : Nat) : Prop := (∀ q ∈ ent σ c, (∃ k, k < 24 ∧ q.1 = nI k ∧ al σ k) ∧ ∃ d, d < 24 ∧ q.2 = nI d ∧ al σ d) ∧ ((ent σ c).map Prod.fst).Nodup
def iC (σ : St) (c : Nat) : Prop := isK (σ 1 c) ∧ (∃ s, s < 4 ∧ σ 7 c = nI s) ∧ (∀ f d, f < fc (σ 1 c) → d < 24 → σ 3 (c * 3 + f) = nI d → al σ d) ∧ (σ 1 c = nI 2 → iE σ c)
def a8 (σ : St) : Prop := ∀ c, c < 24 → ∃ a, a < 4 ∧ σ 8 c = nI a
def rR (σ τ : St) : Prop := ∀ r, r < 6 → σ 10 r = τ 10 r ∧ ∀ d, d < 24 → σ 10 r = nI d → al σ d
def rQ (σ τ : St) : Prop := ∃ w, w ≤ 24 ∧ σ 0 1 = nI w ∧ ∀ i, i < w → σ 11 i = τ 11 i ∧ ∀ d, d < 24 → σ 11 i = nI d → al σ d
def rA (σ τ : St) : Prop := lo24 (σ 0 0) ∧ ∀ c, c < 24 → (al σ c ↔ ¬ τ 1 c < 0)
def rS (σ τ : St) : Prop := σ 0 1 = τ 0 1 ∧ σ 0 2 = τ 0 2 ∧ σ 0 3 = τ 0 3
def Rel (σ τ : St) : Prop := rA σ τ ∧ rS σ τ ∧ (∀ c, c < 24 → al σ c → rC σ τ c ∧ iC σ c) ∧ rR σ τ ∧ rQ σ τ ∧ (wf σ ∧ wf τ) ∧ qI σ ∧ a8 σ ∧ a8 τ
section RelS
variable {σ τ σ' τ' : St}
theorem R_A (h : Rel σ τ) : rA σ τ := h.1
theorem R_S (h : Rel σ τ) : rS σ τ := h.2.1
theorem R_C (h : Rel σ τ) {c : Nat} (hc : c < 24) (ha : al σ c) : rC σ τ c ∧ iC σ c := h.2.2.1 c hc ha
theorem R_R (h : Rel σ τ) : rR σ τ := h.2.2.2.1
theorem R_Q (h : Rel σ τ) : rQ σ τ := h.2.2.2.2.1
theorem R_w1 (h : Rel σ τ) : wf σ := h.2.2.2.2.2.1.1
theorem R_w2 (h : Rel σ τ) : wf τ := h.2.2.2.2.2.1.2
theorem R_q1 (h : Rel σ τ) : qI σ := h.2.2.2.2.2.2.1
theorem R_8 (h : Rel σ τ) : a8 σ := h.2.2.2.2.2.2.2.1
theorem R_8' (h : Rel σ τ) : a8 τ := h.2.2.2.2.2.2.2.2
theorem R_w (h : Rel σ τ) : ∃ w, w ≤ 24 ∧ σ 0 1 = nI w ∧ τ 0 1 = nI w := by
  obtain ⟨w, hw, e, -⟩ := R_Q h
  exact ⟨w, hw, e, (R_S h).1 ▸ e⟩
theorem R_q2 (h : Rel σ τ) : qI τ := by
  obtain ⟨w, hw, ew, h1, h2⟩ := R_q1 h
  obtain ⟨w', hw', ew', h3⟩ := R_Q h
  have e : w' = w := (nI_eq (by omega) (by omega)).mp (ew'.symm.trans ew)
  subst e
  refine ⟨w', hw, (R_S h).1 ▸ ew, fun i hi => ?_, fun i j hi hj q => h2 i j hi hj ?_⟩
  · obtain ⟨d, hd, e1, e2⟩ := h1 i hi
    obtain ⟨e3, e4⟩ := h3 i hi
    exact ⟨d, hd, e3 ▸ e1, by rw [← (R_C h hd (e4 d hd e1)).1.2.2.2.2.1]; exact e2⟩
  · rw [(h3 i hi).1, (h3 j hj).1]; exact q
theorem R_th (h : Rel σ τ) (k : Nat) : Rel σ (th τ k) := h
theorem R_12 (h : Rel σ τ) (g : Nat → Int32) : Rel σ (va_up τ 12 g) := h
theorem R_of12 {g : Nat → Int32} (h : Rel σ (va_up τ 12 g)) : Rel σ τ := h
theorem R_T (h : Rel σ τ) (x : Int32) : isT σ x ↔ tM τ x := by
  constructor
  · rintro ⟨c, hc, e, ha⟩; exact ⟨c, hc, e, ((R_A h).2 c hc).mp ha⟩
  · rintro ⟨c, hc, e, ha⟩; exact ⟨c, hc, e, ((R_A h).2 c hc).mpr ha⟩
theorem R_Tn (h : Rel σ τ) (x : Int32) : (x = -1 ∨ isT σ x) ↔ (x = -1 ∨ tM τ x) := by rw [R_T h x]
theorem R_tab (h : Rel σ τ) {x : Int32} (hx : isT σ x) : isTab σ x ↔ isTab τ x := by
  obtain ⟨c, hc, rfl, ha⟩ := hx
  rw [isTab_nI hc, isTab_nI hc, (R_C h hc ha).1.1]
theorem R_F (h : Rel σ τ) {x f : Int32} (hx : isT σ x) : isF σ x f ↔ isF τ x f := by
  obtain ⟨c, hc, rfl, ha⟩ := hx
  rw [isF_nI hc, isF_nI hc, (R_C h hc ha).1.1]
theorem isK_nn {k : Int32} (h : isK k) : ¬ k < 0 := by
  obtain ⟨i, hi, rfl⟩ := h; exact nI_pos (by omega)
theorem nI_i {a b : Nat} (ha : a < 24) (hb : b < 24) (e : nI a = nI b) : a = b := (nI_eq (by omega) (by omega)).mp e
theorem th_0 (k : Nat) : (th τ k) 0 0 = nI k := rfl
/-- entries -/
theorem cnt_of_ent {c : Nat} (e : ent σ c = ent τ c) : cnt σ c = cnt τ c := by rw [← ent_len, e, ent_len]
theorem ent_at {c i : Nat} (e : ent σ c = ent τ c) (hi : i < cnt σ c) : σ 4 (c * 4 + i) = τ 4 (c * 4 + i) ∧ σ 5 (c * 4 + i) = τ 5 (c * 4 + i) := by
  have h1 := ent_get hi
  rw [e, ent_get (by rw [← cnt_of_ent e]; exact hi)] at h1
  have h2 := Option.some.inj h1
  exact ⟨(congrArg Prod.fst h2).symm, (congrArg Prod.snd h2).symm⟩
theorem ent_key {c i j : Nat} (hn : ((ent σ c).map Prod.fst).Nodup) (hi : i < cnt σ c) (hj : j < cnt σ c) (e : σ 4 (c * 4 + i) = σ 4 (c * 4 + j)) : i = j := by
  have li : i < ((ent σ c).map Prod.fst).length := by rw [List.length_map, ent_len]; exact hi
  have lj : j < ((ent σ c).map Prod.fst).length := by rw [List.length_map, ent_len]; exact hj
  have gi : ((ent σ c).map Prod.fst)[i]? = some (σ 4 (c * 4 + i)) := by rw [List.getElem?_map, ent_get hi]; rfl
  have gj : ((ent σ c).map Prod.fst)[j]? = some (σ 4 (c * 4 + j)) := by rw [List.getElem?_map, ent_get hj]; rfl
  rw [List.getElem?_eq_getElem li] at gi
  rw [List.getElem?_eq_getElem lj] at gj
  have gg : ((ent σ c).map Prod.fst)[i] = ((ent σ c).map Prod.fst)[j] := by rw [Option.some.inj gi, Option.some.inj gj, e]
  have hp := List.pairwise_iff_getElem.mp hn
  rcases Nat.lt_trichotomy i j with q | q | q
  · exact absurd gg (hp i j li lj q)
  · exact q
  · exact absurd gg.symm (hp j i lj li q)
/-- a cell is as it was -/
def sC (σ σ' : St) (c : Nat) : Prop := σ' 1 c = σ 1 c ∧ σ' 2 c = σ 2 c ∧ (∀ f, f < 3 → σ' 3 (c * 3 + f) = σ 3 (c * 3 + f)) ∧ ent σ' c = ent σ c ∧ σ' 7 c = σ 7 c ∧ σ' 8 c = σ 8 c ∧ σ' 9 c = σ 9 c
theorem fc3 {k : Int32} {f : Nat} (h : f < fc k) : f < 3 := Nat.lt_of_lt_of_le h (fc_le k)
theorem sC_ok {c : Nat} (hs : sC σ σ' c) (ht : sC τ τ' c) (hal : ∀ d, d < 24 → al σ d → al σ' d) (h : rC σ τ c ∧ iC σ c) : rC σ' τ' c ∧ iC σ' c := by
  obtain ⟨s1, s2, s3, s4, s7, s8, s9⟩ := hs
  obtain ⟨t1, t2, t3, t4, t7, t8, t9⟩ := ht
  obtain ⟨⟨r1, r2, r3, r4, r7, r8⟩, i1, i7, i3, i4⟩ := h
  refine ⟨⟨by rw [s1, t1]; exact r1, by rw [s2, t2]; exact r2, fun f hf => ?_, fun q => ?_, by rw [s7, t7]; exact r7, fun q => ?_⟩, by rw [s1]; exact i1, by rw [s7]; exact i7, fun f d hf hd e => ?_, fun q => ?_⟩
  · rw [s1] at hf; rw [s3 f (fc3 hf), t3 f (fc3 hf)]; exact r3 f hf
  · rw [s1] at q; rw [s4, t4]; exact r4 q
  · rw [s7] at q; rw [s8, t8, s9, t9]; exact r8 q
  · rw [s1] at hf; rw [s3 f (fc3 hf)] at e; exact hal d hd (i3 f d hf hd e)
  · rw [s1] at q
    obtain ⟨e1, e2⟩ := i4 q
    refine ⟨fun z hz => ?_, by rw [s4]; exact e2⟩
    rw [s4] at hz
    obtain ⟨⟨k, hk, ek, ak⟩, d, hd, ed, ad⟩ := e1 z hz
    exact ⟨⟨k, hk, ek, hal k hk ak⟩, d, hd, ed, hal d hd ad⟩
/-- a call that touches one cell and no more -/
theorem Rel_one {c0 : Nat} (h : Rel σ τ) (h0 : σ' 0 = σ 0) (t0 : τ' 0 1 = τ 0 1 ∧ τ' 0 2 = τ 0 2 ∧ τ' 0 3 = τ 0 3) (t1 : τ' 1 = τ 1) (hr : σ' 10 = σ 10) (tr : τ' 10 = τ 10) (hq : σ' 11 = σ 11) (tq : τ' 11 = τ 11)
    (hs : ∀ c, c < 24 → c ≠ c0 → sC σ σ' c) (ht : ∀ c, c < 24 → c ≠ c0 → sC τ τ' c) (hc : c0 < 24 → al σ c0 → rC σ' τ' c0 ∧ iC σ' c0) (w1 : wf σ') (w2 : wf τ') (q : qI σ') (a1 : a8 σ') (a2 : a8 τ') : Rel σ' τ' := by
  have ea : ∀ d, al σ' d ↔ al σ d := fun d => by unfold al; rw [h0]
  refine ⟨⟨by rw [h0]; exact (R_A h).1, fun c hc => by rw [ea, t1]; exact (R_A h).2 c hc⟩, ?_, fun c hc' ha => ?_, fun r hr' => ?_, ?_, ⟨w1, w2⟩, q, a1, a2⟩
  · unfold rS; rw [h0, t0.1, t0.2.1, t0.2.2]; exact R_S h
  · rw [ea] at ha
    by_cases e : c = c0
    · subst e; exact hc hc' ha
    · exact sC_ok (hs c hc' e) (ht c hc' e) (fun d _ q => (ea d).mpr q) (R_C h hc' ha)
  · rw [hr, tr]
    obtain ⟨q1, q2⟩ := R_R h r hr'
    exact ⟨q1, fun d hd e => (ea d).mpr (q2 d hd e)⟩
  · obtain ⟨w, hw, ew, hi⟩ := R_Q h
    refine ⟨w, hw, by rw [h0]; exact ew, fun i hil => ?_⟩
    rw [hq, tq]
    exact ⟨(hi i hil).1, fun d hd e => (ea d).mpr ((hi i hil).2 d hd e)⟩
/-- set -/
theorem Rel_set {c j : Nat} {t : Int32} (h : Rel σ τ) (hc : c < 24) (ha : al σ c) (hj : j < fc (σ 1 c)) (ht : t = -1 ∨ isT σ t) : Rel (va_up σ 3 (upd (σ 3) (c * 3 + j) t)) (va_up (th τ 0) 3 (upd (τ 3) (c * 3 + j) t)) := by
  have k1 := R_A h
  have k2 := R_S h
  have k3 := R_Q h
  have k4 := R_q1 h
  have k5 := R_8 h
  have k6 := R_8' h
  have hj3 := fc3 hj
  have hnc : nc t := by
    rcases ht with e | ⟨d, hd, e, -⟩
    · exact Or.inl e
    · exact Or.inr ⟨d, hd, e⟩
  have oth : ∀ ρ : St, ∀ c', c' ≠ c → ∀ f, f < 3 → upd (ρ 3) (c * 3 + j) t (c' * 3 + f) = ρ 3 (c' * 3 + f) := fun ρ c' hne f hf => pk_un (by omega)
  refine Rel_one (c0 := c) h rfl ⟨rfl, rfl, rfl⟩ rfl rfl rfl rfl rfl (fun c' _ hne => ⟨rfl, rfl, fun f hf => oth σ c' hne f hf, rfl, rfl, rfl, rfl⟩) (fun c' _ hne => ⟨rfl, rfl, fun f hf => oth τ c' hne f hf, rfl, rfl, rfl, rfl⟩) (fun _ _ => ?_) (wf_3 (R_w1 h) hnc) (wf_3 (R_w2 h) hnc) k4 k5 k6
  obtain ⟨⟨r1, r2, r3, r4, r7, r8⟩, i1, i7, i3, i4⟩ := R_C h hc ha
  refine ⟨⟨r1, r2, fun f hf => ?_, r4, r7, r8⟩, i1, i7, fun f d hf hd e => ?_, i4⟩
  · show upd (σ 3) (c * 3 + j) t (c * 3 + f) = upd (τ 3) (c * 3 + j) t (c * 3 + f)
    by_cases q : f = j
    · rw [q, pk_us, pk_us]
    · rw [pk_un (by omega), pk_un (by omega)]; exact r3 f hf
  · have e : upd (σ 3) (c * 3 + j) t (c * 3 + f) = nI d := e
    by_cases q : f = j
    · rw [q, pk_us] at e
      rcases ht with z | ⟨d', hd', z, az⟩
      · exact absurd (e.symm.trans z) (nI_m1 (by omega))
      · rw [nI_i hd hd' (e.symm.trans z)]; exact az
    · rw [pk_un (by omega)] at e; exact i3 f d hf hd e
/-- root -/
theorem wf_10 {j : Nat} {x : Int32} (hw : wf σ) (hx : nc x) : wf (va_up σ 10 (upd (σ 10) j x)) := by
  obtain ⟨h1, h2, h3, h4, h5, h6, h7⟩ := hw
  refine ⟨h1, h2, h3, h4, h5, fun r hr => ?_, h7⟩
  show nc (upd (σ 10) j x r)
  by_cases e : r = j
  · rw [e, pk_us]; exact hx
  · rw [pk_un e]; exact h6 r hr
theorem nc_T {x : Int32} (h : x = -1 ∨ isT σ x) : nc x := by
  rcases h with e | ⟨d, hd, e, -⟩
  · exact Or.inl e
  · exact Or.inr ⟨d, hd, e⟩
theorem Rel_root {j : Nat} {x : Int32} (h : Rel σ τ) (hx : x = -1 ∨ isT σ x) : Rel (va_up σ 10 (upd (σ 10) j x)) (va_up τ 10 (upd (τ 10) j x)) := by
  have k1 := R_A h
  have k2 := R_S h
  have k3 := R_Q h
  have k4 := R_q1 h
  have k5 := R_8 h
  have k6 := R_8' h
  have k7 := h.2.2.1
  refine ⟨k1, k2, k7, fun r hr => ?_, k3, ⟨wf_10 (R_w1 h) (nc_T hx), wf_10 (R_w2 h) (nc_T hx)⟩, k4, k5, k6⟩
  show upd (σ 10) j x r = upd (τ 10) j x r ∧ ∀ d, d < 24 → upd (σ 10) j x r = nI d → al σ d
  obtain ⟨q1, q2⟩ := R_R h r hr
  by_cases e : r = j
  · rw [e, pk_us, pk_us]
    refine ⟨rfl, fun d hd z => ?_⟩
    rcases hx with y | ⟨d', hd', y, ay⟩
    · exact absurd (z.symm.trans y) (nI_m1 (by omega))
    · rw [nI_i hd hd' (z.symm.trans y)]; exact ay
  · rw [pk_un e, pk_un e]; exact ⟨q1, q2⟩
/-- guard -/
theorem wf_9 {c : Nat} {f g : Nat → Int32} {r : Int32} (hw : wf σ) (hr : isR r) : wf (va_up (va_up (va_up σ 7 f) 8 g) 9 (upd (σ 9) c r)) := by
  obtain ⟨h1, h2, h3, h4, h5, h6⟩ := hw
  refine ⟨h1, h2, h3, h4, fun c' hc' => ?_, h6⟩
  show ∃ t, t < 6 ∧ upd (σ 9) c r c' = nI t
  by_cases e : c' = c
  · rw [e, pk_us]; obtain ⟨j, hj, q⟩ := hr; exact ⟨j, hj, q⟩
  · rw [pk_un e]; exact h5 c' hc'
theorem a8_up {c : Nat} {a : Int32} (h : a8 σ) (ha : isA a) : ∀ c', c' < 24 → ∃ i, i < 4 ∧ upd (σ 8) c a c' = nI i := fun c' hc' => by
  by_cases e : c' = c
  · rw [e, pk_us]; obtain ⟨j, hj, q⟩ := ha; exact ⟨j, hj, q⟩
  · rw [pk_un e]; exact h c' hc'
theorem qI_7 {c : Nat} {x : Int32} (h : qI σ) (hc : ¬ σ 7 c = nI 2) : qI (va_up σ 7 (upd (σ 7) c x)) := by
  obtain ⟨w, hw, ew, h1, h2⟩ := h
  refine ⟨w, hw, ew, fun i hi => ?_, h2⟩
  obtain ⟨d, hd, e1, e2⟩ := h1 i hi
  refine ⟨d, hd, e1, ?_⟩
  show upd (σ 7) c x d = nI 2
  have hne : d ≠ c := fun q => hc (by rw [← q]; exact e2)
  rw [pk_un hne]; exact e2
theorem Rel_guard {c : Nat} {a r : Int32} (h : Rel σ τ) (hc : c < 24) (ha : al σ c) (h7 : σ 7 c = 0) (hA : isA a) (hR : isR r) : Rel (grd σ c a r) (grd (th τ 0) c a r) := by
  have q7 : qI (va_up σ 7 (upd (σ 7) c (nI 1))) := qI_7 (R_q1 h) (fun q => by rw [h7] at q; exact absurd q (by decide))
  refine Rel_one (c0 := c) h rfl ⟨rfl, rfl, rfl⟩ rfl rfl rfl rfl rfl (fun c' _ hne => ⟨rfl, rfl, fun _ _ => rfl, rfl, pk_un hne, pk_un hne, pk_un hne⟩) (fun c' _ hne => ⟨rfl, rfl, fun _ _ => rfl, rfl, pk_un hne, pk_un hne, pk_un hne⟩) (fun _ _ => ?_) (wf_9 (R_w1 h) hR) (wf_9 (R_w2 h) hR) q7 (a8_up (R_8 h) hA) (a8_up (R_8' h) hA)
  obtain ⟨⟨r1, r2, r3, r4, r7, r8⟩, i1, i7, i3, i4⟩ := R_C h hc ha
  have e7 : (grd σ c a r) 7 c = nI 1 := pk_us
  have f7 : (grd (th τ 0) c a r) 7 c = nI 1 := pk_us
  have e8 : (grd σ c a r) 8 c = a := pk_us
  have f8 : (grd (th τ 0) c a r) 8 c = a := pk_us
  have e9 : (grd σ c a r) 9 c = r := pk_us
  have f9 : (grd (th τ 0) c a r) 9 c = r := pk_us
  exact ⟨⟨r1, r2, r3, r4, e7.trans f7.symm, fun _ => ⟨e8.trans f8.symm, e9.trans f9.symm⟩⟩, i1, ⟨1, by decide, e7⟩, i3, i4⟩
end RelS
