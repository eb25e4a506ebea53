/-! make and collect -/
section RelS3
variable {σ τ σ' τ' : St}
theorem Rel_plc {c : Nat} {k : Int32} (h : Rel σ τ) (hl : lf σ c) (hk : isK k) : Rel (plc σ c k) (plM τ c k) := by
  obtain ⟨hc, hf, -⟩ := hl
  have hna : ¬ al σ c := fun q => by unfold al at q; rw [hf] at q; cases q
  have ea : ∀ d, d < 24 → (al (plc σ c k) d ↔ (al σ d ∨ d = c)) := fun d hd => zb_orc (σ 0 0) hc hd
  have hal : ∀ d, d < 24 → al σ d → al (plc σ c k) d := fun d hd q => (ea d hd).mpr (Or.inl q)
  have k5 := R_8 h
  have k6 := R_8' h
  have w1 := R_w1 h
  have w2 := R_w2 h
  have e2 : (plc σ c k) 2 = upd (σ 2) c (σ 0 2 + nI 1) := rfl
  have f2 : (plM τ c k) 2 = upd (τ 2) c (τ 0 2 + nI 1) := rfl
  have e1 : (plc σ c k) 1 = upd (σ 1) c k := rfl
  have f1 : (plM τ c k) 1 = upd (τ 1) c k := rfl
  have e7 : (plc σ c k) 7 = upd (σ 7) c (nI 0) := rfl
  have f7 : (plM τ c k) 7 = upd (τ 7) c (nI 0) := rfl
  have e3 : (plc σ c k) 3 = empF (σ 3) c 3 := rfl
  have f3 : (plM τ c k) 3 = empF (τ 3) c 3 := rfl
  have eE : ent (plc σ c k) c = [] := ent_emp c
  have fE : ent (plM τ c k) c = [] := ent_emp c
  refine ⟨⟨lo24_or (R_A h).1 (lo24_one hc), fun c' hc' => ?_⟩, ⟨(R_S h).1, ?_, (R_S h).2.2⟩, fun c' hc' ha => ?_, fun r hr => ?_, ?_, ⟨wf_emp (σ := pl5 (pl4 (pl3 (pl2 (pl1 σ) c) c k) c) c) w1 hc, wf_emp (σ := pl5 (pl4 (pl3 (pl1 τ) c k) c) c) w2 hc⟩, ?_, k5, k6⟩
  · rw [ea c' hc', f1]
    by_cases e : c' = c
    · rw [e, pk_us]; exact ⟨fun _ => isK_nn hk, fun _ => Or.inr rfl⟩
    · rw [pk_un e, ← (R_A h).2 c' hc']
      exact ⟨fun q => q.resolve_right e, Or.inl⟩
  · show σ 0 2 + nI 1 = τ 0 2 + nI 1
    rw [(R_S h).2.1]
  · by_cases e : c' = c
    · subst e
      refine ⟨⟨by rw [e1, f1, pk_us, pk_us], by rw [e2, f2, pk_us, pk_us, (R_S h).2.1], fun f hf => ?_, fun _ => eE.trans fE.symm, by rw [e7, f7, pk_us, pk_us], fun q => ?_⟩, by rw [e1, pk_us]; exact hk, ⟨0, by decide, by rw [e7, pk_us]⟩, fun f d hf hd q => ?_, fun _ => ?_⟩
      · rw [e3, f3, empF_at _ (fc3 hf), empF_at _ (fc3 hf)]
      · rw [e7, pk_us] at q; exact absurd rfl q
      · rw [e3, empF_at _ (fc3 hf)] at q; exact absurd q.symm (nI_m1 (by omega))
      · unfold iE; rw [eE]; exact ⟨fun q hq => absurd hq List.not_mem_nil, List.nodup_nil⟩
    · have ha' := ((ea c' hc').mp ha).resolve_right e
      refine sC_ok (σ := σ) (τ := τ) ⟨by rw [e1, pk_un e], by rw [e2, pk_un e], fun f hf => empF_o _ (by omega), ent_oemp (σ := pl5 (pl4 (pl3 (pl2 (pl1 σ) c) c k) c) c) (wf_cnt (R_w1 h) hc').1 e, by rw [e7, pk_un e], rfl, rfl⟩ ⟨by rw [f1, pk_un e], by rw [f2, pk_un e], fun f hf => empF_o _ (by omega), ent_oemp (σ := pl5 (pl4 (pl3 (pl1 τ) c k) c) c) (wf_cnt (R_w2 h) hc').1 e, by rw [f7, pk_un e], rfl, rfl⟩ hal (R_C h hc' ha')
  · exact ⟨(R_R h r hr).1, fun d hd q => hal d hd ((R_R h r hr).2 d hd q)⟩
  · obtain ⟨w, hw, ew, hi⟩ := R_Q h
    exact ⟨w, hw, ew, fun i hil => ⟨(hi i hil).1, fun d hd q => hal d hd ((hi i hil).2 d hd q)⟩⟩
  · obtain ⟨w, hw, ew, hi⟩ := R_Q h
    obtain ⟨w', hw', ew', h1, h2⟩ := R_q1 h
    have e : w' = w := (nI_eq (by omega) (by omega)).mp (ew'.symm.trans ew)
    subst e
    refine ⟨w', hw', ew', fun i hil => ?_, h2⟩
    obtain ⟨d, hd, q1, q2⟩ := h1 i hil
    refine ⟨d, hd, q1, ?_⟩
    have hne : d ≠ c := fun z => hna (z ▸ (hi i hil).2 d hd q1)
    rw [e7, pk_un hne]; exact q2
theorem lf_lfM {c c' : Nat} (h : Rel σ τ) (h1 : lf σ c) (h2 : lfM τ c') : c = c' := by
  have n1 : ¬ al σ c := fun q => by unfold al at q; rw [h1.2.1] at q; cases q
  have n2 : ¬ al σ c' := fun q => ((R_A h).2 c' h2.1).mp q h2.2.1
  rcases Nat.lt_trichotomy c c' with q | q | q
  · exact absurd (((R_A h).2 c h1.1).mpr (h2.2.2 c q)) n1
  · exact q
  · exact absurd (h1.2.2 c' q) n2
theorem lf_full {c : Nat} (h : Rel σ τ) (h1 : lf σ c) (h2 : fullM τ) : False := by
  have n1 : ¬ al σ c := fun q => by unfold al at q; rw [h1.2.1] at q; cases q
  exact n1 (((R_A h).2 c h1.1).mpr (h2 c h1.1))
theorem full_lf {c : Nat} (h : Rel σ τ) (h1 : full σ) (h2 : lfM τ c) : False := ((R_A h).2 c h2.1).mp (h1 c h2.1) h2.2.1
theorem hld_ent {S : Nat → Prop} {c d : Nat} : hld σ S c d ↔ ((σ 1 c = 0 ∧ ∃ f, f < 3 ∧ σ 3 (c * 3 + f) = nI d) ∨ (σ 1 c = nI 2 ∧ ∃ q ∈ ent σ c, (∃ k, k < 24 ∧ q.1 = nI k ∧ S k) ∧ q.2 = nI d)) := by
  constructor
  · rintro (h | ⟨h1, i, hi, h2, h3⟩)
    · exact Or.inl h
    · exact Or.inr ⟨h1, _, ent_mem.mpr ⟨i, hi, rfl⟩, h2, h3⟩
  · rintro (h | ⟨h1, q, hq, h2, h3⟩)
    · exact Or.inl h
    · obtain ⟨i, hi, rfl⟩ := ent_mem.mp hq
      exact Or.inr ⟨h1, i, hi, h2, h3⟩
theorem hld_rel {S : Nat → Prop} {c d : Nat} (h : Rel σ τ) (hc : c < 24) (ha : al σ c) : hld σ S c d ↔ hld τ S c d := by
  obtain ⟨⟨r1, r2, r3, r4, r7, r8⟩, -⟩ := R_C h hc ha
  rw [hld_ent, hld_ent, ← r1]
  constructor
  · rintro (⟨h1, f, hf, e⟩ | ⟨h1, e⟩)
    · exact Or.inl ⟨h1, f, hf, by rw [← r3 f (by rw [h1]; exact hf)]; exact e⟩
    · exact Or.inr ⟨h1, by rw [← r4 h1]; exact e⟩
  · rintro (⟨h1, f, hf, e⟩ | ⟨h1, e⟩)
    · exact Or.inl ⟨h1, f, hf, by rw [r3 f (by rw [h1]; exact hf)]; exact e⟩
    · exact Or.inr ⟨h1, by rw [r4 h1]; exact e⟩
theorem hld_al {S : Nat → Prop} {c d : Nat} (h : Rel σ τ) (hc : c < 24) (hd : d < 24) (ha : al σ c) (hh : hld σ S c d) : al σ d := by
  obtain ⟨-, i1, i7, i3, i4⟩ := R_C h hc ha
  rcases hld_ent.mp hh with ⟨h1, f, hf, e⟩ | ⟨h1, q, hq, -, e⟩
  · exact i3 f d (by rw [h1]; exact hf) hd e
  · obtain ⟨-, d', hd', e', a'⟩ := (i4 h1).1 q hq
    rw [nI_i hd hd' (e.symm.trans e')]; exact a'
theorem rch_al {A : Nat → Prop} {c : Nat} (h : Rel σ τ) (hA : ∀ d, d < 24 → A d → al σ d) (hr : rch σ A c) : al σ c :=
  hr (al σ) hA (fun c d hc hd h1 h2 => hld_al h hc hd h1 h2)
theorem rch_rel {A B : Nat → Prop} {c : Nat} (h : Rel σ τ) (hA : ∀ d, d < 24 → A d → al σ d) (hAB : ∀ d, d < 24 → (A d ↔ B d)) : rch σ A c ↔ rch τ B c := by
  constructor
  · intro hr
    refine (hr (fun d => al σ d ∧ rch τ B d) (fun d hd q => ⟨hA d hd q, rch_base hd ((hAB d hd).mp q)⟩) (fun c d hc hd h1 h2 => ?_)).2
    exact ⟨hld_al h hc hd h1.1 h2, rch_clo τ B c d hc hd h1.2 (hld_mono (fun k _ q => q.2) ((hld_rel h hc h1.1).mp h2))⟩
  · intro hr
    refine (hr (fun d => al σ d ∧ rch σ A d) (fun d hd q => ⟨hA d hd ((hAB d hd).mpr q), rch_base hd ((hAB d hd).mpr q)⟩) (fun c d hc hd h1 h2 => ?_)).2
    have h3 := (hld_rel h hc h1.1).mpr h2
    exact ⟨hld_al h hc hd h1.1 h3, rch_clo σ A c d hc hd h1.2 (hld_mono (fun k _ q => q.2) h3)⟩
/-- what is forgotten -/
theorem fgF_or (S : Nat → Bool) (c f : Nat) : fgF σ S c f = -1 ∨ fgF σ S c f = σ 3 (c * 3 + f) := by
  unfold fgF; split
  · exact Or.inl rfl
  · exact Or.inr rfl
theorem fgF_n {S : Nat → Bool} {c f : Nat} (h : ¬ σ 1 c = nI 1) : fgF σ S c f = σ 3 (c * 3 + f) := by
  unfold fgF; rw [if_neg (fun q => h q.2.1)]
theorem fgF_rel {S S' : Nat → Bool} {c f : Nat} (h : Rel σ τ) (hc : c < 24) (ha : al σ c) (hS : ∀ c, c < 24 → S c = S' c) (hf : f < fc (σ 1 c)) : fgF σ S c f = fgF τ S' c f := by
  obtain ⟨⟨r1, r2, r3, r4, r7, r8⟩, -⟩ := R_C h hc ha
  by_cases q : σ 1 c = nI 1
  · have f0 : 0 < fc (σ 1 c) := by rw [q]; decide
    have e0 := r3 0 f0
    unfold fgF
    rw [← r3 f hf, ← r1, ← e0, ← hS c hc]
    rcases (R_w1 h).2.1 (c * 3 + 0) (by omega) with z | ⟨d, hd, z⟩
    · rw [if_neg (fun y => y.2.2.2.1 z), if_neg (fun y => y.2.2.2.1 z)]
    · rw [z, nI_clamp (by omega), hS d hd]
  · rw [fgF_n q, fgF_n (by rw [← r1]; exact q)]; exact r3 f hf
theorem fgL_sub (S : Nat → Bool) (c : Nat) : (fgL σ S c).Sublist (ent σ c) := by
  unfold fgL; split
  · exact List.filter_sublist
  · exact List.Sublist.refl _
theorem fgL_rel {S S' : Nat → Bool} {c : Nat} (h : Rel σ τ) (hc : c < 24) (ha : al σ c) (hS : ∀ c, c < 24 → S c = S' c) (h2 : σ 1 c = nI 2) : fgL σ S c = fgL τ S' c := by
  obtain ⟨⟨r1, r2, r3, r4, r7, r8⟩, -, -, -, i4⟩ := R_C h hc ha
  unfold fgL
  rw [← r1, ← hS c hc, ← r4 h2]
  split
  · refine List.filter_congr (fun q hq => ?_)
    obtain ⟨⟨k, hk, e, -⟩, -⟩ := (i4 h2).1 q hq
    rw [e, nI_clamp (by omega)]; exact hS k hk
  · rfl
theorem Rel_fgo {S S' : Nat → Bool} (h : Rel σ τ) (hS : ∀ c, c < 24 → S c = S' c) (f1 : fgo σ S 24 σ') (f2 : fgo τ S' 24 τ') : Rel σ' τ' := by
  have e : ∀ k, k ≠ 3 → k ≠ 4 → k ≠ 5 → k ≠ 6 → σ' k = σ k := f1.1
  have g : ∀ k, k ≠ 3 → k ≠ 4 → k ≠ 5 → k ≠ 6 → τ' k = τ k := f2.1
  have e0 := e 0 (by decide) (by decide) (by decide) (by decide)
  have g0 := g 0 (by decide) (by decide) (by decide) (by decide)
  have e1 := e 1 (by decide) (by decide) (by decide) (by decide)
  have g1 := g 1 (by decide) (by decide) (by decide) (by decide)
  have e2 := e 2 (by decide) (by decide) (by decide) (by decide)
  have g2 := g 2 (by decide) (by decide) (by decide) (by decide)
  have e7 := e 7 (by decide) (by decide) (by decide) (by decide)
  have g7 := g 7 (by decide) (by decide) (by decide) (by decide)
  have e8 := e 8 (by decide) (by decide) (by decide) (by decide)
  have g8 := g 8 (by decide) (by decide) (by decide) (by decide)
  have e9 := e 9 (by decide) (by decide) (by decide) (by decide)
  have g9 := g 9 (by decide) (by decide) (by decide) (by decide)
  have e10 := e 10 (by decide) (by decide) (by decide) (by decide)
  have g10 := g 10 (by decide) (by decide) (by decide) (by decide)
  have e11 := e 11 (by decide) (by decide) (by decide) (by decide)
  have g11 := g 11 (by decide) (by decide) (by decide) (by decide)
  have ea : ∀ d, al σ' d ↔ al σ d := fun d => by unfold al; rw [e0]
  refine ⟨⟨by rw [e0]; exact (R_A h).1, fun c hc => by rw [ea, g1]; exact (R_A h).2 c hc⟩, ?_, fun c hc ha => ?_, fun r hr => ?_, ?_, ⟨f1.2.1, f2.2.1⟩, qI_fgo f1 (R_q1 h), fun c hc => by rw [e8]; exact R_8 h c hc, fun c hc => by rw [g8]; exact R_8' h c hc⟩
  · unfold rS; rw [e0, g0]; exact R_S h
  · rw [ea] at ha
    obtain ⟨p3, p4⟩ := f1.2.2.1 c hc hc
    obtain ⟨q3, q4⟩ := f2.2.2.1 c hc hc
    have hR := R_C h hc ha
    obtain ⟨⟨r1, r2, r3, r4, r7, r8⟩, i1, i7, i3, i4⟩ := hR
    refine ⟨⟨by rw [e1, g1]; exact r1, by rw [e2, g2]; exact r2, fun f hf => ?_, fun z => ?_, by rw [e7, g7]; exact r7, fun z => ?_⟩, by rw [e1]; exact i1, by rw [e7]; exact i7, fun f d hf hd z => ?_, fun z => ?_⟩
    · rw [e1] at hf; rw [p3 f (fc3 hf), q3 f (fc3 hf)]; exact fgF_rel h hc ha hS hf
    · rw [e1] at z; rw [p4, q4]; exact fgL_rel h hc ha hS z
    · rw [e7] at z; rw [e8, g8, e9, g9]; exact r8 z
    · rw [e1] at hf; rw [p3 f (fc3 hf)] at z; rw [ea]
      rcases fgF_or (σ := σ) S c f with y | y
      · exact absurd (z.symm.trans y) (nI_m1 (by omega))
      · exact i3 f d hf hd (y.symm.trans z)
    · rw [e1] at z
      obtain ⟨u1, u2⟩ := i4 z
      unfold iE
      rw [p4]
      refine ⟨fun q hq => ?_, u2.sublist ((fgL_sub S c).map _)⟩
      obtain ⟨⟨k, hk, ek, ak⟩, d, hd, ed, ad⟩ := u1 q ((fgL_sub S c).subset hq)
      exact ⟨⟨k, hk, ek, (ea k).mpr ak⟩, d, hd, ed, (ea d).mpr ad⟩
  · rw [e10, g10]; exact ⟨(R_R h r hr).1, fun d hd q => (ea d).mpr ((R_R h r hr).2 d hd q)⟩
  · obtain ⟨w, hw, ew, hi⟩ := R_Q h
    refine ⟨w, hw, by rw [e0]; exact ew, fun i hil => ?_⟩
    rw [e11, g11]
    exact ⟨(hi i hil).1, fun d hd q => (ea d).mpr ((hi i hil).2 d hd q)⟩
/-- what is queued -/
theorem Rel_enq {i : Nat} (h : Rel σ τ) (hi : i < 24) (ha : al σ i) (h1 : σ 7 i = nI 1) : Rel (enq σ i) (enq τ i) := by
  obtain ⟨w, hw, ew, hq⟩ := R_Q h
  have fw : τ 0 1 = nI w := (R_S h).1 ▸ ew
  have hC := R_C h hi ha
  have t1 : τ 7 i = nI 1 := by rw [← hC.1.2.2.2.2.1]; exact h1
  have o1 := enq_ok (R_w1 h) (R_q1 h) hi h1
  have o2 := enq_ok (R_w2 h) (R_q2 h) hi t1
  have hl := qI_room (R_q1 h) ew hw hi h1
  have k1 := R_A h
  have k2 := R_S h
  have k3 := R_R h
  have k5 := R_8 h
  have k6 := R_8' h
  unfold enq at o1 o2 ⊢
  rw [ew, nI_clamp (by omega)] at o1 ⊢
  rw [fw, nI_clamp (by omega)] at o2 ⊢
  refine ⟨k1, ⟨rfl, k2.2⟩, fun c hc hac => ?_, k3, ⟨w + 1, by omega, rfl, fun j hj => ?_⟩, ⟨o1.1, o2.1⟩, o1.2, k5, k6⟩
  · by_cases e : c = i
    · subst e
      obtain ⟨⟨r1, r2, r3, r4, r7, r8⟩, i1, i7, i3, i4⟩ := hC
      have s7 : (enqW σ c w) 7 c = nI 2 := pk_us
      have u7 : (enqW τ c w) 7 c = nI 2 := pk_us
      exact ⟨⟨r1, r2, r3, r4, s7.trans u7.symm, fun _ => r8 (by rw [h1]; decide)⟩, i1, ⟨2, by decide, s7⟩, i3, i4⟩
    · exact sC_ok (σ := σ) (τ := τ) ⟨rfl, rfl, fun _ _ => rfl, rfl, pk_un e, rfl, rfl⟩ ⟨rfl, rfl, fun _ _ => rfl, rfl, pk_un e, rfl, rfl⟩ (fun d _ q => q) (R_C h hc hac)
  · show upd (σ 11) w (nI i) j = upd (τ 11) w (nI i) j ∧ ∀ d, d < 24 → upd (σ 11) w (nI i) j = nI d → al σ d
    by_cases e : j = w
    · rw [e, pk_us, pk_us]
      exact ⟨rfl, fun d hd q => by rw [← nI_i hi hd q]; exact ha⟩
    · rw [pk_un e, pk_un e]; exact hq j (by omega)
theorem enq_0 (i : Nat) : (enq σ i) 0 0 = σ 0 0 := rfl
theorem Rel_qst {S S' : Nat → Bool} (h : Rel σ τ) (hS : ∀ c, c < 24 → S c = S' c) (hSa : ∀ c, c < 24 → S c = true → al σ c) : ∀ {i : Nat}, i ≤ 24 → Rel (qst σ S i) (qst τ S' i) ∧ (qst σ S i) 0 0 = σ 0 0 := by
  intro i
  induction i with
  | zero => intro _; exact ⟨h, rfl⟩
  | succ i ih =>
    intro hi
    obtain ⟨h1, h2⟩ := ih (by omega)
    have hal : S i = true → al (qst σ S i) i := fun q => by unfold al; rw [h2]; exact hSa i (by omega) q
    by_cases q : S i = true ∧ (qst σ S i) 7 i = nI 1
    · have q' : S' i = true ∧ (qst τ S' i) 7 i = nI 1 := ⟨by rw [← hS i (by omega)]; exact q.1, by rw [← (R_C h1 (by omega) (hal q.1)).1.2.2.2.2.1]; exact q.2⟩
      rw [qst_yes q, qst_yes q', enq_0]
      exact ⟨Rel_enq h1 (by omega) (hal q.1) q.2, h2⟩
    · have q' : ¬ (S' i = true ∧ (qst τ S' i) 7 i = nI 1) := fun z => by
        have z1 : S i = true := by rw [hS i (by omega)]; exact z.1
        exact q ⟨z1, by rw [(R_C h1 (by omega) (hal z1)).1.2.2.2.2.1]; exact z.2⟩
      rw [← qst_no q, ← qst_no q']
      exact ⟨h1, h2⟩
/-- what is freed -/
theorem frS_k (D : Nat → Bool) (n : Nat) {k : Nat} (h1 : k ≠ 1) (h3 : k ≠ 3) (h6 : k ≠ 6) (h7 : k ≠ 7) : frS τ D n k = τ k := by
  induction n with
  | zero => rfl
  | succ n ih =>
    cases hd : D n
    · rw [frS_n hd]; exact ih
    · rw [frS_y hd, fr1, va_up_ne _ _ h7, va_up_ne _ _ h3, va_up_ne _ _ h6, va_up_ne _ _ h1]; exact ih
theorem frS_c {D : Nat → Bool} {c : Nat} (hD : D c = false) (n : Nat) : frS τ D n 1 c = τ 1 c ∧ frS τ D n 6 c = τ 6 c ∧ frS τ D n 7 c = τ 7 c ∧ ∀ f, f < 3 → frS τ D n 3 (c * 3 + f) = τ 3 (c * 3 + f) := by
  induction n with
  | zero => exact ⟨rfl, rfl, rfl, fun _ _ => rfl⟩
  | succ n ih =>
    cases hd : D n
    · rw [frS_n hd]; exact ih
    · have hne : c ≠ n := fun q => by rw [q, hd] at hD; cases hD
      rw [frS_y hd]
      obtain ⟨a, b, d, e⟩ := ih
      refine ⟨(pk_un hne).trans a, (pk_un hne).trans b, (pk_un hne).trans d, fun f hf => ?_⟩
      exact (pk_un (by omega)).trans (e f hf)
theorem frS_m {D : Nat → Bool} {c : Nat} (hD : D c = true) {n : Nat} (hn : c < n) : frS τ D n 1 c = -1 := by
  induction n with
  | zero => omega
  | succ n ih =>
    by_cases e : c = n
    · subst e
      rw [frS_y hD]; exact pk_us
    · cases hd : D n
      · rw [frS_n hd]; exact ih (by omega)
      · rw [frS_y hd]; exact (pk_un e).trans (ih (by omega))
theorem wf_fr1 {i : Nat} (hw : wf τ) : wf (fr1 τ i) := by
  obtain ⟨h1, h2, h3⟩ := hw
  refine ⟨fun c' hc' => ?_, fun j hj => ?_, h3⟩
  · show ∃ n, n ≤ 4 ∧ upd (τ 6) i (nI 0) c' = nI n
    by_cases e : c' = i
    · rw [e, pk_us]; exact ⟨0, by decide, rfl⟩
    · rw [pk_un e]; exact h1 c' hc'
  · show nc (upd (τ 3) (i * 3 + 0) (-1) j)
    by_cases e : j = i * 3 + 0
    · rw [e, pk_us]; exact Or.inl rfl
    · rw [pk_un e]; exact h2 j hj
theorem wf_frS {D : Nat → Bool} (n : Nat) (hw : wf τ) : wf (frS τ D n) := by
  induction n with
  | zero => exact hw
  | succ n ih =>
    cases hd : D n
    · rw [frS_n hd]; exact ih
    · rw [frS_y hd]; exact wf_fr1 ih
def kpt (σ : St) (K : Int32) : Prop := (∀ c, c < 24 → bt K c = true → al σ c ∧ (∀ f d, f < fc (σ 1 c) → d < 24 → σ 3 (c * 3 + f) = nI d → bt K d = true) ∧ (σ 1 c = nI 2 → ∀ q ∈ ent σ c, (∃ k, k < 24 ∧ q.1 = nI k ∧ bt K k = true) ∧ ∃ d, d < 24 ∧ q.2 = nI d ∧ bt K d = true)) ∧ (∀ r d, r < 6 → d < 24 → σ 10 r = nI d → bt K d = true) ∧ ∀ w i d, σ 0 1 = nI w → w ≤ 24 → i < w → d < 24 → σ 11 i = nI d → bt K d = true
theorem Rel_free {K : Int32} {g : Nat → Int32} (h : Rel σ τ) (hl : lo24 K) (hb : bl g) (hK : ∀ c, c < 24 → (bt K c = true ↔ g c = nI 1)) (hk : kpt σ K) : Rel (va_up σ 0 (upd (σ 0) 0 K)) (frS τ (qM τ g) 24) := by
  have ea : ∀ d, al (va_up σ 0 (upd (σ 0) 0 K)) d ↔ bt K d = true := fun d => Iff.rfl
  have hD : ∀ c, c < 24 → bt K c = true → qM τ g c = false := fun c hc q => decide_eq_false (fun z => by
    have := (hK c hc).mp q; rw [z.2] at this; exact absurd this (by decide))
  have f0 : frS τ (qM τ g) 24 0 = τ 0 := frS_k _ _ (by decide) (by decide) (by decide) (by decide)
  have f2 : frS τ (qM τ g) 24 2 = τ 2 := frS_k _ _ (by decide) (by decide) (by decide) (by decide)
  have f4 : frS τ (qM τ g) 24 4 = τ 4 := frS_k _ _ (by decide) (by decide) (by decide) (by decide)
  have f5 : frS τ (qM τ g) 24 5 = τ 5 := frS_k _ _ (by decide) (by decide) (by decide) (by decide)
  have f8 : frS τ (qM τ g) 24 8 = τ 8 := frS_k _ _ (by decide) (by decide) (by decide) (by decide)
  have f9 : frS τ (qM τ g) 24 9 = τ 9 := frS_k _ _ (by decide) (by decide) (by decide) (by decide)
  have f10 : frS τ (qM τ g) 24 10 = τ 10 := frS_k _ _ (by decide) (by decide) (by decide) (by decide)
  have f11 : frS τ (qM τ g) 24 11 = τ 11 := frS_k _ _ (by decide) (by decide) (by decide) (by decide)
  have q1 := R_q1 h
  have a1 := R_8 h
  have w1 := R_w1 h
  have s1 := R_S h
  refine ⟨⟨hl, fun c hc => ?_⟩, ?_, fun c hc ha => ?_, fun r hr => ?_, ?_, ⟨w1, wf_frS 24 (R_w2 h)⟩, q1, a1, fun c hc => by rw [f8]; exact R_8' h c hc⟩
  · rw [ea]
    constructor
    · intro q
      rw [(frS_c (hD c hc q) 24).1]
      exact ((R_A h).2 c hc).mp (hk.1 c hc q).1
    · intro q
      by_cases z : qM τ g c = true
      · rw [frS_m z hc] at q; exact absurd (by decide) q
      · have z' : qM τ g c = false := by cases y : qM τ g c; rfl; exact absurd y z
        rw [(frS_c z' 24).1] at q
        refine (hK c hc).mpr ((hb c hc).resolve_left (fun y => z (decide_eq_true ⟨q, y⟩)))
  · unfold rS; rw [f0]; exact s1
  · rw [ea] at ha
    obtain ⟨k1, k3, k4⟩ := hk.1 c hc ha
    obtain ⟨c1, c6, c7, c3⟩ := frS_c (τ := τ) (hD c hc ha) 24
    obtain ⟨⟨r1, r2, r3, r4, r7, r8⟩, i1, i7, i3, i4⟩ := R_C h hc k1
    have eE : ent (frS τ (qM τ g) 24) c = ent τ c := ent_congr c6 (wf_cnt (R_w2 h) hc).1 (fun j _ _ => by rw [f4, f5]; exact ⟨rfl, rfl⟩)
    refine ⟨⟨by rw [c1]; exact r1, by rw [f2]; exact r2, fun f hf => by rw [c3 f (fc3 hf)]; exact r3 f hf, fun z => by rw [eE]; exact r4 z, by rw [c7]; exact r7, fun z => by rw [f8, f9]; exact r8 z⟩, i1, i7, fun f d hf hd z => k3 f d hf hd z, fun z => ⟨k4 z, (i4 z).2⟩⟩
  · rw [f10]; exact ⟨(R_R h r hr).1, fun d hd q => hk.2.1 r d hr hd q⟩
  · obtain ⟨w, hw, ew, hi⟩ := R_Q h
    exact ⟨w, hw, ew, fun i hil => ⟨by rw [f11]; exact (hi i hil).1, fun d hd q => hk.2.2 w i d ew hw hil hd q⟩⟩
theorem num_32 {S : Nat → Bool} (h : ∀ c, 24 ≤ c → S c = false) : num S 32 = num S 24 := by
  have a : ∀ n, 24 ≤ n → num S (n + 1) = num S n := fun n hn => num_n (h n hn)
  rw [a 31 (by decide), a 30 (by decide), a 29 (by decide), a 28 (by decide), a 27 (by decide), a 26 (by decide), a 25 (by decide), a 24 (by decide)]
theorem Rel_col1 (h : Rel σ τ) : Rel (col1 σ) (col1 τ) := by
  have k1 := R_A h
  have k2 := R_S h
  have k3 := h.2.2.1
  have k4 := R_R h
  have k5 := R_Q h
  have k6 := R_w1 h
  have k7 := R_w2 h
  have k8 := R_q1 h
  have k9 := R_8 h
  have k10 := R_8' h
  refine ⟨k1, ⟨k2.1, k2.2.1, ?_⟩, k3, k4, k5, ⟨k6, k7⟩, k8, k9, k10⟩
  show σ 0 3 + nI 1 = τ 0 3 + nI 1
  rw [k2.2.2]
theorem kpt_of {ρ : St} {A : Nat → Prop} {K : Int32} (h : Rel ρ τ) (hA : ∀ d, d < 24 → A d → al ρ d) (hK : ∀ c, c < 24 → (bt K c = true ↔ rch ρ A c)) (hf : fgo ρ (fun d => bt K d) 24 σ) (hr : ∀ r d, r < 6 → d < 24 → ρ 10 r = nI d → A d) (hq : ∀ w i d, ρ 0 1 = nI w → w ≤ 24 → i < w → d < 24 → ρ 11 i = nI d → A d) : kpt σ K := by
  have e : ∀ k, k ≠ 3 → k ≠ 4 → k ≠ 5 → k ≠ 6 → σ k = ρ k := hf.1
  have e0 := e 0 (by decide) (by decide) (by decide) (by decide)
  have e1 := e 1 (by decide) (by decide) (by decide) (by decide)
  have e10 := e 10 (by decide) (by decide) (by decide) (by decide)
  have e11 := e 11 (by decide) (by decide) (by decide) (by decide)
  have hc2 : ∀ c d, c < 24 → d < 24 → bt K c = true → hld ρ (fun k => bt K k = true) c d → bt K d = true := fun c d hc hd h1 h2 =>
    (hK d hd).mpr (rch_clo ρ A c d hc hd ((hK c hc).mp h1) (hld_mono (fun k hk q => (hK k hk).mp q) h2))
  refine ⟨fun c hc ha => ?_, fun r d hr' hd q => ?_, fun w i d ew hw hi hd q => ?_⟩
  · have hal := rch_al h hA ((hK c hc).mp ha)
    obtain ⟨-, i1, i7, i3, i4⟩ := R_C h hc hal
    obtain ⟨p3, p4⟩ := hf.2.2.1 c hc hc
    refine ⟨by unfold al; rw [e0]; exact hal, fun f d hf' hd q => ?_, fun z q hq' => ?_⟩
    · rw [e1] at hf'
      rw [p3 f (fc3 hf')] at q
      obtain ⟨j, hj, ej⟩ := i1
      rcases (show j = 0 ∨ j = 1 ∨ j = 2 by omega) with rfl | rfl | rfl
      · rw [fgF_n (by rw [ej]; decide)] at q
        exact hc2 c d hc hd ha (Or.inl ⟨ej, f, fc3 hf', q⟩)
      · have f1 : fc (nI 1) = 1 := by decide
        have f0 : f = 0 := by
          rw [ej, f1] at hf'; omega
        subst f0
        unfold fgF at q
        split at q
        · exact absurd q.symm (nI_m1 (by omega))
        · rename_i y
          cases z : bt K d
          · refine absurd ⟨ha, ej, rfl, ?_, ?_⟩ y
            · rw [q]; exact nI_m1 (by omega)
            · show bt K _ = false
              rw [q, nI_clamp (by omega)]; exact z
          · rfl
      · rw [ej, show fc (nI 2) = 0 from by decide] at hf'; exact absurd hf' (Nat.not_lt_zero _)
    · rw [e1] at z
      rw [p4] at hq'
      unfold fgL at hq'
      rw [if_pos ⟨ha, z⟩] at hq'
      obtain ⟨m1, m2⟩ := List.mem_filter.mp hq'
      obtain ⟨⟨k, hk, ek, -⟩, d, hd, ed, -⟩ := (i4 z).1 q m1
      have kk : bt K k = true := by
        have : bt K q.1.toNatClampNeg = true := m2
        rw [ek, nI_clamp (by omega)] at this; exact this
      exact ⟨⟨k, hk, ek, kk⟩, d, hd, ed, hc2 c d hc hd ha (hld_ent.mpr (Or.inr ⟨z, q, m1, ⟨k, hk, ek, kk⟩, ed⟩))⟩
  · rw [e10] at q; exact (hK d hd).mpr (rch_base hd (hr r d hr' hd q))
  · rw [e0] at ew; rw [e11] at q; exact (hK d hd).mpr (rch_base hd (hq w i d ew hw hi hd q))
theorem gB_iff {g : Nat → Int32} {c : Nat} : gB g c = true ↔ g c = nI 1 := decide_eq_true_iff
theorem boolEq {a b : Bool} (h : a = true ↔ b = true) : a = b := by
  cases a <;> cases b <;> simp_all
theorem bt_nk (x K : Int32) {c : Nat} (hc : c < 32) : bt (x &&& (K ^^^ -1)) c = true ↔ (bt x c = true ∧ ¬ bt K c = true) := by
  rw [b_and, zb_not K hc, Bool.and_eq_true]
  cases bt K c <;> simp
theorem qM_iff {g : Nat → Int32} {c : Nat} : qM τ g c = true ↔ (¬ τ 1 c < 0 ∧ g c = nI 0) := decide_eq_true_iff
theorem bl_0 {g : Nat → Int32} {c : Nat} (hb : bl g) (hc : c < 24) : g c = nI 0 ↔ ¬ g c = nI 1 := by
  rcases hb c hc with e | e
  · rw [e]; exact ⟨fun _ => by decide, fun _ => rfl⟩
  · rw [e]; exact ⟨fun q => absurd q (by decide), fun q => absurd rfl q⟩
theorem Rel_collect {v v' : Int32} (h0 : Rel σ τ) (hx : colX σ v σ') (hm : gatM τ v' τ') : v = v' ∧ Rel σ' τ' := by
  obtain ⟨x0, L, σ2, q, w, K, σ4, ⟨-, x1⟩, ⟨L0, L1⟩, fx, hw, ew, ⟨-, q1⟩, ⟨K0, K1⟩, gx, ev, eu⟩ := hx
  obtain ⟨g0, g1, τ2, w', g2, g3, τ4, y1, ⟨M0, M1⟩, fy, hw', ew', y2, ⟨N0, N1⟩, gy, ev', eu'⟩ := hm
  have h := Rel_col1 h0
  have hA1 : ∀ d, d < 24 → bt x0 d = true → al (col1 σ) d := fun d hd z => by
    obtain ⟨r, hr, e⟩ := (x1 d hd).mp z
    exact (R_R h r hr).2 d hd e
  have hB1 : ∀ d, d < 24 → (bt x0 d = true ↔ g0 d = nI 1) := fun d hd => by
    rw [x1 d hd, y1 d hd]
    exact ⟨fun ⟨r, hr, e⟩ => ⟨r, hr, by rw [← (R_R h r hr).1]; exact e⟩, fun ⟨r, hr, e⟩ => ⟨r, hr, by rw [(R_R h r hr).1]; exact e⟩⟩
  have hL : ∀ c, c < 24 → (bt L c = true ↔ g1 c = nI 1) := fun c hc => by rw [L1 c hc, M1 c hc]; exact rch_rel h hA1 hB1
  have hLal : ∀ c, c < 24 → bt L c = true → al (col1 σ) c := fun c hc z => rch_al h hA1 ((L1 c hc).mp z)
  have h2 : Rel σ2 τ2 := Rel_fgo (R_12 h g1) (fun c hc => boolEq (by rw [gB_iff]; exact hL c hc)) fx fy
  have e20 : σ2 0 = (col1 σ) 0 := fx.1 0 (by decide) (by decide) (by decide) (by decide)
  have e2a : ∀ d, al σ2 d ↔ al (col1 σ) d := fun d => by unfold al; rw [e20]
  have hS : ∀ c, c < 24 → bt (σ2 0 0 &&& (L ^^^ -1)) c = qM τ2 g1 c := fun c hc => boolEq (by
    rw [bt_nk _ _ (by omega), qM_iff, bl_0 M0 hc, ← hL c hc]
    exact and_congr ((R_A h2).2 c hc) Iff.rfl)
  have h3 := Rel_qst h2 hS (fun c hc z => ((bt_nk _ _ (by omega)).mp z).1) (Nat.le_refl 24)
  obtain ⟨h3, e3⟩ := h3
  have e3a : ∀ d, al (qst σ2 (fun d => bt (σ2 0 0 &&& (L ^^^ -1)) d) 24) d ↔ al σ2 d := fun d => by unfold al; rw [e3]
  have eww : w' = w := (nI_eq (by omega) (by omega)).mp (ew'.symm.trans ((R_S h3).1.symm.trans ew))
  subst eww
  have hQ : ∀ i, i < w' → (qst σ2 (fun d => bt (σ2 0 0 &&& (L ^^^ -1)) d) 24) 11 i = (qst τ2 (qM τ2 g1) 24) 11 i ∧ ∀ d, d < 24 → (qst σ2 (fun d => bt (σ2 0 0 &&& (L ^^^ -1)) d) 24) 11 i = nI d → al (qst σ2 (fun d => bt (σ2 0 0 &&& (L ^^^ -1)) d) 24) d := by
    obtain ⟨w2, hw2, ew2, hi⟩ := R_Q h3
    have : w2 = w' := (nI_eq (by omega) (by omega)).mp (ew2.symm.trans ew)
    subst this
    exact hi
  have hor : ∀ d, bt (L ||| q) d = true ↔ (bt L d = true ∨ bt q d = true) := fun d => by rw [b_or, Bool.or_eq_true]
  have hA2 : ∀ d, d < 24 → bt (L ||| q) d = true → al (qst σ2 (fun d => bt (σ2 0 0 &&& (L ^^^ -1)) d) 24) d := fun d hd z => by
    rcases (hor d).mp z with z | z
    · exact (e3a d).mpr ((e2a d).mpr (hLal d hd z))
    · obtain ⟨r, hr, e⟩ := (q1 d hd).mp z
      exact (hQ r hr).2 d hd e
  have hB2 : ∀ d, d < 24 → (bt (L ||| q) d = true ↔ g2 d = nI 1) := fun d hd => by
    rw [hor d, y2 d hd, hL d hd, q1 d hd]
    exact or_congr Iff.rfl ⟨fun ⟨r, hr, e⟩ => ⟨r, hr, by rw [← (hQ r hr).1]; exact e⟩, fun ⟨r, hr, e⟩ => ⟨r, hr, by rw [(hQ r hr).1]; exact e⟩⟩
  have hK : ∀ c, c < 24 → (bt K c = true ↔ g3 c = nI 1) := fun c hc => by rw [K1 c hc, N1 c hc]; exact rch_rel h3 hA2 hB2
  have h4 : Rel σ4 τ4 := Rel_fgo (R_12 h3 g3) (fun c hc => boolEq (by rw [gB_iff]; exact hK c hc)) gx gy
  have e40 : σ4 0 = (qst σ2 (fun d => bt (σ2 0 0 &&& (L ^^^ -1)) d) 24) 0 := gx.1 0 (by decide) (by decide) (by decide) (by decide)
  have hkp : kpt σ4 K := kpt_of h3 hA2 K1 gx (fun r d hr hd z => by
      have e10 : (qst σ2 (fun d => bt (σ2 0 0 &&& (L ^^^ -1)) d) 24) 10 = (col1 σ) 10 := (qst_k _ _ _ (by decide) (by decide) (by decide)).trans (fx.1 10 (by decide) (by decide) (by decide) (by decide))
      rw [e10] at z
      exact (hor d).mpr (Or.inl ((L1 d hd).mpr (rch_base hd ((x1 d hd).mpr ⟨r, hr, z⟩))))) (fun w2 i d ew2 hw2 hi hd z => by
      have : w2 = w' := (nI_eq (by omega) (by omega)).mp (ew2.symm.trans ew)
      subst this
      exact (hor d).mpr (Or.inr ((q1 d hd).mpr ⟨i, hi, z⟩)))
  constructor
  · rw [ev, ev', num_32 (fun c hc => by
      rw [b_and, (R_A h4).1 c hc]; rfl)]
    refine congrArg nI (num_congr (fun c hc => boolEq ?_))
    rw [bt_nk _ _ (by omega), qM_iff, bl_0 N0 hc, ← hK c hc]
    exact and_congr ((R_A h4).2 c hc) Iff.rfl
  · rw [eu, eu']
    exact Rel_free h4 K0 N0 hK hkp
end RelS3
