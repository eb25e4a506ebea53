/-! the reference: its free cell, its set 'in', its closing -/
def dn : Nat → Int32
  | 0 => -1
  | n + 1 => nI n
theorem dn_neg {n : Nat} (hn : n ≤ 24) (h : dn n < 0) : n = 0 := by
  rcases n with _ | n
  · rfl
  · exact absurd h (nI_pos (by omega))
theorem dn_pos {n : Nat} (h : ¬ dn n < 0) : ∃ k, n = k + 1 := by
  rcases n with _ | n
  · exact absurd (show (-1 : Int32) < 0 by decide) h
  · exact ⟨n, rfl⟩
theorem dn_dec (k : Nat) : nI k + Int32.ofInt (-1) = dn k := by
  rcases k with _ | k
  · decide
  · rw [show Int32.ofInt (-1) = -1 from by decide]; exact pk_m1 k
theorem dn_sub (n : Nat) : nI n - nI 1 = dn n := by
  rcases n with _ | n
  · decide
  · exact pk_sub (by omega)
def lfM (σ : St) (c : Nat) : Prop := c < 24 ∧ σ 1 c < 0 ∧ ∀ d, d < c → ¬ σ 1 d < 0
def fullM (σ : St) : Prop := ∀ d, d < 24 → ¬ σ 1 d < 0
def fcI (σ : St) (n : Nat) (y : Int32) : Prop := (∃ c, n ≤ c ∧ c < 24 ∧ y = nI c ∧ σ 1 c < 0 ∧ ∀ d, n ≤ d → d < c → ¬ σ 1 d < 0) ∨ (y = -1 ∧ ∀ d, n ≤ d → d < 24 → ¬ σ 1 d < 0)
theorem fcI_end {σ : St} {y : Int32} (h : fcI σ 0 y) : (∃ c, lfM σ c ∧ y = nI c) ∨ (y = -1 ∧ fullM σ) := by
  rcases h with ⟨c, -, h1, h2, h3, h4⟩ | ⟨h1, h2⟩
  · exact Or.inl ⟨c, ⟨h1, h3, fun d hd => h4 d (Nat.zero_le _) hd⟩, h2⟩
  · exact Or.inr ⟨h1, fun d hd => h2 d (Nat.zero_le _) hd⟩
theorem fcI_no {σ : St} {k : Nat} {y : Int32} (h : fcI σ (k + 1) y) (hk : 0 ≤ σ 1 k) : fcI σ k y := by
  have hk' : ¬ σ 1 k < 0 := Int32.not_lt.mpr hk
  rcases h with ⟨c, h0, h1, h2, h3, h4⟩ | ⟨h1, h2⟩
  · refine Or.inl ⟨c, by omega, h1, h2, h3, fun d ha hb => ?_⟩
    by_cases e : d = k
    · rw [e]; exact hk'
    · exact h4 d (by omega) hb
  · refine Or.inr ⟨h1, fun d ha hb => ?_⟩
    by_cases e : d = k
    · rw [e]; exact hk'
    · exact h2 d (by omega) hb
theorem fcI_yes {σ : St} {k : Nat} (h24 : k < 24) (hk : ¬ 0 ≤ σ 1 k) : fcI σ k (nI k) := Or.inl ⟨k, Nat.le_refl _, h24, rfl, Int32.not_le.mp hk, fun d h1 h2 => by omega⟩
theorem us_yes {y : Int32} {i : Nat} {f : Nat → Int32} (hi : i < 24) (h : ∀ c, c < 24 → (bt y c = true ↔ (c < i ∧ ¬ f c < 0))) (hf : ¬ f i < 0) : ∀ c, c < 24 → (bt (y ||| ((1 : Int32) <<< (nI i &&& 31))) c = true ↔ (c < i + 1 ∧ ¬ f c < 0)) := fun c hc => by
  rw [zb_orc y hi hc, h c hc]
  constructor
  · rintro (⟨h1, h2⟩ | rfl)
    · exact ⟨by omega, h2⟩
    · exact ⟨by omega, hf⟩
  · rintro ⟨h1, h2⟩
    by_cases e : c = i
    · exact Or.inr e
    · exact Or.inl ⟨by omega, h2⟩
theorem us_no {y : Int32} {i : Nat} {f : Nat → Int32} (h : ∀ c, c < 24 → (bt y c = true ↔ (c < i ∧ ¬ f c < 0))) (hf : f i < 0) : ∀ c, c < 24 → (bt y c = true ↔ (c < i + 1 ∧ ¬ f c < 0)) := fun c hc => by
  rw [h c hc]
  constructor
  · rintro ⟨h1, h2⟩; exact ⟨by omega, h2⟩
  · rintro ⟨h1, h2⟩
    by_cases e : c = i
    · rw [e] at h2; exact absurd hf h2
    · exact ⟨by omega, h2⟩
def bl (g : Nat → Int32) : Prop := ∀ c, c < 24 → g c = nI 0 ∨ g c = nI 1
def gB (g : Nat → Int32) : Nat → Bool := fun c => decide (g c = nI 1)
def adG (g : Nat → Int32) (x v : Int32) (g' : Nat → Int32) : Prop := (v = nI 1 ∧ ∃ d, d < 24 ∧ x = nI d ∧ g d = nI 0 ∧ g' = upd g d (nI 1)) ∨ (v = nI 0 ∧ g' = g ∧ (x = -1 ∨ ∃ d, d < 24 ∧ x = nI d ∧ g d = nI 1))
theorem nc_neg {x : Int32} (h : nc x) (h0 : x < 0) : x = -1 := by
  rcases h with h | ⟨d, hd, e⟩
  · exact h
  · rw [e] at h0; exact absurd h0 (nI_pos (by omega))
theorem adG_bl {g g' : Nat → Int32} {x v : Int32} (hb : bl g) (h : adG g x v g') : bl g' := by
  rcases h with ⟨-, d, hd, -, -, e⟩ | ⟨-, e, -⟩
  · rw [e]; intro c hc
    by_cases q : c = d
    · rw [q, pk_us]; exact Or.inr rfl
    · rw [pk_un q]; exact hb c hc
  · rw [e]; exact hb
theorem adG_iff {g g' : Nat → Int32} {x v : Int32} (h : adG g x v g') {c : Nat} (hc : c < 24) : g' c = nI 1 ↔ (g c = nI 1 ∨ x = nI c) := by
  rcases h with ⟨-, d, hd, ex, e0, e⟩ | ⟨-, e, hx⟩
  · rw [e, ex]
    by_cases q : c = d
    · rw [q, pk_us]; simp
    · rw [pk_un q]
      constructor
      · intro z; exact Or.inl z
      · rintro (z | z)
        · exact z
        · exact absurd ((nI_eq (by omega) (by omega)).mp z).symm q
  · rw [e]
    constructor
    · intro z; exact Or.inl z
    · rintro (z | z)
      · exact z
      · rcases hx with hx | ⟨d, hd, ex, ed⟩
        · exact absurd (z.symm.trans hx) (nI_m1 (by omega))
        · rw [← (nI_eq (by omega) (by omega)).mp (ex.symm.trans z)]; exact ed
/-- between passes -/
def oI (σ : St) (A : Nat → Prop) (m : Int32) (g : Nat → Int32) : Prop := bl g ∧ (∀ d, d < 24 → A d → g d = nI 1) ∧ (∀ d, d < 24 → g d = nI 1 → rch σ A d) ∧ (m = nI 1 ∨ (m = nI 0 ∧ clo σ (fun d => g d = nI 1)))
theorem oI_0 {σ : St} {g : Nat → Int32} (hb : bl g) : oI σ (fun d => g d = nI 1) (nI 1) g := ⟨hb, fun _ _ h => h, fun d hd h => rch_base hd h, Or.inl rfl⟩
theorem oI_end {σ : St} {A : Nat → Prop} {m : Int32} {g : Nat → Int32} (h : oI σ A m g) (hm : m = 0) : bl g ∧ ∀ c, c < 24 → (g c = nI 1 ↔ rch σ A c) := by
  obtain ⟨h1, h2, h3, h4⟩ := h
  have h5 := h4.resolve_left (fun q => by rw [q] at hm; exact absurd hm (by decide))
  exact ⟨h1, rch_iff (S := fun d => g d = nI 1) h2 h5.2 h3⟩
theorem oI_1 {σ : St} {A : Nat → Prop} {m : Int32} {g : Nat → Int32} (h : oI σ A m g) (hm : ¬ m = 0) : nI 1 = m := (h.2.2.2.resolve_right (fun q => hm q.1)).symm
/-- within a pass that began with g0 -/
def kI (σ : St) (A : Nat → Prop) (g0 : Nat → Int32) (P : Prop) (m : Int32) (g : Nat → Int32) : Prop := bl g ∧ (∀ d, d < 24 → g0 d = nI 1 → g d = nI 1) ∧ (∀ d, d < 24 → g d = nI 1 → rch σ A d) ∧ ((m = nI 1 ∧ num (gB g0) 24 < num (gB g) 24) ∨ (m = nI 0 ∧ (∀ d, d < 24 → g d = g0 d) ∧ P))
theorem kI_0 {σ : St} {A : Nat → Prop} {m : Int32} {g : Nat → Int32} {Q : Nat → Prop} (h : oI σ A m g) : kI σ A g (∀ c', c' < 0 → Q c') (nI 0) g := ⟨h.1, fun _ _ q => q, h.2.2.1, Or.inr ⟨rfl, fun _ _ => rfl, fun c' hc' => absurd hc' (Nat.not_lt_zero _)⟩⟩
theorem kI_w {σ : St} {A : Nat → Prop} {g0 g : Nat → Int32} {P P' : Prop} {m : Int32} (h : kI σ A g0 P m g) (hP : (∀ d, d < 24 → g d = g0 d) → P → P') : kI σ A g0 P' m g := ⟨h.1, h.2.1, h.2.2.1, h.2.2.2.imp id (fun q => ⟨q.1, q.2.1, hP q.2.1 q.2.2⟩)⟩
theorem kI_oI {σ : St} {A : Nat → Prop} {g0 g : Nat → Int32} {m0 m : Int32} (h0 : oI σ A m0 g0) (h : kI σ A g0 (∀ c', c' < 24 → ∀ d, d < 24 → g0 c' = nI 1 → hld σ (fun k => g0 k = nI 1) c' d → g0 d = nI 1) m g) : oI σ A m g := by
  refine ⟨h.1, fun d hd q => h.2.1 d hd (h0.2.1 d hd q), h.2.2.1, h.2.2.2.imp (fun q => q.1) (fun q => ⟨q.1, fun c d hc hd h1 h2 => ?_⟩)⟩
  show g d = nI 1
  have e := q.2.1
  rw [e d hd]
  exact q.2.2 c hc d hd (by rw [← e c hc]; exact h1) (hld_mono (fun k hk hg => by show g0 k = nI 1; rw [← e k hk]; exact hg) h2)
theorem num_gB {g g0 : Nat → Int32} (h : ∀ d, d < 24 → g d = g0 d) : num (gB g) 24 = num (gB g0) 24 := num_congr (fun c hc => by unfold gB; rw [h c hc])
theorem kI_mu {σ : St} {A : Nat → Prop} {g0 g : Nat → Int32} {P : Prop} {m : Int32} (h : kI σ A g0 P m g) : 2 * (24 - num (gB g) 24) + (if m = nI 1 then 1 else 0) < 2 * (24 - num (gB g0) 24) + (if (nI 1 : Int32) = nI 1 then 1 else 0) := by
  have h1 := num_le (gB g) 24
  have h2 := num_le (gB g0) 24
  rw [if_pos rfl]
  rcases h.2.2.2 with q | q
  · rw [if_pos q.1]; omega
  · rw [q.1, if_neg (by decide), num_gB q.2.1]; omega
theorem kI_add1 {σ : St} {A : Nat → Prop} {g0 g g' : Nat → Int32} {P P' : Prop} {m x v : Int32} (h : kI σ A g0 P m g) (hr : ∀ d, d < 24 → x = nI d → rch σ A d) (ha : adG g x v g') (hv : ¬ v = 0) : kI σ A g0 P' (nI 1) g' := by
  have hi := @adG_iff g g' x v ha
  refine ⟨adG_bl h.1 ha, fun d hd q => (hi hd).mpr (Or.inl (h.2.1 d hd q)), fun d hd q => ?_, Or.inl ⟨rfl, ?_⟩⟩
  · rcases (hi hd).mp q with z | z
    · exact h.2.2.1 d hd z
    · exact hr d hd z
  · have h1 : num (gB g0) 24 ≤ num (gB g) 24 := num_mono (fun c hc q => decide_eq_true (h.2.1 c hc (of_decide_eq_true q)))
    obtain ⟨-, d, hd, ex, e0, e⟩ := ha.resolve_right (fun q => hv q.1)
    have h2 : num (gB g) 24 < num (gB g') 24 := num_lt (fun c hc q => decide_eq_true ((hi hc).mpr (Or.inl (of_decide_eq_true q)))) hd (by unfold gB; rw [e0]; decide) (decide_eq_true ((hi hd).mpr (Or.inr ex)))
    omega
theorem kI_add2 {σ : St} {A : Nat → Prop} {g0 g g' : Nat → Int32} {P P' : Prop} {m x v : Int32} (h : kI σ A g0 P m g) (ha : adG g x v g') (hv : v = 0) (hm : ¬ m = 0) : kI σ A g0 P' (nI 1) g' := by
  obtain ⟨-, e, -⟩ := ha.resolve_left (fun q => by rw [q.1] at hv; exact absurd hv (by decide))
  rw [e]
  exact ⟨h.1, h.2.1, h.2.2.1, Or.inl ⟨rfl, (h.2.2.2.resolve_right (fun q => hm q.1)).2⟩⟩
theorem kI_add3 {σ : St} {A : Nat → Prop} {g0 g g' : Nat → Int32} {P : Prop} {m x v : Int32} (h : kI σ A g0 P m g) (ha : adG g x v g') (hv : v = 0) (hm : m = 0) : kI σ A g0 (P ∧ ∀ d, d < 24 → x = nI d → g0 d = nI 1) (nI 0) g' := by
  have hx := ha
  obtain ⟨-, e, -⟩ := ha.resolve_left (fun q => by rw [q.1] at hv; exact absurd hv (by decide))
  subst e
  have q := h.2.2.2.resolve_left (fun q => by rw [q.1] at hm; exact absurd hm (by decide))
  exact ⟨h.1, h.2.1, h.2.2.1, Or.inr ⟨rfl, q.2.1, q.2.2, fun d hd ex => by rw [← q.2.1 d hd]; exact (adG_iff hx hd).mpr (Or.inr ex)⟩⟩
set_option maxHeartbeats 4000000 in
set_option maxRecDepth 100000 in
theorem c_m_freeCell {l : Launch} {D : va_G} {cI cB cL : ClassId} {h : Nat → Nat} {σ : St}  : zMet l y_m_freeCell w_m_freeCell rm_m_freeCell D zCl (zTy cI cB cL) (wm h cI cB σ) [.ref (h 0)] (qi0 (wm h cI cB σ) (fun v => (∃ c, lfM σ c ∧ v = nI c) ∨ (v = -1 ∧ fullM σ)) noX) 0 0 0 0 := by
  refine z_meth (by decide) rfl (Nat.le_of_ble_eq_true rfl) (fun p e s mm as bl me cd Z hr hnm ht => ?_)
  refine z_iconst Z (-1) d_m_freeCell_0 zi_m1 ?_
  refine z_istore_n Z 1 d_m_freeCell_1 rfl (by decide) rfl ?_
  refine z_bipush Z (nI 23) d_m_freeCell_2 zb_23 ?_
  refine z_istore_n Z 2 d_m_freeCell_4 rfl (by decide) rfl ?_
  refine z_lv (lv' := [(0, .ref (h 0)), (1, .int (-1)), (2, .int (dn 24))]) rfl ?_
  refine z_loop (fun q : Nat × Int32 => q.1 ≤ 24 ∧ fcI σ q.1 q.2) (fun q : Nat × Int32 => q.1) (fun q : Nat × Int32 => wm h cI cB σ) (fun q : Nat × Int32 => [(0, .ref (h 0)), (1, .int q.2), (2, .int (dn q.1))]) (fun q hi ih => ?_) (24, -1) ⟨by omega, Or.inr ⟨rfl, fun d h1 h2 => by omega⟩⟩
  obtain ⟨n, y⟩ := q
  dsimp only at hi ih ⊢
  refine z_iload_n Z 2 d_m_freeCell_5 rfl rfl ?_
  refine z_if_lt Z 30 d_m_freeCell_6 (by decide) (fun h6 => ?_) (fun h6 => ?_)
  · obtain rfl := dn_neg hi.1 h6
    refine z_iload_n Z 1 d_m_freeCell_30 rfl rfl ?_
    refine z_ri0 Z hr rfl d_m_freeCell_31 (by decide) (by decide) ?_
    exact fcI_end hi.2
  · obtain ⟨k, rfl⟩ := dn_pos h6
    refine z_aload_n Z 0 d_m_freeCell_9 rfl rfl ?_
    refine mg_1 Z d_m_freeCell_10 ?_
    refine z_iload_n Z 2 d_m_freeCell_13 rfl rfl ?_
    refine z_eqi (y := nI k) rfl ?_
    refine ml_1 Z (by omega) d_m_freeCell_14 ?_
    refine z_if_ge Z 22 d_m_freeCell_15 (by decide) (fun h15 => ?_) (fun h15 => ?_)
    · refine z_iload_n Z 1 d_m_freeCell_22 rfl rfl ?_
      refine z_istore_n Z 1 d_m_freeCell_23 rfl (by decide) rfl ?_
      refine z_iinc Z 2 (dn k) d_m_freeCell_24 rfl (dn_dec k) (by decide) rfl ?_
      refine z_goto Z 5 d_m_freeCell_27 (by decide) ?_
      exact z_lv rfl (ih (k, y) ⟨by omega, fcI_no hi.2 h15⟩ (by dsimp only; omega))
    · refine z_iload_n Z 2 d_m_freeCell_18 rfl rfl ?_
      refine z_goto Z 23 d_m_freeCell_19 (by decide) ?_
      refine z_istore_n Z 1 d_m_freeCell_23 rfl (by decide) rfl ?_
      refine z_iinc Z 2 (dn k) d_m_freeCell_24 rfl (dn_dec k) (by decide) rfl ?_
      refine z_goto Z 5 d_m_freeCell_27 (by decide) ?_
      exact z_lv rfl (ih (k, nI k) ⟨by omega, fcI_yes (by omega) h15⟩ (by dsimp only; omega))
set_option maxHeartbeats 4000000 in
set_option maxRecDepth 100000 in
theorem c_m_used {l : Launch} {D : va_G} {cI cB cL : ClassId} {h : Nat → Nat} {σ : St}  : zMet l y_m_used w_m_used rm_m_used D zCl (zTy cI cB cL) (wm h cI cB σ) [.ref (h 0)] (qi (wm h cI cB) (fun v u => (lo24 v ∧ ∀ c, c < 24 → (bt v c = true ↔ ¬ σ 1 c < 0)) ∧ u = th σ 0) noXs) 0 0 0 0 := by
  refine z_meth (by decide) rfl (Nat.le_of_ble_eq_true rfl) (fun p e s mm as bl me cd Z hr hnm ht => ?_)
  refine z_aload_n Z 0 d_m_used_0 rfl rfl ?_
  refine z_iconst Z (nI 0) d_m_used_1 zi_0 ?_
  refine mp_0 Z d_m_used_2 ?_
  refine z_iconst Z (nI 0) d_m_used_5 zi_0 ?_
  refine z_istore_n Z 1 d_m_used_6 rfl (by decide) rfl ?_
  refine z_iconst Z (nI 0) d_m_used_7 zi_0 ?_
  refine z_istore_n Z 2 d_m_used_8 rfl (by decide) rfl ?_
  refine z_lv (lv' := [(0, .ref (h 0)), (1, .int 0), (2, .int (nI 0))]) rfl ?_
  refine z_ws (ws' := wm h cI cB (th σ 0)) rfl ?_
  refine z_loop (fun q : Nat × Int32 => q.1 ≤ 24 ∧ lo24 q.2 ∧ ∀ c, c < 24 → (bt q.2 c = true ↔ (c < q.1 ∧ ¬ σ 1 c < 0))) (fun q : Nat × Int32 => 24 - q.1) (fun q : Nat × Int32 => wm h cI cB (th σ 0)) (fun q : Nat × Int32 => [(0, .ref (h 0)), (1, .int q.2), (2, .int (nI q.1))]) (fun q hi ih => ?_) (0, 0) ⟨by omega, lo24_0, fun c hc => ⟨fun q => (by rw [b_0] at q; cases q), fun q => absurd q.1 (Nat.not_lt_zero _)⟩⟩
  obtain ⟨i, y⟩ := q
  dsimp only at hi ih ⊢
  refine z_iload_n Z 2 d_m_used_9 rfl rfl ?_
  refine z_bipush Z (nI 24) d_m_used_10 zb_24 ?_
  refine z_icmpN_ge Z 40 d_m_used_12 (by decide) (by omega) (by omega) (fun h12 => ?_) (fun h12 => ?_)
  · refine z_iload_n Z 1 d_m_used_40 rfl rfl ?_
    refine z_ri Z _ hr rfl d_m_used_41 (by decide) (by decide) rfl ?_
    obtain rfl : i = 24 := by omega
    exact ⟨⟨hi.2.1, fun c hc => (hi.2.2 c hc).trans ⟨fun q => q.2, fun q => ⟨hc, q⟩⟩⟩, rfl⟩
  · refine z_aload_n Z 0 d_m_used_15 rfl rfl ?_
    refine mg_1 Z d_m_used_16 ?_
    refine z_iload_n Z 2 d_m_used_19 rfl rfl ?_
    refine ml_1 Z (by omega) d_m_used_20 ?_
    refine z_if_lt Z 32 d_m_used_21 (by decide) (fun h21 => ?_) (fun h21 => ?_)
    · refine z_iload_n Z 1 d_m_used_32 rfl rfl ?_
      refine z_istore_n Z 1 d_m_used_33 rfl (by decide) rfl ?_
      refine z_iincN Z 2 d_m_used_34 rfl (by decide) rfl ?_
      refine z_goto Z 9 d_m_used_37 (by decide) ?_
      exact z_lv rfl (ih (i + 1, y) ⟨by omega, hi.2.1, us_no hi.2.2 h21⟩ (by dsimp only; omega))
    · refine z_iload_n Z 1 d_m_used_24 rfl rfl ?_
      refine z_iconst Z (nI 1) d_m_used_25 zi_1 ?_
      refine z_iload_n Z 2 d_m_used_26 rfl rfl ?_
      refine z_ishl Z d_m_used_27 ?_
      refine z_ior Z d_m_used_28 ?_
      refine z_goto Z 33 d_m_used_29 (by decide) ?_
      refine z_istore_n Z 1 d_m_used_33 rfl (by decide) rfl ?_
      refine z_iincN Z 2 d_m_used_34 rfl (by decide) rfl ?_
      refine z_goto Z 9 d_m_used_37 (by decide) ?_
      exact z_lv rfl (ih (i + 1, _) ⟨by omega, lo24_or hi.2.1 (lo24_one (by omega)), us_yes (by omega) hi.2.2 h21⟩ (by dsimp only; omega))
set_option maxHeartbeats 4000000 in
set_option maxRecDepth 100000 in
theorem c_m_add {l : Launch} {D : va_G} {cI cB cL : ClassId} {h : Nat → Nat} {σ : St} {g : Nat → Int32} (hb : bl g) {x : Int32} (hx : nc x) : zMet l y_m_add w_m_add rm_m_add D zCl (zTy cI cB cL) (wm h cI cB (va_up σ 12 g)) [.ref (h 0), .int x] (qi (fun g' => wm h cI cB (va_up σ 12 g')) (fun v g' => adG g x v g') noXs) 0 0 0 0 := by
  refine z_meth (by decide) rfl (Nat.le_of_ble_eq_true rfl) (fun p e s mm as bl me cd Z hr hnm ht => ?_)
  refine z_iload_n Z 1 d_m_add_0 rfl rfl ?_
  refine z_if_lt Z 13 d_m_add_1 (by decide) (fun h1 => ?_) (fun h1 => ?_)
  · refine z_iconst Z (nI 0) d_m_add_13 zi_0 ?_
    refine z_ri Z g hr rfl d_m_add_14 (by decide) (by decide) rfl ?_
    exact Or.inr ⟨rfl, rfl, Or.inl (nc_neg hx h1)⟩
  · obtain ⟨d, hd, rfl⟩ := nc_cl hx (fun e => h1 (by rw [e]; decide))
    refine z_aload_n Z 0 d_m_add_4 rfl rfl ?_
    refine mg_12 Z d_m_add_5 ?_
    refine z_iload_n Z 1 d_m_add_8 rfl rfl ?_
    refine ml_12 Z (by omega) d_m_add_9 ?_
    refine z_if_eq Z 15 d_m_add_10 (by decide) (fun h10 => ?_) (fun h10 => ?_)
    · refine z_aload_n Z 0 d_m_add_15 rfl rfl ?_
      refine mg_12 Z d_m_add_16 ?_
      refine z_iload_n Z 1 d_m_add_19 rfl rfl ?_
      refine z_iconst Z (nI 1) d_m_add_20 zi_1 ?_
      refine ms_12 Z (by omega) d_m_add_21 rfl ?_
      refine z_iconst Z (nI 1) d_m_add_22 zi_1 ?_
      refine z_ri Z (upd g d (nI 1)) hr rfl d_m_add_23 (by decide) (by decide) rfl ?_
      exact Or.inl ⟨rfl, d, hd, rfl, h10, rfl⟩
    · refine z_iconst Z (nI 0) d_m_add_13 zi_0 ?_
      refine z_ri Z g hr rfl d_m_add_14 (by decide) (by decide) rfl ?_
      exact Or.inr ⟨rfl, rfl, Or.inr ⟨d, hd, rfl, (hb d hd).resolve_left h10⟩⟩
