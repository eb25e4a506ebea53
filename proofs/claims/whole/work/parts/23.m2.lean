/-! the reference: its free cell, its set 'in', its closing -/
def dn : Nat → Int32
  | 0 => -1
  | n + 1 => nI n
theorem dn_neg {n : Nat} (hn : n ≤ 24) (h : dn n < 0) : n = 0 := by
  rcases n with _ | n
  · rfl
  · exact absurd h (nI_pos (by omega))
theorem dn_pos {n : Nat} (h : ¬ dn n < 0) : ∃ k, n = k + 1 := by
  rcases n with _ | n
  · exact absurd (show (-1 : Int32) < 0 by decide) h
  · exact ⟨n, rfl⟩
theorem dn_dec (k : Nat) : nI k + Int32.ofInt (-1) = dn k := by
  rcases k with _ | k
  · decide
  · rw [show Int32.ofInt (-1) = -1 from by decide]; exact pk_m1 k
theorem dn_sub (n : Nat) : nI n - nI 1 = dn n := by
  rcases n with _ | n
  · decide
  · exact pk_sub (by omega)
def lfM (σ : St) (c : Nat) : Prop := c < 24 ∧ σ 1 c < 0 ∧ ∀ d, d < c → ¬ σ 1 d < 0
def fullM (σ : St) : Prop := ∀ d, d < 24 → ¬ σ 1 d < 0
def fcI (σ : St) (n : Nat) (y : Int32) : Prop := (∃ c, n ≤ c ∧ c < 24 ∧ y = nI c ∧ σ 1 c < 0 ∧ ∀ d, n ≤ d → d < c → ¬ σ 1 d < 0) ∨ (y = -1 ∧ ∀ d, n ≤ d → d < 24 → ¬ σ 1 d < 0)
theorem fcI_end {σ : St} {y : Int32} (h : fcI σ 0 y) : (∃ c, lfM σ c ∧ y = nI c) ∨ (y = -1 ∧ fullM σ) := by
  rcases h with ⟨c, -, h1, h2, h3, h4⟩ | ⟨h1, h2⟩
  · exact Or.inl ⟨c, ⟨h1, h3, fun d hd => h4 d (Nat.zero_le _) hd⟩, h2⟩
  · exact Or.inr ⟨h1, fun d hd => h2 d (Nat.zero_le _) hd⟩
theorem fcI_no {σ : St} {k : Nat} {y : Int32} (h : fcI σ (k + 1) y) (hk : 0 ≤ σ 1 k) : fcI σ k y := by
  have hk' : ¬ σ 1 k < 0 := Int32.not_lt.mpr hk
  rcases h with ⟨c, h0, h1, h2, h3, h4⟩ | ⟨h1, h2⟩
  · refine Or.inl ⟨c, by omega, h1, h2, h3, fun d ha hb => ?_⟩
    by_cases e : d = k
    · rw [e]; exact hk'
    · exact h4 d (by omega) hb
  · refine Or.inr ⟨h1, fun d ha hb => ?_⟩
    by_cases e : d = k
    · rw [e]; exact hk'
    · exact h2 d (by omega) hb
theorem fcI_yes {σ : St} {k : Nat} (h24 : k < 24) (hk : ¬ 0 ≤ σ 1 k) : fcI σ k (nI k) := Or.inl ⟨k, Nat.le_refl _, h24, rfl, Int32.not_le.mp hk, fun d h1 h2 => by omega⟩
theorem us_yes {y : Int32} {i : Nat} {f : Nat → Int32} (hi : i < 24) (h : ∀ c, c < 24 → (bt y c = true ↔ (c < i ∧ ¬ f c < 0))) (hf : ¬ f i < 0) : ∀ c, c < 24 → (bt (y ||| ((1 : Int32) <<< (nI i &&& 31))) c = true ↔ (c < i + 1 ∧ ¬ f c < 0)) := fun c hc => by
  rw [zb_orc y hi hc, h c hc]
  constructor
  · rintro (⟨h1, h2⟩ | rfl)
    · exact ⟨by omega, h2⟩
    · exact ⟨by omega, hf⟩
  · rintro ⟨h1, h2⟩
    by_cases e : c = i
    · exact Or.inr e
    · exact Or.inl ⟨by omega, h2⟩
theorem us_no {y : Int32} {i : Nat} {f : Nat → Int32} (h : ∀ c, c < 24 → (bt y c = true ↔ (c < i ∧ ¬ f c < 0))) (hf : f i < 0) : ∀ c, c < 24 → (bt y c = true ↔ (c < i + 1 ∧ ¬ f c < 0)) := fun c hc => by
  rw [h c hc]
  constructor
  · rintro ⟨h1, h2⟩; exact ⟨by omega, h2⟩
  · rintro ⟨h1, h2⟩
    by_cases e : c = i
    · rw [e] at h2; exact absurd hf h2
    · exact ⟨by omega, h2⟩
def bl (g : Nat → Int32) : Prop := ∀ c, c < 24 → g c = nI 0 ∨ g c = nI 1
def gB (g : Nat → Int32) : Nat → Bool := fun c => decide (g c = nI 1)
def adG (g : Nat → Int32) (x v : Int32) (g' : Nat → Int32) : Prop := (v = nI 1 ∧ ∃ d, d < 24 ∧ x = nI d ∧ g d = nI 0 ∧ g' = upd g d (nI 1)) ∨ (v = nI 0 ∧ g' = g ∧ (x = -1 ∨ ∃ d, d < 24 ∧ x = nI d ∧ g d = nI 1))
theorem nc_neg {x : Int32} (h : nc x) (h0 : x < 0) : x = -1 := by
  rcases h with h | ⟨d, hd, e⟩
  · exact h
  · rw [e] at h0; exact absurd h0 (nI_pos (by omega))
theorem adG_bl {g g' : Nat → Int32} {x v : Int32} (hb : bl g) (h : adG g x v g') : bl g' := by
  rcases h with ⟨-, d, hd, -, -, e⟩ | ⟨-, e, -⟩
  · rw [e]; intro c hc
    by_cases q : c = d
    · rw [q, pk_us]; exact Or.inr rfl
    · rw [pk_un q]; exact hb c hc
  · rw [e]; exact hb
theorem adG_iff {g g' : Nat → Int32} {x v : Int32} (h : adG g x v g') {c : Nat} (hc : c < 24) : g' c = nI 1 ↔ (g c = nI 1 ∨ x = nI c) := by
  rcases h with ⟨-, d, hd, ex, e0, e⟩ | ⟨-, e, hx⟩
  · rw [e, ex]
    by_cases q : c = d
    · rw [q, pk_us]; simp
    · rw [pk_un q]
      constructor
      · intro z; exact Or.inl z
      · rintro (z | z)
        · exact z
        · exact absurd ((nI_eq (by omega) (by omega)).mp z).symm q
  · rw [e]
    constructor
    · intro z; exact Or.inl z
    · rintro (z | z)
      · exact z
      · rcases hx with hx | ⟨d, hd, ex, ed⟩
        · exact absurd (z.symm.trans hx) (nI_m1 (by omega))
        · rw [← (nI_eq (by omega) (by omega)).mp (ex.symm.trans z)]; exact ed
/-- between passes -/
def oI (σ : St) (A : Nat → Prop) (m : Int32) (g : Nat → Int32) : Prop := bl g ∧ (∀ d, d < 24 → A d → g d = nI 1) ∧ (∀ d, d < 24 → g d = nI 1 → rch σ A d) ∧ (m = nI 1 ∨ (m = nI 0 ∧ clo σ (fun d => g d = nI 1)))
theorem oI_0 {σ : St} {g : Nat → Int32} (hb : bl g) : oI σ (fun d => g d = nI 1) (nI 1) g := ⟨hb, fun _ _ h => h, fun d hd h => rch_base hd h, Or.inl rfl⟩
theorem oI_end {σ : St} {A : Nat → Prop} {m : Int32} {g : Nat → Int32} (h : oI σ A m g) (hm : m = 0) : bl g ∧ ∀ c, c < 24 → (g c = nI 1 ↔ rch σ A c) := by
  obtain ⟨h1, h2, h3, h4⟩ := h
  have h5 := h4.resolve_left (fun q => by rw [q] at hm; exact absurd hm (by decide))
  exact ⟨h1, rch_iff (S := fun d => g d = nI 1) h2 h5.2 h3⟩
theorem oI_1 {σ : St} {A : Nat → Prop} {m : Int32} {g : Nat → Int32} (h : oI σ A m g) (hm : ¬ m = 0) : nI 1 = m := (h.2.2.2.resolve_right (fun q => hm q.1)).symm
/-- within a pass that began with g0 -/
def kI (σ : St) (A : Nat → Prop) (g0 : Nat → Int32) (P : Prop) (m : Int32) (g : Nat → Int32) : Prop := bl g ∧ (∀ d, d < 24 → g0 d = nI 1 → g d = nI 1) ∧ (∀ d, d < 24 → g d = nI 1 → rch σ A d) ∧ ((m = nI 1 ∧ num (gB g0) 24 < num (gB g) 24) ∨ (m = nI 0 ∧ (∀ d, d < 24 → g d = g0 d) ∧ P))
theorem kI_0 {σ : St} {A : Nat → Prop} {m : Int32} {g : Nat → Int32} {Q : Nat → Prop} (h : oI σ A m g) : kI σ A g (∀ c', c' < 0 → Q c') (nI 0) g := ⟨h.1, fun _ _ q => q, h.2.2.1, Or.inr ⟨rfl, fun _ _ => rfl, fun c' hc' => absurd hc' (Nat.not_lt_zero _)⟩⟩
theorem kI_w {σ : St} {A : Nat → Prop} {g0 g : Nat → Int32} {P P' : Prop} {m : Int32} (h : kI σ A g0 P m g) (hP : (∀ d, d < 24 → g d = g0 d) → P → P') : kI σ A g0 P' m g := ⟨h.1, h.2.1, h.2.2.1, h.2.2.2.imp id (fun q => ⟨q.1, q.2.1, hP q.2.1 q.2.2⟩)⟩
theorem kI_oI {σ : St} {A : Nat → Prop} {g0 g : Nat → Int32} {m0 m : Int32} (h0 : oI σ A m0 g0) (h : kI σ A g0 (∀ c', c' < 24 → ∀ d, d < 24 → g0 c' = nI 1 → hld σ (fun k => g0 k = nI 1) c' d → g0 d = nI 1) m g) : oI σ A m g := by
  refine ⟨h.1, fun d hd q => h.2.1 d hd (h0.2.1 d hd q), h.2.2.1, h.2.2.2.imp (fun q => q.1) (fun q => ⟨q.1, fun c d hc hd h1 h2 => ?_⟩)⟩
  show g d = nI 1
  have e := q.2.1
  rw [e d hd]
  exact q.2.2 c hc d hd (by rw [← e c hc]; exact h1) (hld_mono (fun k hk hg => by show g0 k = nI 1; rw [← e k hk]; exact hg) h2)
theorem num_gB {g g0 : Nat → Int32} (h : ∀ d, d < 24 → g d = g0 d) : num (gB g) 24 = num (gB g0) 24 := num_congr (fun c hc => by unfold gB; rw [h c hc])
theorem kI_mu {σ : St} {A : Nat → Prop} {g0 g : Nat → Int32} {P : Prop} {m : Int32} (h : kI σ A g0 P m g) : 2 * (24 - num (gB g) 24) + (if m = nI 1 then 1 else 0) < 2 * (24 - num (gB g0) 24) + (if (nI 1 : Int32) = nI 1 then 1 else 0) := by
  have h1 := num_le (gB g) 24
  have h2 := num_le (gB g0) 24
  rw [if_pos rfl]
  rcases h.2.2.2 with q | q
  · rw [if_pos q.1]; omega
  · rw [q.1, if_neg (by decide), num_gB q.2.1]; omega
theorem kI_add1 {σ : St} {A : Nat → Prop} {g0 g g' : Nat → Int32} {P P' : Prop} {m x v : Int32} (h : kI σ A g0 P m g) (hr : ∀ d, d < 24 → x = nI d → rch σ A d) (ha : adG g x v g') (hv : ¬ v = 0) : kI σ A g0 P' (nI 1) g' := by
  have hi := @adG_iff g g' x v ha
  refine ⟨adG_bl h.1 ha, fun d hd q => (hi hd).mpr (Or.inl (h.2.1 d hd q)), fun d hd q => ?_, Or.inl ⟨rfl, ?_⟩⟩
  · rcases (hi hd).mp q with z | z
    · exact h.2.2.1 d hd z
    · exact hr d hd z
  · have h1 : num (gB g0) 24 ≤ num (gB g) 24 := num_mono (fun c hc q => decide_eq_true (h.2.1 c hc (of_decide_eq_true q)))
    obtain ⟨-, d, hd, ex, e0, e⟩ := ha.resolve_right (fun q => hv q.1)
    have h2 : num (gB g) 24 < num (gB g') 24 := num_lt (fun c hc q => decide_eq_true ((hi hc).mpr (Or.inl (of_decide_eq_true q)))) hd (by unfold gB; rw [e0]; decide) (decide_eq_true ((hi hd).mpr (Or.inr ex)))
    omega
theorem kI_add2 {σ : St} {A : Nat → Prop} {g0 g g' : Nat → Int32} {P P' : Prop} {m x v : Int32} (h : kI σ A g0 P m g) (ha : adG g x v g') (hv : v = 0) (hm : ¬ m = 0) : kI σ A g0 P' (nI 1) g' := by
  obtain ⟨-, e, -⟩ := ha.resolve_left (fun q => by rw [q.1] at hv; exact absurd hv (by decide))
  rw [e]
  exact ⟨h.1, h.2.1, h.2.2.1, Or.inl ⟨rfl, (h.2.2.2.resolve_right (fun q => hm q.1)).2⟩⟩
theorem kI_add3 {σ : St} {A : Nat → Prop} {g0 g g' : Nat → Int32} {P : Prop} {m x v : Int32} (h : kI σ A g0 P m g) (ha : adG g x v g') (hv : v = 0) (hm : m = 0) : kI σ A g0 (P ∧ ∀ d, d < 24 → x = nI d → g0 d = nI 1) (nI 0) g' := by
  have hx := ha
  obtain ⟨-, e, -⟩ := ha.resolve_left (fun q => by rw [q.1] at hv; exact absurd hv (by decide))
  subst e
  have q := h.2.2.2.resolve_left (fun q => by rw [q.1] at hm; exact absurd hm (by decide))
  exact ⟨h.1, h.2.1, h.2.2.1, Or.inr ⟨rfl, q.2.1, q.2.2, fun d hd ex => by rw [← q.2.1 d hd]; exact (adG_iff hx hd).mpr (Or.inr ex)⟩⟩
theorem kI_out {σ : St} {A : Nat → Prop} {g0 g : Nat → Int32} {P X : Prop} {m : Int32} {c : Nat} (h : kI σ A g0 P m g) (hc : c < 24) (hg : g c = 0) : kI σ A g0 (P ∧ (g0 c = nI 1 → X)) m g := kI_w h (fun e q => ⟨q, fun a => by
  rw [← e c hc, hg] at a; exact absurd a (by decide)⟩)
theorem rr_s {σ : St} {g0 : Nat → Int32} {c n : Nat} (h : g0 c = nI 1 → σ 1 c = 0 → ∀ f, f < n → ∀ d, d < 24 → σ 3 (c * 3 + f) = nI d → g0 d = nI 1) (hn : ∀ d, d < 24 → σ 3 (c * 3 + n) = nI d → g0 d = nI 1) : g0 c = nI 1 → σ 1 c = 0 → ∀ f, f < n + 1 → ∀ d, d < 24 → σ 3 (c * 3 + f) = nI d → g0 d = nI 1 := fun a b f hf d hd e => by
  by_cases q : f = n
  · subst q; exact hn d hd e
  · exact h a b f (by omega) d hd e
theorem tt_s {σ : St} {g0 : Nat → Int32} {c n : Nat} (h : g0 c = nI 1 → σ 1 c = nI 2 → ∀ i, i < n → ∀ k d, k < 24 → d < 24 → σ 4 (c * 4 + i) = nI k → g0 k = nI 1 → σ 5 (c * 4 + i) = nI d → g0 d = nI 1) (hn : ∀ k d, k < 24 → d < 24 → σ 4 (c * 4 + n) = nI k → g0 k = nI 1 → σ 5 (c * 4 + n) = nI d → g0 d = nI 1) : g0 c = nI 1 → σ 1 c = nI 2 → ∀ i, i < n + 1 → ∀ k d, k < 24 → d < 24 → σ 4 (c * 4 + i) = nI k → g0 k = nI 1 → σ 5 (c * 4 + i) = nI d → g0 d = nI 1 := fun a b i hi k d hk hd e4 gk e5 => by
  by_cases q : i = n
  · subst q; exact hn k d hk hd e4 gk e5
  · exact h a b i (by omega) k d hk hd e4 gk e5
theorem tt_no {g g0 : Nat → Int32} {k k2 : Nat} (e : ∀ d, d < 24 → g d = g0 d) (hk : k < 24) (hg : g k = 0) (q : nI k = nI k2) (hk2 : k2 < 24) (h : g0 k2 = nI 1) : False := by
  rw [← (nI_eq (by omega) (by omega)).mp q, ← e k hk, hg] at h
  exact absurd h (by decide)
theorem pc_x {σ : St} {g0 : Nat → Int32} {c : Nat} (h : ∀ c', c' < c → ∀ d, d < 24 → g0 c' = nI 1 → hld σ (fun k => g0 k = nI 1) c' d → g0 d = nI 1) (hn : ∀ d, d < 24 → g0 c = nI 1 → hld σ (fun k => g0 k = nI 1) c d → g0 d = nI 1) : ∀ c', c' < c + 1 → ∀ d, d < 24 → g0 c' = nI 1 → hld σ (fun k => g0 k = nI 1) c' d → g0 d = nI 1 := fun c' hc' d hd a b => by
  by_cases q : c' = c
  · subst q; exact hn d hd a b
  · exact h c' (by omega) d hd a b
theorem pc_s {σ : St} {g0 : Nat → Int32} {c : Nat} (h : ∀ c', c' < c → ∀ d, d < 24 → g0 c' = nI 1 → hld σ (fun k => g0 k = nI 1) c' d → g0 d = nI 1) (hr : g0 c = nI 1 → σ 1 c = 0 → ∀ f, f < 3 → ∀ d, d < 24 → σ 3 (c * 3 + f) = nI d → g0 d = nI 1) (ht : g0 c = nI 1 → σ 1 c = nI 2 → ∀ i, i < cnt σ c → ∀ k d, k < 24 → d < 24 → σ 4 (c * 4 + i) = nI k → g0 k = nI 1 → σ 5 (c * 4 + i) = nI d → g0 d = nI 1) : ∀ c', c' < c + 1 → ∀ d, d < 24 → g0 c' = nI 1 → hld σ (fun k => g0 k = nI 1) c' d → g0 d = nI 1 := pc_x h (fun d hd a b => by
  rcases b with ⟨b1, f, hf, e⟩ | ⟨b1, i, hi, ⟨k, hk, ek, gk⟩, e⟩
  · exact hr a b1 f hf d hd e
  · exact ht a b1 i hi k d hk hd ek gk e)
theorem pc_out {σ : St} {g0 : Nat → Int32} {c : Nat} (h : ∀ c', c' < c → ∀ d, d < 24 → g0 c' = nI 1 → hld σ (fun k => g0 k = nI 1) c' d → g0 d = nI 1) (hn : g0 c = nI 1 → False) : ∀ c', c' < c + 1 → ∀ d, d < 24 → g0 c' = nI 1 → hld σ (fun k => g0 k = nI 1) c' d → g0 d = nI 1 := pc_x h (fun d hd a b => (hn a).elim)
theorem pc_n {σ : St} {g0 : Nat → Int32} {c : Nat} (h : ∀ c', c' < c → ∀ d, d < 24 → g0 c' = nI 1 → hld σ (fun k => g0 k = nI 1) c' d → g0 d = nI 1) (hr : g0 c = nI 1 → σ 1 c = 0 → ∀ f, f < 3 → ∀ d, d < 24 → σ 3 (c * 3 + f) = nI d → g0 d = nI 1) (hk : ¬ σ 1 c = nI 2) : ∀ c', c' < c + 1 → ∀ d, d < 24 → g0 c' = nI 1 → hld σ (fun k => g0 k = nI 1) c' d → g0 d = nI 1 := pc_x h (fun d hd a b => by
  rcases b with ⟨b1, f, hf, e⟩ | ⟨b1, -⟩
  · exact hr a b1 f hf d hd e
  · exact absurd b1 hk)
set_option maxHeartbeats 4000000 in
set_option maxRecDepth 100000 in
theorem c_m_freeCell {l : Launch} {D : va_G} {cI cB cL : ClassId} {h : Nat → Nat} {σ : St}  : zMet l y_m_freeCell w_m_freeCell rm_m_freeCell D zCl (zTy cI cB cL) (wm h cI cB σ) [.ref (h 0)] (qi0 (wm h cI cB σ) (fun v => (∃ c, lfM σ c ∧ v = nI c) ∨ (v = -1 ∧ fullM σ)) noX) 0 0 0 0 := by
  refine z_meth (by decide) rfl (Nat.le_of_ble_eq_true rfl) (fun p e s mm as bl me cd Z hr hnm ht => ?_)
  refine z_iconst Z (-1) d_m_freeCell_0 zi_m1 ?_
  refine z_istore_n Z 1 d_m_freeCell_1 rfl (by decide) rfl ?_
  refine z_bipush Z (nI 23) d_m_freeCell_2 zb_23 ?_
  refine z_istore_n Z 2 d_m_freeCell_4 rfl (by decide) rfl ?_
  refine z_lv (lv' := [(0, .ref (h 0)), (1, .int (-1)), (2, .int (dn 24))]) rfl ?_
  refine z_loop (fun q : Nat × Int32 => q.1 ≤ 24 ∧ fcI σ q.1 q.2) (fun q : Nat × Int32 => q.1) (fun q : Nat × Int32 => wm h cI cB σ) (fun q : Nat × Int32 => [(0, .ref (h 0)), (1, .int q.2), (2, .int (dn q.1))]) (fun q hi ih => ?_) (24, -1) ⟨by omega, Or.inr ⟨rfl, fun d h1 h2 => by omega⟩⟩
  obtain ⟨n, y⟩ := q
  dsimp only at hi ih ⊢
  refine z_iload_n Z 2 d_m_freeCell_5 rfl rfl ?_
  refine z_if_lt Z 30 d_m_freeCell_6 (by decide) (fun h6 => ?_) (fun h6 => ?_)
  · obtain rfl := dn_neg hi.1 h6
    refine z_iload_n Z 1 d_m_freeCell_30 rfl rfl ?_
    refine z_ri0 Z hr rfl d_m_freeCell_31 (by decide) (by decide) ?_
    exact fcI_end hi.2
  · obtain ⟨k, rfl⟩ := dn_pos h6
    refine z_aload_n Z 0 d_m_freeCell_9 rfl rfl ?_
    refine mg_1 Z d_m_freeCell_10 ?_
    refine z_iload_n Z 2 d_m_freeCell_13 rfl rfl ?_
    refine z_eqi (y := nI k) rfl ?_
    refine ml_1 Z (by omega) d_m_freeCell_14 ?_
    refine z_if_ge Z 22 d_m_freeCell_15 (by decide) (fun h15 => ?_) (fun h15 => ?_)
    · refine z_iload_n Z 1 d_m_freeCell_22 rfl rfl ?_
      refine z_istore_n Z 1 d_m_freeCell_23 rfl (by decide) rfl ?_
      refine z_iinc Z 2 (dn k) d_m_freeCell_24 rfl (dn_dec k) (by decide) rfl ?_
      refine z_goto Z 5 d_m_freeCell_27 (by decide) ?_
      exact z_lv rfl (ih (k, y) ⟨by omega, fcI_no hi.2 h15⟩ (by dsimp only; omega))
    · refine z_iload_n Z 2 d_m_freeCell_18 rfl rfl ?_
      refine z_goto Z 23 d_m_freeCell_19 (by decide) ?_
      refine z_istore_n Z 1 d_m_freeCell_23 rfl (by decide) rfl ?_
      refine z_iinc Z 2 (dn k) d_m_freeCell_24 rfl (dn_dec k) (by decide) rfl ?_
      refine z_goto Z 5 d_m_freeCell_27 (by decide) ?_
      exact z_lv rfl (ih (k, nI k) ⟨by omega, fcI_yes (by omega) h15⟩ (by dsimp only; omega))
set_option maxHeartbeats 4000000 in
set_option maxRecDepth 100000 in
theorem c_m_used {l : Launch} {D : va_G} {cI cB cL : ClassId} {h : Nat → Nat} {σ : St}  : zMet l y_m_used w_m_used rm_m_used D zCl (zTy cI cB cL) (wm h cI cB σ) [.ref (h 0)] (qi (wm h cI cB) (fun v u => (lo24 v ∧ ∀ c, c < 24 → (bt v c = true ↔ ¬ σ 1 c < 0)) ∧ u = th σ 0) noXs) 0 0 0 0 := by
  refine z_meth (by decide) rfl (Nat.le_of_ble_eq_true rfl) (fun p e s mm as bl me cd Z hr hnm ht => ?_)
  refine z_aload_n Z 0 d_m_used_0 rfl rfl ?_
  refine z_iconst Z (nI 0) d_m_used_1 zi_0 ?_
  refine mp_0 Z d_m_used_2 ?_
  refine z_iconst Z (nI 0) d_m_used_5 zi_0 ?_
  refine z_istore_n Z 1 d_m_used_6 rfl (by decide) rfl ?_
  refine z_iconst Z (nI 0) d_m_used_7 zi_0 ?_
  refine z_istore_n Z 2 d_m_used_8 rfl (by decide) rfl ?_
  refine z_lv (lv' := [(0, .ref (h 0)), (1, .int 0), (2, .int (nI 0))]) rfl ?_
  refine z_ws (ws' := wm h cI cB (th σ 0)) rfl ?_
  refine z_loop (fun q : Nat × Int32 => q.1 ≤ 24 ∧ lo24 q.2 ∧ ∀ c, c < 24 → (bt q.2 c = true ↔ (c < q.1 ∧ ¬ σ 1 c < 0))) (fun q : Nat × Int32 => 24 - q.1) (fun q : Nat × Int32 => wm h cI cB (th σ 0)) (fun q : Nat × Int32 => [(0, .ref (h 0)), (1, .int q.2), (2, .int (nI q.1))]) (fun q hi ih => ?_) (0, 0) ⟨by omega, lo24_0, fun c hc => ⟨fun q => (by rw [b_0] at q; cases q), fun q => absurd q.1 (Nat.not_lt_zero _)⟩⟩
  obtain ⟨i, y⟩ := q
  dsimp only at hi ih ⊢
  refine z_iload_n Z 2 d_m_used_9 rfl rfl ?_
  refine z_bipush Z (nI 24) d_m_used_10 zb_24 ?_
  refine z_icmpN_ge Z 40 d_m_used_12 (by decide) (by omega) (by omega) (fun h12 => ?_) (fun h12 => ?_)
  · refine z_iload_n Z 1 d_m_used_40 rfl rfl ?_
    refine z_ri Z _ hr rfl d_m_used_41 (by decide) (by decide) rfl ?_
    obtain rfl : i = 24 := by omega
    exact ⟨⟨hi.2.1, fun c hc => (hi.2.2 c hc).trans ⟨fun q => q.2, fun q => ⟨hc, q⟩⟩⟩, rfl⟩
  · refine z_aload_n Z 0 d_m_used_15 rfl rfl ?_
    refine mg_1 Z d_m_used_16 ?_
    refine z_iload_n Z 2 d_m_used_19 rfl rfl ?_
    refine ml_1 Z (by omega) d_m_used_20 ?_
    refine z_if_lt Z 32 d_m_used_21 (by decide) (fun h21 => ?_) (fun h21 => ?_)
    · refine z_iload_n Z 1 d_m_used_32 rfl rfl ?_
      refine z_istore_n Z 1 d_m_used_33 rfl (by decide) rfl ?_
      refine z_iincN Z 2 d_m_used_34 rfl (by decide) rfl ?_
      refine z_goto Z 9 d_m_used_37 (by decide) ?_
      exact z_lv rfl (ih (i + 1, y) ⟨by omega, hi.2.1, us_no hi.2.2 h21⟩ (by dsimp only; omega))
    · refine z_iload_n Z 1 d_m_used_24 rfl rfl ?_
      refine z_iconst Z (nI 1) d_m_used_25 zi_1 ?_
      refine z_iload_n Z 2 d_m_used_26 rfl rfl ?_
      refine z_ishl Z d_m_used_27 ?_
      refine z_ior Z d_m_used_28 ?_
      refine z_goto Z 33 d_m_used_29 (by decide) ?_
      refine z_istore_n Z 1 d_m_used_33 rfl (by decide) rfl ?_
      refine z_iincN Z 2 d_m_used_34 rfl (by decide) rfl ?_
      refine z_goto Z 9 d_m_used_37 (by decide) ?_
      exact z_lv rfl (ih (i + 1, _) ⟨by omega, lo24_or hi.2.1 (lo24_one (by omega)), us_yes (by omega) hi.2.2 h21⟩ (by dsimp only; omega))
set_option maxHeartbeats 4000000 in
set_option maxRecDepth 100000 in
theorem c_m_add {l : Launch} {D : va_G} {cI cB cL : ClassId} {h : Nat → Nat} {σ : St} {g : Nat → Int32} (hb : bl g) {x : Int32} (hx : nc x) : zMet l y_m_add w_m_add rm_m_add D zCl (zTy cI cB cL) (wm h cI cB (va_up σ 12 g)) [.ref (h 0), .int x] (qi (fun g' => wm h cI cB (va_up σ 12 g')) (fun v g' => adG g x v g') noXs) 0 0 0 0 := by
  refine z_meth (by decide) rfl (Nat.le_of_ble_eq_true rfl) (fun p e s mm as bl me cd Z hr hnm ht => ?_)
  refine z_iload_n Z 1 d_m_add_0 rfl rfl ?_
  refine z_if_lt Z 13 d_m_add_1 (by decide) (fun h1 => ?_) (fun h1 => ?_)
  · refine z_iconst Z (nI 0) d_m_add_13 zi_0 ?_
    refine z_ri Z g hr rfl d_m_add_14 (by decide) (by decide) rfl ?_
    exact Or.inr ⟨rfl, rfl, Or.inl (nc_neg hx h1)⟩
  · obtain ⟨d, hd, rfl⟩ := nc_cl hx (fun e => h1 (by rw [e]; decide))
    refine z_aload_n Z 0 d_m_add_4 rfl rfl ?_
    refine mg_12 Z d_m_add_5 ?_
    refine z_iload_n Z 1 d_m_add_8 rfl rfl ?_
    refine ml_12 Z (by omega) d_m_add_9 ?_
    refine z_if_eq Z 15 d_m_add_10 (by decide) (fun h10 => ?_) (fun h10 => ?_)
    · refine z_aload_n Z 0 d_m_add_15 rfl rfl ?_
      refine mg_12 Z d_m_add_16 ?_
      refine z_iload_n Z 1 d_m_add_19 rfl rfl ?_
      refine z_iconst Z (nI 1) d_m_add_20 zi_1 ?_
      refine ms_12 Z (by omega) d_m_add_21 rfl ?_
      refine z_iconst Z (nI 1) d_m_add_22 zi_1 ?_
      refine z_ri Z (upd g d (nI 1)) hr rfl d_m_add_23 (by decide) (by decide) rfl ?_
      exact Or.inl ⟨rfl, d, hd, rfl, h10, rfl⟩
    · refine z_iconst Z (nI 0) d_m_add_13 zi_0 ?_
      refine z_ri Z g hr rfl d_m_add_14 (by decide) (by decide) rfl ?_
      exact Or.inr ⟨rfl, rfl, Or.inr ⟨d, hd, rfl, (hb d hd).resolve_left h10⟩⟩
set_option maxHeartbeats 4000000 in
set_option maxRecDepth 100000 in
theorem c_m_close {l : Launch} {D : va_G} {cI cB cL : ClassId} {h : Nat → Nat} {σ : St} (hw : wf σ) {g : Nat → Int32} (hb : bl g) : zMet l y_m_close w_m_close rm_m_close D zCl (zTy cI cB cL) (wm h cI cB (va_up σ 12 g)) [.ref (h 0)] (qv (fun g' => wm h cI cB (va_up σ 12 g')) (fun g' => bl g' ∧ ∀ c, c < 24 → (g' c = nI 1 ↔ rch σ (fun d => g d = nI 1) c)) noXs) 0 0 0 0 := by
  refine z_meth (by decide) rfl (Nat.le_of_ble_eq_true rfl) (fun p e s mm as bl me cd Z hr hnm ht => ?_)
  refine z_iconst Z (nI 1) d_m_close_0 zi_1 ?_
  refine z_istore_n Z 1 d_m_close_1 rfl (by decide) rfl ?_
  refine z_lv (lv' := [(0, .ref (h 0)), (1, .int (nI 1))]) rfl ?_
  refine z_loop (fun q : Int32 × (Nat → Int32) => oI σ (fun d => g d = nI 1) q.1 q.2) (fun q : Int32 × (Nat → Int32) => 2 * (24 - num (gB q.2) 24) + (if q.1 = nI 1 then 1 else 0)) (fun q : Int32 × (Nat → Int32) => wm h cI cB (va_up σ 12 q.2)) (fun q : Int32 × (Nat → Int32) => [(0, .ref (h 0)), (1, .int q.1)]) (fun q hi0 ih0 => ?_) (nI 1, g) (oI_0 hb)
  obtain ⟨m0, g0⟩ := q
  dsimp only at hi0 ih0 ⊢
  refine z_iload_n Z 1 d_m_close_2 rfl rfl ?_
  refine z_if_eq Z 165 d_m_close_3 (by decide) (fun h3 => ?_) (fun h3 => ?_)
  · refine z_rv Z g0 hr d_m_close_165 (by decide) (by decide) rfl ?_
    exact oI_end hi0 h3
  · obtain rfl := oI_1 hi0 h3
    refine z_iconst Z (nI 0) d_m_close_6 zi_0 ?_
    refine z_istore_n Z 1 d_m_close_7 rfl (by decide) rfl ?_
    refine z_iconst Z (nI 0) d_m_close_8 zi_0 ?_
    refine z_istore_n Z 2 d_m_close_9 rfl (by decide) rfl ?_
    refine z_lv (lv' := [(0, .ref (h 0)), (1, .int (nI 0)), (2, .int (nI 0))]) rfl ?_
    refine z_loop (fun q : Nat × Int32 × (Nat → Int32) => q.1 ≤ 24 ∧ kI σ (fun d => g d = nI 1) g0 ((∀ c', c' < q.1 → ∀ d, d < 24 → g0 c' = nI 1 → hld σ (fun k => g0 k = nI 1) c' d → g0 d = nI 1)) q.2.1 q.2.2) (fun q : Nat × Int32 × (Nat → Int32) => 24 - q.1) (fun q : Nat × Int32 × (Nat → Int32) => wm h cI cB (va_up σ 12 q.2.2)) (fun q : Nat × Int32 × (Nat → Int32) => [(0, .ref (h 0)), (1, .int q.2.1), (2, .int (nI q.1))]) (fun q hi1 ih1 => ?_) (0, nI 0, g0) ⟨by omega, kI_0 hi0⟩
    obtain ⟨c, m1, g1⟩ := q
    dsimp only at hi1 ih1 ⊢
    refine z_iload_n Z 2 d_m_close_10 rfl rfl ?_
    refine z_bipush Z (nI 24) d_m_close_11 zb_24 ?_
    refine z_icmpN_ge Z 162 d_m_close_13 (by decide) (by omega) (by omega) (fun h13 => ?_) (fun h13 => ?_)
    · obtain rfl : c = 24 := by omega
      refine z_goto Z 2 d_m_close_162 (by decide) ?_
      exact z_lv rfl (ih0 (m1, g1) (kI_oI hi0 hi1.2) (kI_mu hi1.2))
    · have hc : c < 24 := h13
      have e6 : σ 6 c = nI (cnt σ c) := (wf_cnt hw hc).2
      have n6 : cnt σ c ≤ 4 := (wf_cnt hw hc).1
      refine z_cut (fun q : Int32 × (Nat → Int32) => kI σ (fun d => g d = nI 1) g0 ((∀ c', c' < c → ∀ d, d < 24 → g0 c' = nI 1 → hld σ (fun k => g0 k = nI 1) c' d → g0 d = nI 1) ∧ (g0 c = nI 1 → σ 1 c = 0 → ∀ f, f < 3 → ∀ d, d < 24 → σ 3 (c * 3 + f) = nI d → g0 d = nI 1)) q.1 q.2) 74 (fun q => wm h cI cB (va_up σ 12 q.2)) (fun q => [(0, .ref (h 0)), (1, .int q.1), (2, .int (nI c))]) (fun _ => []) (fun q hi2 => ?_) (fun J => ?_)
      · obtain ⟨m2, g2⟩ := q
        dsimp only at hi2 ⊢
        refine z_iconst Z (nI 0) d_m_close_74 zi_0 ?_
        refine z_istore_n Z 3 d_m_close_75 rfl (by decide) rfl ?_
        refine z_lv (lv' := [(0, .ref (h 0)), (1, .int m2), (2, .int (nI c)), (3, .int (nI 0))]) rfl ?_
        refine z_loop (fun q : Nat × Int32 × (Nat → Int32) => q.1 ≤ cnt σ c ∧ kI σ (fun d => g d = nI 1) g0 ((∀ c', c' < c → ∀ d, d < 24 → g0 c' = nI 1 → hld σ (fun k => g0 k = nI 1) c' d → g0 d = nI 1) ∧ (g0 c = nI 1 → σ 1 c = 0 → ∀ f, f < 3 → ∀ d, d < 24 → σ 3 (c * 3 + f) = nI d → g0 d = nI 1) ∧ (g0 c = nI 1 → σ 1 c = nI 2 → ∀ i, i < q.1 → ∀ k d, k < 24 → d < 24 → σ 4 (c * 4 + i) = nI k → g0 k = nI 1 → σ 5 (c * 4 + i) = nI d → g0 d = nI 1)) q.2.1 q.2.2) (fun q : Nat × Int32 × (Nat → Int32) => cnt σ c - q.1) (fun q : Nat × Int32 × (Nat → Int32) => wm h cI cB (va_up σ 12 q.2.2)) (fun q : Nat × Int32 × (Nat → Int32) => [(0, .ref (h 0)), (1, .int q.2.1), (2, .int (nI c)), (3, .int (nI q.1))]) (fun q hi ih => ?_) (0, m2, g2) ⟨by omega, kI_w hi2 (fun _ q => ⟨q.1, q.2, fun _ _ i hi => absurd hi (Nat.not_lt_zero _)⟩)⟩
        obtain ⟨i, m4, g4⟩ := q
        dsimp only at hi ih ⊢
        refine z_iload_n Z 3 d_m_close_76 rfl rfl ?_
        refine z_aload_n Z 0 d_m_close_77 rfl rfl ?_
        refine mg_6 Z d_m_close_78 ?_
        refine z_iload_n Z 2 d_m_close_81 rfl rfl ?_
        refine ml_6 Z (by omega) d_m_close_82 ?_
        refine z_eqi (y := nI (cnt σ c)) e6 ?_
        refine z_icmpN_ge Z 156 d_m_close_83 (by decide) (by omega) (by omega) (fun h83 => ?_) (fun h83 => ?_)
        · obtain rfl : i = cnt σ c := by omega
          refine z_iincN Z 2 d_m_close_156 rfl (by decide) rfl ?_
          refine z_goto Z 10 d_m_close_159 (by decide) ?_
          exact z_lv rfl (ih1 (c + 1, m4, g4) ⟨by omega, kI_w hi.2 (fun _ q => pc_s q.1 q.2.1 q.2.2)⟩ (by dsimp only; omega))
        · refine z_aload_n Z 0 d_m_close_86 rfl rfl ?_
          refine mg_12 Z d_m_close_87 ?_
          refine z_iload_n Z 2 d_m_close_90 rfl rfl ?_
          refine ml_12 Z (by omega) d_m_close_91 ?_
          refine z_if_eq Z 156 d_m_close_92 (by decide) (fun h92 => ?_) (fun h92 => ?_)
          · refine z_iincN Z 2 d_m_close_156 rfl (by decide) rfl ?_
            refine z_goto Z 10 d_m_close_159 (by decide) ?_
            exact z_lv rfl (ih1 (c + 1, m4, g4) ⟨by omega, kI_w (kI_out (X := False) hi.2 hc h92) (fun _ q => pc_out q.1.1 q.2)⟩ (by dsimp only; omega))
          · refine z_aload_n Z 0 d_m_close_95 rfl rfl ?_
            refine mg_1 Z d_m_close_96 ?_
            refine z_iload_n Z 2 d_m_close_99 rfl rfl ?_
            refine ml_1 Z (by omega) d_m_close_100 ?_
            refine z_iconst Z (nI 2) d_m_close_101 zi_2 ?_
            refine z_icmp_ne Z 156 d_m_close_102 (by decide) (fun h102 => ?_) (fun h102 => ?_)
            · refine z_iincN Z 2 d_m_close_156 rfl (by decide) rfl ?_
              refine z_goto Z 10 d_m_close_159 (by decide) ?_
              exact z_lv rfl (ih1 (c + 1, m4, g4) ⟨by omega, kI_w hi.2 (fun _ q => pc_n q.1 q.2.1 h102)⟩ (by dsimp only; omega))
            · refine z_aload_n Z 0 d_m_close_105 rfl rfl ?_
              refine mg_12 Z d_m_close_106 ?_
              refine z_aload_n Z 0 d_m_close_109 rfl rfl ?_
              refine mg_4 Z d_m_close_110 ?_
              refine z_iconst Z (nI 4) d_m_close_113 zi_4 ?_
              refine z_iload_n Z 2 d_m_close_114 rfl rfl ?_
              refine z_imulN Z d_m_close_115 ?_
              refine z_iload_n Z 3 d_m_close_116 rfl rfl ?_
              refine z_iaddN Z d_m_close_117 ?_
              refine z_eqi (y := nI (c * 4 + i)) (by rw [Nat.mul_comm]) ?_
              refine ml_4 Z (by omega) d_m_close_118 ?_
              obtain ⟨k, hk, ek⟩ := hw.2.2.1 (c * 4 + i) (by omega)
              refine z_eqi (y := nI k) ek ?_
              refine ml_12 Z (by omega) d_m_close_119 ?_
              refine z_if_eq Z 150 d_m_close_120 (by decide) (fun h120 => ?_) (fun h120 => ?_)
              · refine z_iincN Z 3 d_m_close_150 rfl (by decide) rfl ?_
                refine z_goto Z 76 d_m_close_153 (by decide) ?_
                exact z_lv rfl (ih (i + 1, m4, g4) ⟨by omega, kI_w hi.2 (fun e q => ⟨q.1, q.2.1, tt_s q.2.2 (fun k2 d hk2 hd e4 g1 _ => (tt_no e hk h120 (ek.symm.trans e4) hk2 g1).elim)⟩)⟩ (by dsimp only; omega))
              · refine z_aload_n Z 0 d_m_close_123 rfl rfl ?_
                refine z_aload_n Z 0 d_m_close_124 rfl rfl ?_
                refine mg_5 Z d_m_close_125 ?_
                refine z_iconst Z (nI 4) d_m_close_128 zi_4 ?_
                refine z_iload_n Z 2 d_m_close_129 rfl rfl ?_
                refine z_imulN Z d_m_close_130 ?_
                refine z_iload_n Z 3 d_m_close_131 rfl rfl ?_
                refine z_iaddN Z d_m_close_132 ?_
                refine z_eqi (y := nI (c * 4 + i)) (by rw [Nat.mul_comm]) ?_
                refine ml_5 Z (by omega) d_m_close_133 ?_
                refine z_Wi Z (c_m_add (σ := σ) (g := g4) hi.2.1 (cl24_nc (hw.2.2.2.1 (c * 4 + i) (by omega)))) (ok_m_add _) rfl rfl ⟨by decide, by decide⟩ rfl rfl rfl rfl (Nat.le_of_ble_eq_true rfl) d_m_close_134 ⟨by decide, by decide⟩ (fun E u h => h.elim) (fun v134 u134 h134 => ?_)
                refine z_if_ne Z 144 d_m_close_137 (by decide) (fun h137 => ?_) (fun h137 => ?_)
                · refine z_iconst Z (nI 1) d_m_close_144 zi_1 ?_
                  refine z_goto Z 149 d_m_close_145 (by decide) ?_
                  refine z_istore_n Z 1 d_m_close_149 rfl (by decide) rfl ?_
                  refine z_iincN Z 3 d_m_close_150 rfl (by decide) rfl ?_
                  refine z_goto Z 76 d_m_close_153 (by decide) ?_
                  exact z_lv rfl (ih (i + 1, nI 1, u134) ⟨by omega, kI_add1 hi.2 (fun d hd e => rch_clo σ _ c d hc hd (hi.2.2.2.1 c hc ((hi.2.1 c hc).resolve_left h92)) (Or.inr ⟨h102, i, by omega, ⟨k, hk, ek, hi.2.2.2.1 k hk ((hi.2.1 k hk).resolve_left h120)⟩, e⟩)) h134 h137⟩ (by dsimp only; omega))
                · refine z_iload_n Z 1 d_m_close_140 rfl rfl ?_
                  refine z_if_eq Z 148 d_m_close_141 (by decide) (fun h141 => ?_) (fun h141 => ?_)
                  · refine z_iconst Z (nI 0) d_m_close_148 zi_0 ?_
                    refine z_istore_n Z 1 d_m_close_149 rfl (by decide) rfl ?_
                    refine z_iincN Z 3 d_m_close_150 rfl (by decide) rfl ?_
                    refine z_goto Z 76 d_m_close_153 (by decide) ?_
                    exact z_lv rfl (ih (i + 1, nI 0, u134) ⟨by omega, kI_w (kI_add3 hi.2 h134 h137 h141) (fun _ q => ⟨q.1.1, q.1.2.1, tt_s q.1.2.2 (fun k2 d hk2 hd e4 g1 e5 => q.2 d hd e5)⟩)⟩ (by dsimp only; omega))
                  · refine z_iconst Z (nI 1) d_m_close_144 zi_1 ?_
                    refine z_goto Z 149 d_m_close_145 (by decide) ?_
                    refine z_istore_n Z 1 d_m_close_149 rfl (by decide) rfl ?_
                    refine z_iincN Z 3 d_m_close_150 rfl (by decide) rfl ?_
                    refine z_goto Z 76 d_m_close_153 (by decide) ?_
                    exact z_lv rfl (ih (i + 1, nI 1, u134) ⟨by omega, kI_add2 hi.2 h134 h137 h141⟩ (by dsimp only; omega))
      · refine z_aload_n Z 0 d_m_close_16 rfl rfl ?_
        refine mg_12 Z d_m_close_17 ?_
        refine z_iload_n Z 2 d_m_close_20 rfl rfl ?_
        refine ml_12 Z (by omega) d_m_close_21 ?_
        refine z_if_eq Z 74 d_m_close_22 (by decide) (fun h22 => ?_) (fun h22 => ?_)
        · exact z_lv rfl (J (m1, g1) (kI_out hi1.2 hc h22))
        · refine z_aload_n Z 0 d_m_close_25 rfl rfl ?_
          refine mg_1 Z d_m_close_26 ?_
          refine z_iload_n Z 2 d_m_close_29 rfl rfl ?_
          refine ml_1 Z (by omega) d_m_close_30 ?_
          refine z_if_ne Z 74 d_m_close_31 (by decide) (fun h31 => ?_) (fun h31 => ?_)
          · exact z_lv rfl (J (m1, g1) (kI_w hi1.2 (fun _ q => ⟨q, fun _ b => absurd b h31⟩)))
          · refine z_iconst Z (nI 0) d_m_close_34 zi_0 ?_
            refine z_istore_n Z 3 d_m_close_35 rfl (by decide) rfl ?_
            refine z_lv (lv' := [(0, .ref (h 0)), (1, .int m1), (2, .int (nI c)), (3, .int (nI 0))]) rfl ?_
            refine z_loop (fun q : Nat × Int32 × (Nat → Int32) => q.1 ≤ 3 ∧ kI σ (fun d => g d = nI 1) g0 ((∀ c', c' < c → ∀ d, d < 24 → g0 c' = nI 1 → hld σ (fun k => g0 k = nI 1) c' d → g0 d = nI 1) ∧ (g0 c = nI 1 → σ 1 c = 0 → ∀ f, f < q.1 → ∀ d, d < 24 → σ 3 (c * 3 + f) = nI d → g0 d = nI 1)) q.2.1 q.2.2 ∧ q.2.2 c = nI 1) (fun q : Nat × Int32 × (Nat → Int32) => 3 - q.1) (fun q : Nat × Int32 × (Nat → Int32) => wm h cI cB (va_up σ 12 q.2.2)) (fun q : Nat × Int32 × (Nat → Int32) => [(0, .ref (h 0)), (1, .int q.2.1), (2, .int (nI c)), (3, .int (nI q.1))]) (fun q hi ih => ?_) (0, m1, g1) ⟨by omega, kI_w hi1.2 (fun _ q => ⟨q, fun _ _ f hf => absurd hf (Nat.not_lt_zero _)⟩), (hi1.2.1 c hc).resolve_left h22⟩
            obtain ⟨f, m3, g3⟩ := q
            dsimp only at hi ih ⊢
            refine z_iload_n Z 3 d_m_close_36 rfl rfl ?_
            refine z_iconst Z (nI 3) d_m_close_37 zi_3 ?_
            refine z_icmpN_ge Z 74 d_m_close_38 (by decide) (by omega) (by omega) (fun h38 => ?_) (fun h38 => ?_)
            · obtain rfl : f = 3 := by omega
              exact z_lv rfl (J (m3, g3) hi.2.1)
            · refine z_aload_n Z 0 d_m_close_41 rfl rfl ?_
              refine z_aload_n Z 0 d_m_close_42 rfl rfl ?_
              refine mg_3 Z d_m_close_43 ?_
              refine z_iconst Z (nI 3) d_m_close_46 zi_3 ?_
              refine z_iload_n Z 2 d_m_close_47 rfl rfl ?_
              refine z_imulN Z d_m_close_48 ?_
              refine z_iload_n Z 3 d_m_close_49 rfl rfl ?_
              refine z_iaddN Z d_m_close_50 ?_
              refine z_eqi (y := nI (c * 3 + f)) (by rw [Nat.mul_comm]) ?_
              refine ml_3 Z (by omega) d_m_close_51 ?_
              refine z_Wi Z (c_m_add (σ := σ) (g := g3) hi.2.1.1 (hw.2.1 (c * 3 + f) (by omega))) (ok_m_add _) rfl rfl ⟨by decide, by decide⟩ rfl rfl rfl rfl (Nat.le_of_ble_eq_true rfl) d_m_close_52 ⟨by decide, by decide⟩ (fun E u h => h.elim) (fun v52 u52 h52 => ?_)
              refine z_if_ne Z 62 d_m_close_55 (by decide) (fun h55 => ?_) (fun h55 => ?_)
              · refine z_iconst Z (nI 1) d_m_close_62 zi_1 ?_
                refine z_goto Z 67 d_m_close_63 (by decide) ?_
                refine z_istore_n Z 1 d_m_close_67 rfl (by decide) rfl ?_
                refine z_iincN Z 3 d_m_close_68 rfl (by decide) rfl ?_
                refine z_goto Z 36 d_m_close_71 (by decide) ?_
                exact z_lv rfl (ih (f + 1, nI 1, u52) ⟨by omega, kI_add1 hi.2.1 (fun d hd e => rch_clo σ _ c d hc hd (hi.2.1.2.2.1 c hc hi.2.2) (Or.inl ⟨h31, f, by omega, e⟩)) h52 h55, (adG_iff h52 hc).mpr (Or.inl hi.2.2)⟩ (by dsimp only; omega))
              · refine z_iload_n Z 1 d_m_close_58 rfl rfl ?_
                refine z_if_eq Z 66 d_m_close_59 (by decide) (fun h59 => ?_) (fun h59 => ?_)
                · refine z_iconst Z (nI 0) d_m_close_66 zi_0 ?_
                  refine z_istore_n Z 1 d_m_close_67 rfl (by decide) rfl ?_
                  refine z_iincN Z 3 d_m_close_68 rfl (by decide) rfl ?_
                  refine z_goto Z 36 d_m_close_71 (by decide) ?_
                  exact z_lv rfl (ih (f + 1, nI 0, u52) ⟨by omega, kI_w (kI_add3 hi.2.1 h52 h55 h59) (fun _ q => ⟨q.1.1, rr_s q.1.2 (fun d hd e => q.2 d hd e)⟩), (adG_iff h52 hc).mpr (Or.inl hi.2.2)⟩ (by dsimp only; omega))
                · refine z_iconst Z (nI 1) d_m_close_62 zi_1 ?_
                  refine z_goto Z 67 d_m_close_63 (by decide) ?_
                  refine z_istore_n Z 1 d_m_close_67 rfl (by decide) rfl ?_
                  refine z_iincN Z 3 d_m_close_68 rfl (by decide) rfl ?_
                  refine z_goto Z 36 d_m_close_71 (by decide) ?_
                  exact z_lv rfl (ih (f + 1, nI 1, u52) ⟨by omega, kI_add2 hi.2.1 h52 h55 h59, (adG_iff h52 hc).mpr (Or.inl hi.2.2)⟩ (by dsimp only; omega))
