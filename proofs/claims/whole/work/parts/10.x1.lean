/-! small facts for the walks; what the class's methods do to its state -/
theorem zbt {b : Bool} (h : ¬ b = false) : b = true := by cases b; exact absurd rfl h; rfl
theorem zB0 {v : Int32} {p q : Prop} (h : (v = nI 1 ∧ p) ∨ (v = nI 0 ∧ q)) (e : v = 0) : q := by
  rcases h with ⟨h, _⟩ | ⟨_, h⟩
  · rw [h] at e; exact absurd e (by decide)
  · exact h
theorem zB1 {v : Int32} {p q : Prop} (h : (v = nI 1 ∧ p) ∨ (v = nI 0 ∧ q)) (e : ¬ v = 0) : p := by
  rcases h with ⟨_, h⟩ | ⟨h, _⟩
  · exact h
  · exact absurd h e
def fc (k : Int32) : Nat := if k = 0 then 3 else if k = 1 then 1 else 0
theorem fc_le (k : Int32) : fc k ≤ 3 := by unfold fc; split; exact Nat.le_refl _; split <;> decide
theorem fc_31 (k : Int32) : fc k < 2 ^ 31 := Nat.lt_of_le_of_lt (fc_le k) (by decide)
theorem fc_lt {k : Int32} {j : Nat} (h : j < fc k) : j < 2 ^ 31 := Nat.lt_trans h (fc_31 k)
theorem inN {x : Int32} {n : Nat} (h0 : ¬ x < 0) (h : x < nI n) (hn : n < 2 ^ 31 := by first | decide | exact fc_31 _) : ∃ j, j < n ∧ x = nI j := by
  obtain ⟨j, hj, rfl⟩ := nI_of h0
  exact ⟨j, (nI_ltI hj hn).mp h, rfl⟩
theorem in24 {x : Int32} (h0 : ¬ x < 0) (h : ¬ nI 24 ≤ x) : ∃ c, c < 24 ∧ x = nI c := by
  rcases pk_ix x (n := 24) (by decide) with q | q | q
  · exact absurd q h0
  · exact absurd q h
  · exact q
def isT (σ : St) (x : Int32) : Prop := ∃ c, c < 24 ∧ x = nI c ∧ bt (σ 0 0) c = true
theorem isT_nI {σ : St} {c : Nat} (hc : c < 24) : isT σ (nI c) ↔ bt (σ 0 0) c = true := by
  constructor
  · rintro ⟨d, hd, e, h⟩
    rw [(nI_eq (by omega) (by omega)).mp e]; exact h
  · intro h; exact ⟨c, hc, rfl, h⟩
theorem isT_neg {σ : St} {x : Int32} (h : x < 0) : ¬ isT σ x := by
  rintro ⟨c, hc, rfl, -⟩
  exact nI_pos (by omega) h
theorem isT_big {σ : St} {x : Int32} (h : nI 24 ≤ x) : ¬ isT σ x := by
  rintro ⟨c, hc, rfl, -⟩
  exact nI_ge hc (by decide) h
theorem set_or {x : Int32} {n d : Nat} {f : Nat → Int32} (h : ∀ c, c < 24 → (bt x c = true ↔ ∃ r, r < n ∧ f r = nI c)) (hd : d < 24) (e : f n = nI d) : ∀ c, c < 24 → (bt (x ||| ((1 : Int32) <<< (nI d &&& 31))) c = true ↔ ∃ r, r < n + 1 ∧ f r = nI c) := by
  intro c hc
  rw [zb_orc x hd hc, h c hc]
  constructor
  · rintro (⟨r, hr, q⟩ | rfl)
    · exact ⟨r, by omega, q⟩
    · exact ⟨n, by omega, e⟩
  · rintro ⟨r, hr, q⟩
    by_cases hrn : r = n
    · subst hrn
      exact Or.inr ((nI_eq (by omega) (by omega)).mp (q.symm.trans e))
    · exact Or.inl ⟨r, by omega, q⟩
theorem set_no {x : Int32} {n : Nat} {f : Nat → Int32} (h : ∀ c, c < 24 → (bt x c = true ↔ ∃ r, r < n ∧ f r = nI c)) (e : ∀ c, c < 24 → f n = nI c → False) : ∀ c, c < 24 → (bt x c = true ↔ ∃ r, r < n + 1 ∧ f r = nI c) := by
  intro c hc
  rw [h c hc]
  constructor
  · rintro ⟨r, hr, q⟩; exact ⟨r, by omega, q⟩
  · rintro ⟨r, hr, q⟩
    by_cases hrn : r = n
    · subst hrn; exact (e c hc q).elim
    · exact ⟨r, by omega, q⟩
theorem set_orK {x : Int32} {n d : Nat} {f : Nat → Int32} {g : Nat → Prop} (h : ∀ c, c < 24 → (bt x c = true ↔ ∃ r, r < n ∧ g r ∧ f r = nI c)) (hd : d < 24) (e : f n = nI d) (hg : g n) : ∀ c, c < 24 → (bt (x ||| ((1 : Int32) <<< (nI d &&& 31))) c = true ↔ ∃ r, r < n + 1 ∧ g r ∧ f r = nI c) := by
  intro c hc
  rw [zb_orc x hd hc, h c hc]
  constructor
  · rintro (⟨r, hr, q⟩ | rfl)
    · exact ⟨r, by omega, q⟩
    · exact ⟨n, by omega, hg, e⟩
  · rintro ⟨r, hr, g1, q⟩
    by_cases hrn : r = n
    · subst hrn
      exact Or.inr ((nI_eq (by omega) (by omega)).mp (q.symm.trans e))
    · exact Or.inl ⟨r, by omega, g1, q⟩
theorem set_noK {x : Int32} {n : Nat} {f : Nat → Int32} {g : Nat → Prop} (h : ∀ c, c < 24 → (bt x c = true ↔ ∃ r, r < n ∧ g r ∧ f r = nI c)) (hg : ¬ g n) : ∀ c, c < 24 → (bt x c = true ↔ ∃ r, r < n + 1 ∧ g r ∧ f r = nI c) := by
  intro c hc
  rw [h c hc]
  constructor
  · rintro ⟨r, hr, q⟩; exact ⟨r, by omega, q⟩
  · rintro ⟨r, hr, g1, q⟩
    by_cases hrn : r = n
    · subst hrn; exact (hg g1).elim
    · exact ⟨r, by omega, g1, q⟩
theorem hld_r {σ : St} {S : Nat → Prop} {c d : Nat} (h : σ 1 c = 0) : (∃ f, f < 3 ∧ σ 3 (c * 3 + f) = nI d) ↔ hld σ S c d := by
  constructor
  · intro q; exact Or.inl ⟨h, q⟩
  · rintro (⟨_, q⟩ | ⟨q, _⟩)
    · exact q
    · rw [h] at q; exact absurd q (by decide)
theorem hld_t {σ : St} {S : Nat → Prop} {c d : Nat} (h : σ 1 c = nI 2) : (∃ i, i < cnt σ c ∧ (∃ k, k < 24 ∧ σ 4 (c * 4 + i) = nI k ∧ S k) ∧ σ 5 (c * 4 + i) = nI d) ↔ hld σ S c d := by
  constructor
  · intro q; exact Or.inr ⟨h, q⟩
  · rintro (⟨q, _⟩ | ⟨_, q⟩)
    · rw [h] at q; exact absurd q (by decide)
    · exact q
theorem hld_n {σ : St} {S : Nat → Prop} {c d : Nat} (h0 : ¬ σ 1 c = 0) (h2 : ¬ σ 1 c = nI 2) (h : hld σ S c d) : False := by
  rcases h with ⟨q, _⟩ | ⟨q, _⟩
  · exact h0 q
  · exact h2 q
/-- the fields of c are emptied, the first i of them -/
def empF (f : Nat → Int32) (c : Nat) : Nat → Nat → Int32
  | 0 => f
  | i + 1 => upd (empF f c i) (c * 3 + i) (-1)
def emp (σ : St) (c : Nat) : St := va_up (va_up σ 3 (empF (σ 3) c 3)) 6 (upd (σ 6) c (nI 0))
def pl1 (σ : St) : St := va_up σ 0 (upd (σ 0) 2 (σ 0 2 + nI 1))
def pl2 (σ : St) (c : Nat) : St := va_up σ 0 (upd (σ 0) 0 (σ 0 0 ||| (nI 1 <<< (nI c &&& 31))))
def pl3 (σ : St) (c : Nat) (k : Int32) : St := va_up σ 1 (upd (σ 1) c k)
def pl4 (σ : St) (c : Nat) : St := va_up σ 2 (upd (σ 2) c (σ 0 2))
def pl5 (σ : St) (c : Nat) : St := va_up σ 7 (upd (σ 7) c (nI 0))
def plc (σ : St) (c : Nat) (k : Int32) : St := emp (pl5 (pl4 (pl3 (pl2 (pl1 σ) c) c k) c) c) c
def apd (σ : St) (c : Nat) (k v : Int32) : St := va_up (va_up (va_up σ 4 (upd (σ 4) (c * 4 + cnt σ c) k)) 5 (upd (σ 5) (c * 4 + cnt σ c) v)) 6 (upd (σ 6) c (nI (cnt σ c + 1)))
def cpy (σ : St) (c a b : Nat) : St := va_up (va_up σ 4 (upd (σ 4) (c * 4 + b) (σ 4 (c * 4 + a)))) 5 (upd (σ 5) (c * 4 + b) (σ 5 (c * 4 + a)))
/-- the rows from d up to i move down by one -/
def shf (f : Nat → Int32) (c d i : Nat) : Nat → Int32 := fun j => if c * 4 + d ≤ j ∧ j < c * 4 + i then f (j + 1) else f j
theorem shf_0 (f : Nat → Int32) (c d : Nat) : shf f c d d = f := by
  funext j; unfold shf; rw [if_neg (by omega)]
theorem shf_s (f : Nat → Int32) {c d i : Nat} (h : d ≤ i) : upd (shf f c d i) (c * 4 + i) (shf f c d i (c * 4 + (i + 1))) = shf f c d (i + 1) := by
  funext j
  by_cases e : j = c * 4 + i
  · subst e
    rw [pk_us]
    unfold shf
    rw [if_neg (by omega), if_pos (by omega)]; rfl
  · rw [pk_un e]
    unfold shf
    by_cases q : c * 4 + d ≤ j ∧ j < c * 4 + i
    · rw [if_pos q, if_pos (by omega)]
    · rw [if_neg q, if_neg (by omega)]
def dst (σ : St) (c d i : Nat) : St := va_up (va_up σ 4 (shf (σ 4) c d i)) 5 (shf (σ 5) c d i)
theorem va_up_same {α : Type} (f : Nat → α) (k : Nat) : va_up f k (f k) = f := by
  funext j; unfold va_up; split
  · rename_i h; rw [h]
  · rfl
theorem dst_0 (σ : St) (c d : Nat) : dst σ c d d = σ := by
  unfold dst; rw [shf_0, shf_0, va_up_same]
  exact va_up_same σ 5
theorem dst_step {σ : St} {c d i : Nat} (h : d ≤ i) : cpy (dst σ c d i) c (i + 1) i = dst σ c d (i + 1) := by
  have e4 : (dst σ c d i) 4 = shf (σ 4) c d i := rfl
  have e5 : (dst σ c d i) 5 = shf (σ 5) c d i := rfl
  unfold cpy
  rw [e4, e5, shf_s _ h, shf_s _ h]
  funext k
  unfold dst va_up
  by_cases h5 : k = 5
  · simp [h5]
  · by_cases h4 : k = 4
    · simp [h4]
    · simp [h4, h5]
def drp (σ : St) (c d : Nat) : St := va_up (dst σ c d (cnt σ c - 1)) 6 (upd (σ 6) c (nI (cnt σ c - 1)))
set_option maxHeartbeats 4000000 in
set_option maxRecDepth 100000 in
theorem c_contains {l : Launch} {D : va_G} {cI cB cL : ClassId} {x : Int32} {c : Nat} (hc : c < 32) : zMet l y_contains w_contains rm_contains D zCl (zTy cI cB cL) [] [.int x, .int (nI c)] (qi0 [] (fun v => (v = nI 1 ∧ bt x c = true) ∨ (v = nI 0 ∧ bt x c = false)) noX) 0 0 0 0 := by
  refine z_meth (by decide) rfl (Nat.le_of_ble_eq_true rfl) (fun p e s mm as bl me cd Z hr hnm ht => ?_)
  refine z_iload_n Z 0 d_contains_0 rfl rfl ?_
  refine z_iconst Z (nI 1) d_contains_1 zi_1 ?_
  refine z_iload_n Z 1 d_contains_2 rfl rfl ?_
  refine z_ishl Z d_contains_3 ?_
  refine z_iand Z d_contains_4 ?_
  refine z_if_eq Z 12 d_contains_5 (by decide) (fun h5 => ?_) (fun h5 => ?_)
  · refine z_iconst Z (nI 0) d_contains_12 zi_0 ?_
    refine z_ri0 Z hr rfl d_contains_13 (by decide) (by decide) ?_
    exact Or.inr ⟨rfl, (zb_has x hc).mp h5⟩
  · refine z_iconst Z (nI 1) d_contains_8 zi_1 ?_
    refine z_goto Z 13 d_contains_9 (by decide) ?_
    refine z_ri0 Z hr rfl d_contains_13 (by decide) (by decide) ?_
    exact Or.inl ⟨rfl, zbt (fun q => h5 ((zb_has x hc).mpr q))⟩
set_option maxHeartbeats 4000000 in
set_option maxRecDepth 100000 in
theorem c_fieldCount {l : Launch} {D : va_G} {cI cB cL : ClassId} {k : Int32} : zMet l y_fieldCount w_fieldCount rm_fieldCount D zCl (zTy cI cB cL) [] [.int k] (qi0 [] (fun v => v = nI (fc k)) noX) 0 0 0 0 := by
  refine z_meth (by decide) rfl (Nat.le_of_ble_eq_true rfl) (fun p e s mm as bl me cd Z hr hnm ht => ?_)
  refine z_iload_n Z 0 d_fieldCount_0 rfl rfl ?_
  refine z_if_ne Z 6 d_fieldCount_1 (by decide) (fun h1 => ?_) (fun h1 => ?_)
  · refine z_iload_n Z 0 d_fieldCount_6 rfl rfl ?_
    refine z_iconst Z (nI 1) d_fieldCount_7 zi_1 ?_
    refine z_icmp_ne Z 15 d_fieldCount_8 (by decide) (fun h8 => ?_) (fun h8 => ?_)
    · refine z_iconst Z (nI 0) d_fieldCount_15 zi_0 ?_
      refine z_ri0 Z hr rfl d_fieldCount_16 (by decide) (by decide) ?_
      simp [fc, show ¬ k = 0 from h1, show ¬ k = 1 from h8]
    · refine z_iconst Z (nI 1) d_fieldCount_11 zi_1 ?_
      refine z_goto Z 16 d_fieldCount_12 (by decide) ?_
      refine z_ri0 Z hr rfl d_fieldCount_16 (by decide) (by decide) ?_
      rw [show k = 1 from h8]; rfl
  · refine z_iconst Z (nI 3) d_fieldCount_4 zi_3 ?_
    refine z_ri0 Z hr rfl d_fieldCount_5 (by decide) (by decide) ?_
    rw [h1]; rfl
set_option maxHeartbeats 4000000 in
set_option maxRecDepth 100000 in
theorem c_fieldSlot {l : Launch} {D : va_G} {cI cB cL : ClassId} {c f : Nat} : zMet l y_fieldSlot w_fieldSlot rm_fieldSlot D zCl (zTy cI cB cL) [] [.int (nI c), .int (nI f)] (qi0 [] (fun v => v = nI (c * 3 + f)) noX) 0 0 0 0 := by
  refine z_meth (by decide) rfl (Nat.le_of_ble_eq_true rfl) (fun p e s mm as bl me cd Z hr hnm ht => ?_)
  refine z_iload_n Z 0 d_fieldSlot_0 rfl rfl ?_
  refine z_iconst Z (nI 3) d_fieldSlot_1 zi_3 ?_
  refine z_imulN Z d_fieldSlot_2 ?_
  refine z_iload_n Z 1 d_fieldSlot_3 rfl rfl ?_
  refine z_iaddN Z d_fieldSlot_4 ?_
  refine z_ri0 Z hr rfl d_fieldSlot_5 (by decide) (by decide) ?_
  rfl
set_option maxHeartbeats 4000000 in
set_option maxRecDepth 100000 in
theorem c_entrySlot {l : Launch} {D : va_G} {cI cB cL : ClassId} {c i : Nat} : zMet l y_entrySlot w_entrySlot rm_entrySlot D zCl (zTy cI cB cL) [] [.int (nI c), .int (nI i)] (qi0 [] (fun v => v = nI (c * 4 + i)) noX) 0 0 0 0 := by
  refine z_meth (by decide) rfl (Nat.le_of_ble_eq_true rfl) (fun p e s mm as bl me cd Z hr hnm ht => ?_)
  refine z_iload_n Z 0 d_entrySlot_0 rfl rfl ?_
  refine z_iconst Z (nI 4) d_entrySlot_1 zi_4 ?_
  refine z_imulN Z d_entrySlot_2 ?_
  refine z_iload_n Z 1 d_entrySlot_3 rfl rfl ?_
  refine z_iaddN Z d_entrySlot_4 ?_
  refine z_ri0 Z hr rfl d_entrySlot_5 (by decide) (by decide) ?_
  rfl
set_option maxHeartbeats 4000000 in
set_option maxRecDepth 100000 in
theorem c_hasThing {l : Launch} {D : va_G} {cI cB cL : ClassId} {h : Nat → Nat} {σ : St} {x : Int32} : zMet l y_hasThing w_hasThing rm_hasThing D zCl (zTy cI cB cL) (wx h cI σ) [.ref (h 0), .int x] (qi0 (wx h cI σ) (fun v => (v = nI 1 ∧ isT σ x) ∨ (v = nI 0 ∧ ¬ isT σ x)) noX) 0 0 0 0 := by
  refine z_meth (by decide) rfl (Nat.le_of_ble_eq_true rfl) (fun p e s mm as bl me cd Z hr hnm ht => ?_)
  refine z_iload_n Z 1 d_hasThing_0 rfl rfl ?_
  refine z_if_lt Z 25 d_hasThing_1 (by decide) (fun h1 => ?_) (fun h1 => ?_)
  · refine z_iconst Z (nI 0) d_hasThing_25 zi_0 ?_
    refine z_ri0 Z hr rfl d_hasThing_26 (by decide) (by decide) ?_
    exact Or.inr ⟨rfl, isT_neg h1⟩
  · refine z_iload_n Z 1 d_hasThing_4 rfl rfl ?_
    refine z_bipush Z (nI 24) d_hasThing_5 zb_24 ?_
    refine z_icmp_ge Z 25 d_hasThing_7 (by decide) (fun h7 => ?_) (fun h7 => ?_)
    · refine z_iconst Z (nI 0) d_hasThing_25 zi_0 ?_
      refine z_ri0 Z hr rfl d_hasThing_26 (by decide) (by decide) ?_
      exact Or.inr ⟨rfl, isT_big h7⟩
    · obtain ⟨c, hc, rfl⟩ := in24 h1 h7
      refine z_aload_n Z 0 d_hasThing_10 rfl rfl ?_
      refine xn_0 Z d_hasThing_11 ?_
      refine z_iload_n Z 1 d_hasThing_14 rfl rfl ?_
      refine z_S0 Z (c_contains (by omega)) (ok_contains _) rfl rfl ⟨by decide, by decide⟩ rfl rfl (Nat.le_of_ble_eq_true rfl) d_hasThing_15 ⟨by decide, by decide⟩ (fun v15 h15 => ?_)
      refine z_if_eq Z 25 d_hasThing_18 (by decide) (fun h18 => ?_) (fun h18 => ?_)
      · refine z_iconst Z (nI 0) d_hasThing_25 zi_0 ?_
        refine z_ri0 Z hr rfl d_hasThing_26 (by decide) (by decide) ?_
        exact Or.inr ⟨rfl, fun q => by rw [(isT_nI hc).mp q] at h15; exact Bool.noConfusion (zB0 h15 h18)⟩
      · refine z_iconst Z (nI 1) d_hasThing_21 zi_1 ?_
        refine z_goto Z 26 d_hasThing_22 (by decide) ?_
        refine z_ri0 Z hr rfl d_hasThing_26 (by decide) (by decide) ?_
        exact Or.inl ⟨rfl, (isT_nI hc).mpr (zB1 h15 h18)⟩
set_option maxHeartbeats 4000000 in
set_option maxRecDepth 100000 in
theorem c_requireThing {l : Launch} {D : va_G} {cI cB cL : ClassId} {h : Nat → Nat} {σ : St} (hlt : l.stackTraces = false) {x : Int32} : zMet l y_requireThing w_requireThing rm_requireThing D zCl (zTy cI cB cL) (wx h cI σ) [.ref (h 0), .int x] (qv0 (wx h cI σ) (isT σ x) (fun E => E = "java/util/NoSuchElementException" ∧ ¬ isT σ x)) 0 0 1 6 := by
  refine z_meth (by decide) rfl (Nat.le_of_ble_eq_true rfl) (fun p e s mm as bl me cd Z hr hnm ht => ?_)
  refine z_aload_n Z 0 d_requireThing_0 rfl rfl ?_
  refine z_iload_n Z 1 d_requireThing_1 rfl rfl ?_
  refine z_Wi0 Z (c_hasThing ) (ok_hasThing _) rfl rfl ⟨by decide, by decide⟩ rfl rfl rfl rfl (Nat.le_of_ble_eq_true rfl) d_requireThing_2 ⟨by decide, by decide⟩ (fun E h => h.elim) (fun v2 h2 => ?_)
  refine z_if_ne Z 18 d_requireThing_5 (by decide) (fun h5 => ?_) (fun h5 => ?_)
  · refine z_rv0 Z hr d_requireThing_18 (by decide) (by decide) ?_
    exact zB1 h2 h5
  · exact z_throwN Z hlt (text := "no thing in this cell") st_160 (at_NoSuchElementException _) d_requireThing_8 d_requireThing_11 d_requireThing_12 d_requireThing_14 d_requireThing_17 (ht _) (by decide) (by decide) (by decide) (by decide) (by decide) (by decide) ⟨rfl, rfl, zB0 h2 h5⟩
set_option maxHeartbeats 4000000 in
set_option maxRecDepth 100000 in
theorem c_requireThingOrNone {l : Launch} {D : va_G} {cI cB cL : ClassId} {h : Nat → Nat} {σ : St} (hlt : l.stackTraces = false) {x : Int32} : zMet l y_requireThingOrNone w_requireThingOrNone rm_requireThingOrNone D zCl (zTy cI cB cL) (wx h cI σ) [.ref (h 0), .int x] (qv0 (wx h cI σ) (x = -1 ∨ isT σ x) (fun E => E = "java/util/NoSuchElementException" ∧ ¬ (x = -1 ∨ isT σ x))) 0 0 1 6 := by
  refine z_meth (by decide) rfl (Nat.le_of_ble_eq_true rfl) (fun p e s mm as bl me cd Z hr hnm ht => ?_)
  refine z_iload_n Z 1 d_requireThingOrNone_0 rfl rfl ?_
  refine z_iconst Z (-1) d_requireThingOrNone_1 zi_m1 ?_
  refine z_icmp_eq Z 10 d_requireThingOrNone_2 (by decide) (fun h2 => ?_) (fun h2 => ?_)
  · refine z_rv0 Z hr d_requireThingOrNone_10 (by decide) (by decide) ?_
    exact Or.inl h2
  · refine z_aload_n Z 0 d_requireThingOrNone_5 rfl rfl ?_
    refine z_iload_n Z 1 d_requireThingOrNone_6 rfl rfl ?_
    refine z_Wv0 Z (c_requireThing hlt) (ok_requireThing _) rfl rfl ⟨by decide, by decide⟩ rfl rfl rfl rfl (Nat.le_of_ble_eq_true rfl) d_requireThingOrNone_7 ⟨by decide, by decide⟩ (fun E h => z_out Z (ht _) (by decide) (by decide) ⟨rfl, h.1, fun q => q.elim h2 h.2⟩) (fun h7 => ?_)
    refine z_rv0 Z hr d_requireThingOrNone_10 (by decide) (by decide) ?_
    exact Or.inr h7
set_option maxHeartbeats 4000000 in
set_option maxRecDepth 100000 in
theorem c_requireField {l : Launch} {D : va_G} {cI cB cL : ClassId} {h : Nat → Nat} {σ : St} (hlt : l.stackTraces = false) {c : Nat} (hc : c < 24) {f : Int32} : zMet l y_requireField w_requireField rm_requireField D zCl (zTy cI cB cL) (wx h cI σ) [.ref (h 0), .int (nI c), .int f] (qv0 (wx h cI σ) (∃ j, j < fc (σ 1 c) ∧ f = nI j) (fun E => E = "java/lang/IllegalArgumentException" ∧ ¬ (∃ j, j < fc (σ 1 c) ∧ f = nI j))) 0 0 1 6 := by
  refine z_meth (by decide) rfl (Nat.le_of_ble_eq_true rfl) (fun p e s mm as bl me cd Z hr hnm ht => ?_)
  refine z_iload_n Z 2 d_requireField_0 rfl rfl ?_
  refine z_if_lt Z 17 d_requireField_1 (by decide) (fun h1 => ?_) (fun h1 => ?_)
  · exact z_throw Z hlt (text := "no such field") (names := zNames) (by decide +kernel) zNames_fit st_165 (at_IllegalArgumentException _) d_requireField_17 d_requireField_20 d_requireField_21 d_requireField_23 d_requireField_26 (ht _) (by decide) (by decide) (by decide) (by decide) (by decide) (by decide) ⟨rfl, rfl, fun ⟨j, hj, q⟩ => nI_pos (fc_lt hj) (q ▸ h1)⟩
  · refine z_iload_n Z 2 d_requireField_4 rfl rfl ?_
    refine z_aload_n Z 0 d_requireField_5 rfl rfl ?_
    refine xg_1 Z d_requireField_6 ?_
    refine z_iload_n Z 1 d_requireField_9 rfl rfl ?_
    refine xl_1 Z (by omega) d_requireField_10 ?_
    refine z_S0 Z (c_fieldCount ) (ok_fieldCount _) rfl rfl ⟨by decide, by decide⟩ rfl rfl (Nat.le_of_ble_eq_true rfl) d_requireField_11 ⟨by decide, by decide⟩ (fun v11 h11 => ?_)
    subst h11
    refine z_icmp_lt Z 27 d_requireField_14 (by decide) (fun h14 => ?_) (fun h14 => ?_)
    · refine z_rv0 Z hr d_requireField_27 (by decide) (by decide) ?_
      exact inN h1 h14
    · exact z_throw Z hlt (text := "no such field") (names := zNames) (by decide +kernel) zNames_fit st_165 (at_IllegalArgumentException _) d_requireField_17 d_requireField_20 d_requireField_21 d_requireField_23 d_requireField_26 (ht _) (by decide) (by decide) (by decide) (by decide) (by decide) (by decide) ⟨rfl, rfl, fun ⟨j, hj, q⟩ => h14 (by rw [q]; exact nI_lt hj (fc_31 _))⟩
set_option maxHeartbeats 4000000 in
set_option maxRecDepth 100000 in
theorem c_requireTable {l : Launch} {D : va_G} {cI cB cL : ClassId} {h : Nat → Nat} {σ : St} (hlt : l.stackTraces = false) {c : Nat} (hc : c < 24) : zMet l y_requireTable w_requireTable rm_requireTable D zCl (zTy cI cB cL) (wx h cI σ) [.ref (h 0), .int (nI c)] (qv0 (wx h cI σ) (σ 1 c = nI 2) (fun E => E = "java/lang/IllegalArgumentException" ∧ ¬ σ 1 c = nI 2)) 0 0 1 6 := by
  refine z_meth (by decide) rfl (Nat.le_of_ble_eq_true rfl) (fun p e s mm as bl me cd Z hr hnm ht => ?_)
  refine z_aload_n Z 0 d_requireTable_0 rfl rfl ?_
  refine xg_1 Z d_requireTable_1 ?_
  refine z_iload_n Z 1 d_requireTable_4 rfl rfl ?_
  refine xl_1 Z (by omega) d_requireTable_5 ?_
  refine z_iconst Z (nI 2) d_requireTable_6 zi_2 ?_
  refine z_icmp_eq Z 20 d_requireTable_7 (by decide) (fun h7 => ?_) (fun h7 => ?_)
  · refine z_rv0 Z hr d_requireTable_20 (by decide) (by decide) ?_
    exact h7
  · exact z_throw Z hlt (text := "no table") (names := zNames) (by decide +kernel) zNames_fit st_167 (at_IllegalArgumentException _) d_requireTable_10 d_requireTable_13 d_requireTable_14 d_requireTable_16 d_requireTable_19 (ht _) (by decide) (by decide) (by decide) (by decide) (by decide) (by decide) ⟨rfl, rfl, h7⟩
set_option maxHeartbeats 4000000 in
set_option maxRecDepth 100000 in
theorem c_requireRoot {l : Launch} {D : va_G} {cI cB cL : ClassId} {h : Nat → Nat} {σ : St} (hlt : l.stackTraces = false) {r : Int32} : zMet l y_requireRoot w_requireRoot rm_requireRoot D zCl (zTy cI cB cL) (wx h cI σ) [.ref (h 0), .int r] (qv0 (wx h cI σ) (∃ j, j < 6 ∧ r = nI j) (fun E => E = "java/lang/IndexOutOfBoundsException" ∧ ¬ (∃ j, j < 6 ∧ r = nI j))) 0 0 1 6 := by
  refine z_meth (by decide) rfl (Nat.le_of_ble_eq_true rfl) (fun p e s mm as bl me cd Z hr hnm ht => ?_)
  refine z_iload_n Z 1 d_requireRoot_0 rfl rfl ?_
  refine z_if_lt Z 10 d_requireRoot_1 (by decide) (fun h1 => ?_) (fun h1 => ?_)
  · exact z_throw Z hlt (text := "no such root") (names := zNames) (by decide +kernel) zNames_fit st_169 (at_IndexOutOfBoundsException _) d_requireRoot_10 d_requireRoot_13 d_requireRoot_14 d_requireRoot_16 d_requireRoot_19 (ht _) (by decide) (by decide) (by decide) (by decide) (by decide) (by decide) ⟨rfl, rfl, fun ⟨j, hj, q⟩ => nI_pos (by omega) (q ▸ h1)⟩
  · refine z_iload_n Z 1 d_requireRoot_4 rfl rfl ?_
    refine z_bipush Z (nI 6) d_requireRoot_5 zb_6 ?_
    refine z_icmp_lt Z 20 d_requireRoot_7 (by decide) (fun h7 => ?_) (fun h7 => ?_)
    · refine z_rv0 Z hr d_requireRoot_20 (by decide) (by decide) ?_
      exact inN h1 h7
    · exact z_throw Z hlt (text := "no such root") (names := zNames) (by decide +kernel) zNames_fit st_169 (at_IndexOutOfBoundsException _) d_requireRoot_10 d_requireRoot_13 d_requireRoot_14 d_requireRoot_16 d_requireRoot_19 (ht _) (by decide) (by decide) (by decide) (by decide) (by decide) (by decide) ⟨rfl, rfl, fun ⟨j, hj, q⟩ => h7 (by rw [q]; exact nI_lt hj (by decide))⟩
set_option maxHeartbeats 4000000 in
set_option maxRecDepth 100000 in
theorem c_leastFreeCell {l : Launch} {D : va_G} {cI cB cL : ClassId} {h : Nat → Nat} {σ : St}  : zMet l y_leastFreeCell w_leastFreeCell rm_leastFreeCell D zCl (zTy cI cB cL) (wx h cI σ) [.ref (h 0)] (qi0 (wx h cI σ) (fun v => (∃ c, c < 24 ∧ v = nI c ∧ bt (σ 0 0) c = false ∧ ∀ d, d < c → bt (σ 0 0) d = true) ∨ (v = -1 ∧ ∀ d, d < 24 → bt (σ 0 0) d = true)) noX) 0 0 0 0 := by
  refine z_meth (by decide) rfl (Nat.le_of_ble_eq_true rfl) (fun p e s mm as bl me cd Z hr hnm ht => ?_)
  refine z_iconst Z (nI 0) d_leastFreeCell_0 zi_0 ?_
  refine z_istore_n Z 1 d_leastFreeCell_1 rfl (by decide) rfl ?_
  refine z_lv (lv' := [(0, .ref (h 0)), (1, .int (nI 0))]) rfl ?_
  refine z_loop (fun i : Nat => i ≤ 24 ∧ ∀ d, d < i → bt (σ 0 0) d = true) (fun i => 24 - i) (fun _ => wx h cI σ) (fun i => [(0, .ref (h 0)), (1, .int (nI i))]) (fun i hi ih => ?_) 0 ⟨by omega, fun d hd => by omega⟩
  refine z_iload_n Z 1 d_leastFreeCell_2 rfl rfl ?_
  refine z_bipush Z (nI 24) d_leastFreeCell_3 zb_24 ?_
  refine z_icmpN_ge Z 27 d_leastFreeCell_5 (by decide) (by omega) (by omega) (fun h5 => ?_) (fun h5 => ?_)
  · refine z_iconst Z (-1) d_leastFreeCell_27 zi_m1 ?_
    refine z_ri0 Z hr rfl d_leastFreeCell_28 (by decide) (by decide) ?_
    exact Or.inr ⟨rfl, fun d hd => hi.2 d (by omega)⟩
  · refine z_aload_n Z 0 d_leastFreeCell_8 rfl rfl ?_
    refine xn_0 Z d_leastFreeCell_9 ?_
    refine z_iload_n Z 1 d_leastFreeCell_12 rfl rfl ?_
    refine z_S0 Z (c_contains (by omega)) (ok_contains _) rfl rfl ⟨by decide, by decide⟩ rfl rfl (Nat.le_of_ble_eq_true rfl) d_leastFreeCell_13 ⟨by decide, by decide⟩ (fun v13 h13 => ?_)
    refine z_if_ne Z 21 d_leastFreeCell_16 (by decide) (fun h16 => ?_) (fun h16 => ?_)
    · refine z_iincN Z 1 d_leastFreeCell_21 rfl (by decide) rfl ?_
      refine z_goto Z 2 d_leastFreeCell_24 (by decide) ?_
      exact z_lv rfl (ih (i + 1) ⟨by omega, fun d hd => by
          rcases Nat.lt_or_ge d i with q | q
          · exact hi.2 d q
          · rw [show d = i by omega]; exact zB1 h13 h16⟩ (by omega))
    · refine z_iload_n Z 1 d_leastFreeCell_19 rfl rfl ?_
      refine z_ri0 Z hr rfl d_leastFreeCell_20 (by decide) (by decide) ?_
      exact Or.inl ⟨i, by omega, rfl, zB0 h13 h16, hi.2⟩
