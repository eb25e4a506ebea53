/-! what the calls ask of their arguments -/
def isR (r : Int32) : Prop := ∃ j, j < 6 ∧ r = nI j
def isA (a : Int32) : Prop := ∃ i, i < 4 ∧ a = nI i
def isK (k : Int32) : Prop := ∃ i, i < 3 ∧ k = nI i
def isF (σ : St) (x f : Int32) : Prop := ∃ c j, c < 24 ∧ x = nI c ∧ j < fc (σ 1 c) ∧ f = nI j
def isTab (σ : St) (x : Int32) : Prop := ∃ c, c < 24 ∧ x = nI c ∧ σ 1 c = nI 2
theorem isF_nI {σ : St} {c : Nat} {f : Int32} (hc : c < 24) : isF σ (nI c) f ↔ ∃ j, j < fc (σ 1 c) ∧ f = nI j := by
  constructor
  · rintro ⟨d, j, hd, e, hj, q⟩
    rw [(nI_eq (by omega) (by omega)).mp e]; exact ⟨j, hj, q⟩
  · rintro ⟨j, hj, q⟩; exact ⟨c, j, hc, rfl, hj, q⟩
theorem isTab_nI {σ : St} {c : Nat} (hc : c < 24) : isTab σ (nI c) ↔ σ 1 c = nI 2 := by
  constructor
  · rintro ⟨d, hd, e, q⟩
    rw [(nI_eq (by omega) (by omega)).mp e]; exact q
  · intro q; exact ⟨c, hc, rfl, q⟩
theorem eo_none {n : Nat} {f : Nat → Int32} {k v : Int32} (h : (∃ i, i < n ∧ v = nI i ∧ f i = k ∧ ∀ j, j < i → f j ≠ k) ∨ (v = -1 ∧ ∀ j, j < n → f j ≠ k)) (e : v = -1) (hn : n ≤ 4 := by assumption) : ∀ j, j < n → f j ≠ k := by
  rcases h with ⟨i, hi, q, -⟩ | h
  · exact absurd (q.symm.trans e) (nI_m1 (by omega))
  · exact h.2
theorem eo_some {n : Nat} {f : Nat → Int32} {k v : Int32} (h : (∃ i, i < n ∧ v = nI i ∧ f i = k ∧ ∀ j, j < i → f j ≠ k) ∨ (v = -1 ∧ ∀ j, j < n → f j ≠ k)) (e : ¬ v = -1) : ∃ i, i < n ∧ v = nI i ∧ f i = k ∧ ∀ j, j < i → f j ≠ k := h.resolve_right (fun q => e q.1)
theorem inLe {x : Int32} {n : Nat} (h0 : ¬ x < 0) (h : x ≤ nI n) (hn : n < 2 ^ 31 := by decide) : ∃ j, j ≤ n ∧ x = nI j := by
  obtain ⟨j, hj, rfl⟩ := nI_of h0
  exact ⟨j, (nI_leI hj hn).mp h, rfl⟩
theorem isK_of {k : Int32} (h0 : ¬ k < 0) (h : k ≤ nI 2) : isK k := by
  obtain ⟨j, hj, e⟩ := inLe h0 h
  exact ⟨j, by omega, e⟩
theorem nI_z {w : Nat} (h : w ≤ 24) (e : nI w = 0) : w = 0 := (nI_eq (by omega) (by decide)).mp e
def lf (σ : St) (c : Nat) : Prop := c < 24 ∧ bt (σ 0 0) c = false ∧ ∀ d, d < c → bt (σ 0 0) d = true
def full (σ : St) : Prop := ∀ d, d < 24 → bt (σ 0 0) d = true
theorem lf_some {σ : St} {v : Int32} (h : (∃ c, c < 24 ∧ v = nI c ∧ bt (σ 0 0) c = false ∧ ∀ d, d < c → bt (σ 0 0) d = true) ∨ (v = -1 ∧ ∀ d, d < 24 → bt (σ 0 0) d = true)) (e : ¬ v = -1) : ∃ c, lf σ c ∧ v = nI c := by
  obtain ⟨c, h1, h2, h3⟩ := h.resolve_right (fun q => e q.1)
  exact ⟨c, ⟨h1, h3⟩, h2⟩
theorem lf_none {σ : St} {v : Int32} (h : (∃ c, c < 24 ∧ v = nI c ∧ bt (σ 0 0) c = false ∧ ∀ d, d < c → bt (σ 0 0) d = true) ∨ (v = -1 ∧ ∀ d, d < 24 → bt (σ 0 0) d = true)) (e : v = -1) : full σ := by
  rcases h with ⟨c, h1, h2, -⟩ | h
  · exact absurd (h2.symm.trans e) (nI_m1 (by omega))
  · exact h.2
def grd (σ : St) (c : Nat) (a r : Int32) : St := va_up (va_up (va_up σ 7 (upd (σ 7) c (nI 1))) 8 (upd (σ 8) c a)) 9 (upd (σ 9) c r)
theorem wf_run {σ : St} {w c : Nat} {x : Int32} (hw : wf σ) (hl : w < 24) : wf (va_up (deq σ w) 7 (upd (σ 7) c x)) := by
  obtain ⟨h1, h2, h3, h4, h5, h6, h7, h8⟩ := hw
  refine ⟨h1, h2, h3, h4, h5, h6, fun j hj => ?_, w, by omega, rfl⟩
  show cl24 (shq (σ 11) w j)
  unfold shq
  split
  · exact h7 (j + 1) (by omega)
  · exact h7 j hj
set_option maxHeartbeats 4000000 in
set_option maxRecDepth 100000 in
theorem c_queued {l : Launch} {D : va_G} {cI cB cL : ClassId} {h : Nat → Nat} {σ : St}  : zMet l y_queued w_queued rm_queued D zCl (zTy cI cB cL) (wx h cI σ) [.ref (h 0)] (qi0 (wx h cI σ) (fun v => v = σ 0 1) noX) 0 0 0 0 := by
  refine z_meth (by decide) rfl (Nat.le_of_ble_eq_true rfl) (fun p e s mm as bl me cd Z hr hnm ht => ?_)
  refine z_aload_n Z 0 d_queued_0 rfl rfl ?_
  refine xn_1 Z d_queued_1 ?_
  refine z_ri0 Z hr rfl d_queued_4 (by decide) (by decide) ?_
  rfl
set_option maxHeartbeats 4000000 in
set_option maxRecDepth 100000 in
theorem c_used {l : Launch} {D : va_G} {cI cB cL : ClassId} {h : Nat → Nat} {σ : St}  : zMet l y_used w_used rm_used D zCl (zTy cI cB cL) (wx h cI σ) [.ref (h 0)] (qi0 (wx h cI σ) (fun v => v = σ 0 0) noX) 0 0 0 0 := by
  refine z_meth (by decide) rfl (Nat.le_of_ble_eq_true rfl) (fun p e s mm as bl me cd Z hr hnm ht => ?_)
  refine z_aload_n Z 0 d_used_0 rfl rfl ?_
  refine xn_0 Z d_used_1 ?_
  refine z_ri0 Z hr rfl d_used_4 (by decide) (by decide) ?_
  rfl
set_option maxHeartbeats 4000000 in
set_option maxRecDepth 100000 in
theorem c_collections {l : Launch} {D : va_G} {cI cB cL : ClassId} {h : Nat → Nat} {σ : St}  : zMet l y_collections w_collections rm_collections D zCl (zTy cI cB cL) (wx h cI σ) [.ref (h 0)] (qi0 (wx h cI σ) (fun v => v = σ 0 3) noX) 0 0 0 0 := by
  refine z_meth (by decide) rfl (Nat.le_of_ble_eq_true rfl) (fun p e s mm as bl me cd Z hr hnm ht => ?_)
  refine z_aload_n Z 0 d_collections_0 rfl rfl ?_
  refine xn_3 Z d_collections_1 ?_
  refine z_ri0 Z hr rfl d_collections_4 (by decide) (by decide) ?_
  rfl
set_option maxHeartbeats 4000000 in
set_option maxRecDepth 100000 in
theorem c_kind {l : Launch} {D : va_G} {cI cB cL : ClassId} {h : Nat → Nat} {σ : St} (hlt : l.stackTraces = false) {x : Int32} : zMet l y_kind w_kind rm_kind D zCl (zTy cI cB cL) (wx h cI σ) [.ref (h 0), .int x] (qi0 (wx h cI σ) (fun v => ∃ c, c < 24 ∧ x = nI c ∧ bt (σ 0 0) c = true ∧ v = σ 1 c + nI 4 * σ 7 c) (fun E => E = "java/util/NoSuchElementException" ∧ ¬ isT σ x)) 0 0 1 6 := by
  refine z_meth (by decide) rfl (Nat.le_of_ble_eq_true rfl) (fun p e s mm as bl me cd Z hr hnm ht => ?_)
  refine z_aload_n Z 0 d_kind_0 rfl rfl ?_
  refine z_iload_n Z 1 d_kind_1 rfl rfl ?_
  refine z_Wv0 Z (c_requireThing hlt) (ok_requireThing _) rfl rfl ⟨by decide, by decide⟩ rfl rfl rfl rfl (Nat.le_of_ble_eq_true rfl) d_kind_2 ⟨by decide, by decide⟩ (fun E h => z_out Z (ht _) (by decide) (by decide) ⟨rfl, h⟩) (fun h2 => ?_)
  obtain ⟨c, hc, rfl, hb⟩ := h2
  refine z_aload_n Z 0 d_kind_5 rfl rfl ?_
  refine xg_1 Z d_kind_6 ?_
  refine z_iload_n Z 1 d_kind_9 rfl rfl ?_
  refine xl_1 Z (by omega) d_kind_10 ?_
  refine z_iconst Z (nI 4) d_kind_11 zi_4 ?_
  refine z_aload_n Z 0 d_kind_12 rfl rfl ?_
  refine xg_7 Z d_kind_13 ?_
  refine z_iload_n Z 1 d_kind_16 rfl rfl ?_
  refine xl_7 Z (by omega) d_kind_17 ?_
  refine z_imul Z d_kind_18 ?_
  refine z_iadd Z d_kind_19 ?_
  refine z_ri0 Z hr rfl d_kind_20 (by decide) (by decide) ?_
  exact ⟨c, hc, rfl, hb, rfl⟩
set_option maxHeartbeats 4000000 in
set_option maxRecDepth 100000 in
theorem c_serial {l : Launch} {D : va_G} {cI cB cL : ClassId} {h : Nat → Nat} {σ : St} (hlt : l.stackTraces = false) {x : Int32} : zMet l y_serial w_serial rm_serial D zCl (zTy cI cB cL) (wx h cI σ) [.ref (h 0), .int x] (qi0 (wx h cI σ) (fun v => ∃ c, c < 24 ∧ x = nI c ∧ bt (σ 0 0) c = true ∧ v = σ 2 c) (fun E => E = "java/util/NoSuchElementException" ∧ ¬ isT σ x)) 0 0 1 6 := by
  refine z_meth (by decide) rfl (Nat.le_of_ble_eq_true rfl) (fun p e s mm as bl me cd Z hr hnm ht => ?_)
  refine z_aload_n Z 0 d_serial_0 rfl rfl ?_
  refine z_iload_n Z 1 d_serial_1 rfl rfl ?_
  refine z_Wv0 Z (c_requireThing hlt) (ok_requireThing _) rfl rfl ⟨by decide, by decide⟩ rfl rfl rfl rfl (Nat.le_of_ble_eq_true rfl) d_serial_2 ⟨by decide, by decide⟩ (fun E h => z_out Z (ht _) (by decide) (by decide) ⟨rfl, h⟩) (fun h2 => ?_)
  obtain ⟨c, hc, rfl, hb⟩ := h2
  refine z_aload_n Z 0 d_serial_5 rfl rfl ?_
  refine xg_2 Z d_serial_6 ?_
  refine z_iload_n Z 1 d_serial_9 rfl rfl ?_
  refine xl_2 Z (by omega) d_serial_10 ?_
  refine z_ri0 Z hr rfl d_serial_11 (by decide) (by decide) ?_
  exact ⟨c, hc, rfl, hb, rfl⟩
set_option maxHeartbeats 4000000 in
set_option maxRecDepth 100000 in
theorem c_rootAt {l : Launch} {D : va_G} {cI cB cL : ClassId} {h : Nat → Nat} {σ : St} (hlt : l.stackTraces = false) {r : Int32} : zMet l y_rootAt w_rootAt rm_rootAt D zCl (zTy cI cB cL) (wx h cI σ) [.ref (h 0), .int r] (qi0 (wx h cI σ) (fun v => ∃ j, j < 6 ∧ r = nI j ∧ v = σ 10 j) (fun E => E = "java/lang/IndexOutOfBoundsException" ∧ ¬ isR r)) 0 0 1 6 := by
  refine z_meth (by decide) rfl (Nat.le_of_ble_eq_true rfl) (fun p e s mm as bl me cd Z hr hnm ht => ?_)
  refine z_aload_n Z 0 d_rootAt_0 rfl rfl ?_
  refine z_iload_n Z 1 d_rootAt_1 rfl rfl ?_
  refine z_Wv0 Z (c_requireRoot hlt) (ok_requireRoot _) rfl rfl ⟨by decide, by decide⟩ rfl rfl rfl rfl (Nat.le_of_ble_eq_true rfl) d_rootAt_2 ⟨by decide, by decide⟩ (fun E h => z_out Z (ht _) (by decide) (by decide) ⟨rfl, h⟩) (fun h2 => ?_)
  obtain ⟨j, hj, rfl⟩ := h2
  refine z_aload_n Z 0 d_rootAt_5 rfl rfl ?_
  refine xg_10 Z d_rootAt_6 ?_
  refine z_iload_n Z 1 d_rootAt_9 rfl rfl ?_
  refine xl_10 Z (by omega) d_rootAt_10 ?_
  refine z_ri0 Z hr rfl d_rootAt_11 (by decide) (by decide) ?_
  exact ⟨j, hj, rfl, rfl⟩
set_option maxHeartbeats 4000000 in
set_option maxRecDepth 100000 in
theorem c_root {l : Launch} {D : va_G} {cI cB cL : ClassId} {h : Nat → Nat} {σ : St} (hlt : l.stackTraces = false) {r x : Int32} : zMet l y_root w_root rm_root D zCl (zTy cI cB cL) (wx h cI σ) [.ref (h 0), .int r, .int x] (qv (wx h cI) (fun u => ∃ j, j < 6 ∧ r = nI j ∧ (x = -1 ∨ isT σ x) ∧ u = va_up σ 10 (upd (σ 10) j x)) (fun E u => u = σ ∧ ((E = "java/lang/IndexOutOfBoundsException" ∧ ¬ isR r) ∨ (E = "java/util/NoSuchElementException" ∧ isR r ∧ ¬ (x = -1 ∨ isT σ x))))) 0 0 1 6 := by
  refine z_meth (by decide) rfl (Nat.le_of_ble_eq_true rfl) (fun p e s mm as bl me cd Z hr hnm ht => ?_)
  refine z_aload_n Z 0 d_root_0 rfl rfl ?_
  refine z_iload_n Z 1 d_root_1 rfl rfl ?_
  refine z_Wv0 Z (c_requireRoot hlt) (ok_requireRoot _) rfl rfl ⟨by decide, by decide⟩ rfl rfl rfl rfl (Nat.le_of_ble_eq_true rfl) d_root_2 ⟨by decide, by decide⟩ (fun E h => z_out Z (ht _) (by decide) (by decide) ⟨σ, rfl, rfl, Or.inl h⟩) (fun h2 => ?_)
  obtain ⟨j, hj, rfl⟩ := h2
  refine z_aload_n Z 0 d_root_5 rfl rfl ?_
  refine z_iload_n Z 2 d_root_6 rfl rfl ?_
  refine z_Wv0 Z (c_requireThingOrNone hlt) (ok_requireThingOrNone _) rfl rfl ⟨by decide, by decide⟩ rfl rfl rfl rfl (Nat.le_of_ble_eq_true rfl) d_root_7 ⟨by decide, by decide⟩ (fun E h => z_out Z (ht _) (by decide) (by decide) ⟨σ, rfl, rfl, Or.inr ⟨h.1, ⟨j, hj, rfl⟩, h.2⟩⟩) (fun h7 => ?_)
  refine z_aload_n Z 0 d_root_10 rfl rfl ?_
  refine xg_10 Z d_root_11 ?_
  refine z_iload_n Z 1 d_root_14 rfl rfl ?_
  refine z_iload_n Z 2 d_root_15 rfl rfl ?_
  refine xs_10 Z (by omega) d_root_16 ?_
  refine z_rv Z _ hr d_root_17 (by decide) (by decide) rfl ?_
  exact ⟨j, hj, rfl, h7, rfl⟩
set_option maxHeartbeats 4000000 in
set_option maxRecDepth 100000 in
theorem c_get {l : Launch} {D : va_G} {cI cB cL : ClassId} {h : Nat → Nat} {σ : St} (hlt : l.stackTraces = false) {x f : Int32} : zMet l y_get w_get rm_get D zCl (zTy cI cB cL) (wx h cI σ) [.ref (h 0), .int x, .int f] (qi0 (wx h cI σ) (fun v => ∃ c j, c < 24 ∧ x = nI c ∧ bt (σ 0 0) c = true ∧ j < fc (σ 1 c) ∧ f = nI j ∧ v = σ 3 (c * 3 + j)) (fun E => (E = "java/util/NoSuchElementException" ∧ ¬ isT σ x) ∨ (E = "java/lang/IllegalArgumentException" ∧ isT σ x ∧ ¬ isF σ x f))) 0 0 1 6 := by
  refine z_meth (by decide) rfl (Nat.le_of_ble_eq_true rfl) (fun p e s mm as bl me cd Z hr hnm ht => ?_)
  refine z_aload_n Z 0 d_get_0 rfl rfl ?_
  refine z_iload_n Z 1 d_get_1 rfl rfl ?_
  refine z_Wv0 Z (c_requireThing hlt) (ok_requireThing _) rfl rfl ⟨by decide, by decide⟩ rfl rfl rfl rfl (Nat.le_of_ble_eq_true rfl) d_get_2 ⟨by decide, by decide⟩ (fun E h => z_out Z (ht _) (by decide) (by decide) ⟨rfl, Or.inl h⟩) (fun h2 => ?_)
  obtain ⟨c, hc, rfl, hb⟩ := h2
  refine z_aload_n Z 0 d_get_5 rfl rfl ?_
  refine z_iload_n Z 1 d_get_6 rfl rfl ?_
  refine z_iload_n Z 2 d_get_7 rfl rfl ?_
  refine z_Wv0 Z (c_requireField hlt hc) (ok_requireField _) rfl rfl ⟨by decide, by decide⟩ rfl rfl rfl rfl (Nat.le_of_ble_eq_true rfl) d_get_8 ⟨by decide, by decide⟩ (fun E h => z_out Z (ht _) (by decide) (by decide) ⟨rfl, Or.inr ⟨h.1, (isT_nI hc).mpr hb, fun q => h.2 ((isF_nI hc).mp q)⟩⟩) (fun h8 => ?_)
  obtain ⟨j, hj, rfl⟩ := h8
  have hj3 := fc_le (σ 1 c)
  refine z_aload_n Z 0 d_get_11 rfl rfl ?_
  refine xg_3 Z d_get_12 ?_
  refine z_iload_n Z 1 d_get_15 rfl rfl ?_
  refine z_iload_n Z 2 d_get_16 rfl rfl ?_
  refine z_S0 Z (c_fieldSlot ) (ok_fieldSlot _) rfl rfl ⟨by decide, by decide⟩ rfl rfl (Nat.le_of_ble_eq_true rfl) d_get_17 ⟨by decide, by decide⟩ (fun v17 h17 => ?_)
  subst h17
  refine xl_3 Z (by omega) d_get_20 ?_
  refine z_ri0 Z hr rfl d_get_21 (by decide) (by decide) ?_
  exact ⟨c, j, hc, rfl, hb, hj, rfl, rfl⟩
set_option maxHeartbeats 4000000 in
set_option maxRecDepth 100000 in
theorem c_set {l : Launch} {D : va_G} {cI cB cL : ClassId} {h : Nat → Nat} {σ : St} (hlt : l.stackTraces = false) {x f t : Int32} : zMet l y_set w_set rm_set D zCl (zTy cI cB cL) (wx h cI σ) [.ref (h 0), .int x, .int f, .int t] (qv (wx h cI) (fun u => ∃ c j, c < 24 ∧ x = nI c ∧ bt (σ 0 0) c = true ∧ (t = -1 ∨ isT σ t) ∧ j < fc (σ 1 c) ∧ f = nI j ∧ u = va_up σ 3 (upd (σ 3) (c * 3 + j) t)) (fun E u => u = σ ∧ ((E = "java/util/NoSuchElementException" ∧ ¬ (isT σ x ∧ (t = -1 ∨ isT σ t))) ∨ (E = "java/lang/IllegalArgumentException" ∧ (isT σ x ∧ (t = -1 ∨ isT σ t)) ∧ ¬ isF σ x f)))) 0 0 1 6 := by
  refine z_meth (by decide) rfl (Nat.le_of_ble_eq_true rfl) (fun p e s mm as bl me cd Z hr hnm ht => ?_)
  refine z_aload_n Z 0 d_set_0 rfl rfl ?_
  refine z_iload_n Z 1 d_set_1 rfl rfl ?_
  refine z_Wv0 Z (c_requireThing hlt) (ok_requireThing _) rfl rfl ⟨by decide, by decide⟩ rfl rfl rfl rfl (Nat.le_of_ble_eq_true rfl) d_set_2 ⟨by decide, by decide⟩ (fun E h => z_out Z (ht _) (by decide) (by decide) ⟨σ, rfl, rfl, Or.inl ⟨h.1, fun q => h.2 q.1⟩⟩) (fun h2 => ?_)
  obtain ⟨c, hc, rfl, hb⟩ := h2
  refine z_aload_n Z 0 d_set_5 rfl rfl ?_
  refine z_iload_n Z 3 d_set_6 rfl rfl ?_
  refine z_Wv0 Z (c_requireThingOrNone hlt) (ok_requireThingOrNone _) rfl rfl ⟨by decide, by decide⟩ rfl rfl rfl rfl (Nat.le_of_ble_eq_true rfl) d_set_7 ⟨by decide, by decide⟩ (fun E h => z_out Z (ht _) (by decide) (by decide) ⟨σ, rfl, rfl, Or.inl ⟨h.1, fun q => h.2 q.2⟩⟩) (fun h7 => ?_)
  refine z_aload_n Z 0 d_set_10 rfl rfl ?_
  refine z_iload_n Z 1 d_set_11 rfl rfl ?_
  refine z_iload_n Z 2 d_set_12 rfl rfl ?_
  refine z_Wv0 Z (c_requireField hlt hc) (ok_requireField _) rfl rfl ⟨by decide, by decide⟩ rfl rfl rfl rfl (Nat.le_of_ble_eq_true rfl) d_set_13 ⟨by decide, by decide⟩ (fun E h => z_out Z (ht _) (by decide) (by decide) ⟨σ, rfl, rfl, Or.inr ⟨h.1, ⟨(isT_nI hc).mpr hb, h7⟩, fun q => h.2 ((isF_nI hc).mp q)⟩⟩) (fun h13 => ?_)
  obtain ⟨j, hj, rfl⟩ := h13
  have hj3 := fc_le (σ 1 c)
  refine z_aload_n Z 0 d_set_16 rfl rfl ?_
  refine xg_3 Z d_set_17 ?_
  refine z_iload_n Z 1 d_set_20 rfl rfl ?_
  refine z_iload_n Z 2 d_set_21 rfl rfl ?_
  refine z_S0 Z (c_fieldSlot ) (ok_fieldSlot _) rfl rfl ⟨by decide, by decide⟩ rfl rfl (Nat.le_of_ble_eq_true rfl) d_set_22 ⟨by decide, by decide⟩ (fun v22 h22 => ?_)
  subst h22
  refine z_iload_n Z 3 d_set_25 rfl rfl ?_
  refine xs_3 Z (by omega) d_set_26 ?_
  refine z_rv Z _ hr d_set_27 (by decide) (by decide) rfl ?_
  exact ⟨c, j, hc, rfl, hb, h7, hj, rfl, rfl⟩
set_option maxHeartbeats 4000000 in
set_option maxRecDepth 100000 in
theorem c_find {l : Launch} {D : va_G} {cI cB cL : ClassId} {h : Nat → Nat} {σ : St} (hlt : l.stackTraces = false) (hw : wf σ) {x k : Int32} : zMet l y_find w_find rm_find D zCl (zTy cI cB cL) (wx h cI σ) [.ref (h 0), .int x, .int k] (qi0 (wx h cI σ) (fun v => ∃ c, c < 24 ∧ x = nI c ∧ bt (σ 0 0) c = true ∧ isT σ k ∧ σ 1 c = nI 2 ∧ ((∃ i, i < cnt σ c ∧ σ 4 (c * 4 + i) = k ∧ v = σ 5 (c * 4 + i)) ∨ ((∀ j, j < cnt σ c → σ 4 (c * 4 + j) ≠ k) ∧ v = -1))) (fun E => (E = "java/util/NoSuchElementException" ∧ ¬ (isT σ x ∧ isT σ k)) ∨ (E = "java/lang/IllegalArgumentException" ∧ (isT σ x ∧ isT σ k) ∧ ¬ isTab σ x))) 0 0 1 6 := by
  refine z_meth (by decide) rfl (Nat.le_of_ble_eq_true rfl) (fun p e s mm as bl me cd Z hr hnm ht => ?_)
  refine z_aload_n Z 0 d_find_0 rfl rfl ?_
  refine z_iload_n Z 1 d_find_1 rfl rfl ?_
  refine z_Wv0 Z (c_requireThing hlt) (ok_requireThing _) rfl rfl ⟨by decide, by decide⟩ rfl rfl rfl rfl (Nat.le_of_ble_eq_true rfl) d_find_2 ⟨by decide, by decide⟩ (fun E h => z_out Z (ht _) (by decide) (by decide) ⟨rfl, Or.inl ⟨h.1, fun q => h.2 q.1⟩⟩) (fun h2 => ?_)
  obtain ⟨c, hc, rfl, hb⟩ := h2
  have e6 : σ 6 c = nI (cnt σ c) := (wf_cnt hw hc).2
  have n6 : cnt σ c ≤ 4 := (wf_cnt hw hc).1
  refine z_aload_n Z 0 d_find_5 rfl rfl ?_
  refine z_iload_n Z 2 d_find_6 rfl rfl ?_
  refine z_Wv0 Z (c_requireThing hlt) (ok_requireThing _) rfl rfl ⟨by decide, by decide⟩ rfl rfl rfl rfl (Nat.le_of_ble_eq_true rfl) d_find_7 ⟨by decide, by decide⟩ (fun E h => z_out Z (ht _) (by decide) (by decide) ⟨rfl, Or.inl ⟨h.1, fun q => h.2 q.2⟩⟩) (fun h7 => ?_)
  refine z_aload_n Z 0 d_find_10 rfl rfl ?_
  refine z_iload_n Z 1 d_find_11 rfl rfl ?_
  refine z_Wv0 Z (c_requireTable hlt hc) (ok_requireTable _) rfl rfl ⟨by decide, by decide⟩ rfl rfl rfl rfl (Nat.le_of_ble_eq_true rfl) d_find_12 ⟨by decide, by decide⟩ (fun E h => z_out Z (ht _) (by decide) (by decide) ⟨rfl, Or.inr ⟨h.1, ⟨(isT_nI hc).mpr hb, h7⟩, fun q => h.2 ((isTab_nI hc).mp q)⟩⟩) (fun h12 => ?_)
  refine z_aload_n Z 0 d_find_15 rfl rfl ?_
  refine z_iload_n Z 1 d_find_16 rfl rfl ?_
  refine z_iload_n Z 2 d_find_17 rfl rfl ?_
  refine z_Wi0 Z (c_entryOf hw hc) (ok_entryOf _) rfl rfl ⟨by decide, by decide⟩ rfl rfl rfl rfl (Nat.le_of_ble_eq_true rfl) d_find_18 ⟨by decide, by decide⟩ (fun E h => h.elim) (fun v18 h18 => ?_)
  refine z_istore_n Z 3 d_find_21 rfl (by decide) rfl ?_
  refine z_iload_n Z 3 d_find_22 rfl rfl ?_
  refine z_iconst Z (-1) d_find_23 zi_m1 ?_
  refine z_icmp_ne Z 31 d_find_24 (by decide) (fun h24 => ?_) (fun h24 => ?_)
  · obtain ⟨i, hi, rfl, ek, -⟩ := eo_some h18 h24
    refine z_aload_n Z 0 d_find_31 rfl rfl ?_
    refine xg_5 Z d_find_32 ?_
    refine z_iload_n Z 1 d_find_35 rfl rfl ?_
    refine z_iload_n Z 3 d_find_36 rfl rfl ?_
    refine z_S0 Z (c_entrySlot ) (ok_entrySlot _) rfl rfl ⟨by decide, by decide⟩ rfl rfl (Nat.le_of_ble_eq_true rfl) d_find_37 ⟨by decide, by decide⟩ (fun v37 h37 => ?_)
    subst h37
    refine xl_5 Z (by omega) d_find_40 ?_
    refine z_ri0 Z hr rfl d_find_41 (by decide) (by decide) ?_
    exact ⟨c, hc, rfl, hb, h7, h12, Or.inl ⟨i, hi, ek, rfl⟩⟩
  · refine z_iconst Z (-1) d_find_27 zi_m1 ?_
    refine z_goto Z 41 d_find_28 (by decide) ?_
    refine z_ri0 Z hr rfl d_find_41 (by decide) (by decide) ?_
    exact ⟨c, hc, rfl, hb, h7, h12, Or.inr ⟨(eo_none h18 h24), rfl⟩⟩
set_option maxHeartbeats 4000000 in
set_option maxRecDepth 100000 in
theorem c_remove {l : Launch} {D : va_G} {cI cB cL : ClassId} {h : Nat → Nat} {σ : St} (hlt : l.stackTraces = false) (hw : wf σ) {x k : Int32} : zMet l y_remove w_remove rm_remove D zCl (zTy cI cB cL) (wx h cI σ) [.ref (h 0), .int x, .int k] (qi (wx h cI) (fun v u => ∃ c, c < 24 ∧ x = nI c ∧ bt (σ 0 0) c = true ∧ isT σ k ∧ σ 1 c = nI 2 ∧ ((∃ i, i < cnt σ c ∧ σ 4 (c * 4 + i) = k ∧ v = nI 1 ∧ u = drp σ c i) ∨ ((∀ j, j < cnt σ c → σ 4 (c * 4 + j) ≠ k) ∧ v = nI 0 ∧ u = σ))) (fun E u => u = σ ∧ ((E = "java/util/NoSuchElementException" ∧ ¬ (isT σ x ∧ isT σ k)) ∨ (E = "java/lang/IllegalArgumentException" ∧ (isT σ x ∧ isT σ k) ∧ ¬ isTab σ x)))) 0 0 1 6 := by
  refine z_meth (by decide) rfl (Nat.le_of_ble_eq_true rfl) (fun p e s mm as bl me cd Z hr hnm ht => ?_)
  refine z_aload_n Z 0 d_remove_0 rfl rfl ?_
  refine z_iload_n Z 1 d_remove_1 rfl rfl ?_
  refine z_Wv0 Z (c_requireThing hlt) (ok_requireThing _) rfl rfl ⟨by decide, by decide⟩ rfl rfl rfl rfl (Nat.le_of_ble_eq_true rfl) d_remove_2 ⟨by decide, by decide⟩ (fun E h => z_out Z (ht _) (by decide) (by decide) ⟨σ, rfl, rfl, Or.inl ⟨h.1, fun q => h.2 q.1⟩⟩) (fun h2 => ?_)
  obtain ⟨c, hc, rfl, hb⟩ := h2
  have e6 : σ 6 c = nI (cnt σ c) := (wf_cnt hw hc).2
  have n6 : cnt σ c ≤ 4 := (wf_cnt hw hc).1
  refine z_aload_n Z 0 d_remove_5 rfl rfl ?_
  refine z_iload_n Z 2 d_remove_6 rfl rfl ?_
  refine z_Wv0 Z (c_requireThing hlt) (ok_requireThing _) rfl rfl ⟨by decide, by decide⟩ rfl rfl rfl rfl (Nat.le_of_ble_eq_true rfl) d_remove_7 ⟨by decide, by decide⟩ (fun E h => z_out Z (ht _) (by decide) (by decide) ⟨σ, rfl, rfl, Or.inl ⟨h.1, fun q => h.2 q.2⟩⟩) (fun h7 => ?_)
  refine z_aload_n Z 0 d_remove_10 rfl rfl ?_
  refine z_iload_n Z 1 d_remove_11 rfl rfl ?_
  refine z_Wv0 Z (c_requireTable hlt hc) (ok_requireTable _) rfl rfl ⟨by decide, by decide⟩ rfl rfl rfl rfl (Nat.le_of_ble_eq_true rfl) d_remove_12 ⟨by decide, by decide⟩ (fun E h => z_out Z (ht _) (by decide) (by decide) ⟨σ, rfl, rfl, Or.inr ⟨h.1, ⟨(isT_nI hc).mpr hb, h7⟩, fun q => h.2 ((isTab_nI hc).mp q)⟩⟩) (fun h12 => ?_)
  refine z_aload_n Z 0 d_remove_15 rfl rfl ?_
  refine z_iload_n Z 1 d_remove_16 rfl rfl ?_
  refine z_iload_n Z 2 d_remove_17 rfl rfl ?_
  refine z_Wi0 Z (c_entryOf hw hc) (ok_entryOf _) rfl rfl ⟨by decide, by decide⟩ rfl rfl rfl rfl (Nat.le_of_ble_eq_true rfl) d_remove_18 ⟨by decide, by decide⟩ (fun E h => h.elim) (fun v18 h18 => ?_)
  refine z_istore_n Z 3 d_remove_21 rfl (by decide) rfl ?_
  refine z_iload_n Z 3 d_remove_22 rfl rfl ?_
  refine z_iconst Z (-1) d_remove_23 zi_m1 ?_
  refine z_icmp_ne Z 29 d_remove_24 (by decide) (fun h24 => ?_) (fun h24 => ?_)
  · obtain ⟨i, hi, rfl, ek, -⟩ := eo_some h18 h24
    refine z_aload_n Z 0 d_remove_29 rfl rfl ?_
    refine z_iload_n Z 1 d_remove_30 rfl rfl ?_
    refine z_iload_n Z 3 d_remove_31 rfl rfl ?_
    refine z_Wv Z (c_dropEntry hw hc hi) (ok_dropEntry _) rfl rfl ⟨by decide, by decide⟩ rfl rfl rfl rfl (Nat.le_of_ble_eq_true rfl) d_remove_32 ⟨by decide, by decide⟩ (fun E u h => h.elim) (fun u32 h32 => ?_)
    subst h32
    refine z_iconst Z (nI 1) d_remove_35 zi_1 ?_
    refine z_ri Z _ hr rfl d_remove_36 (by decide) (by decide) rfl ?_
    exact ⟨c, hc, rfl, hb, h7, h12, Or.inl ⟨i, hi, ek, rfl, rfl⟩⟩
  · refine z_iconst Z (nI 0) d_remove_27 zi_0 ?_
    refine z_ri Z _ hr rfl d_remove_28 (by decide) (by decide) rfl ?_
    exact ⟨c, hc, rfl, hb, h7, h12, Or.inr ⟨(eo_none h18 h24), rfl, rfl⟩⟩
set_option maxHeartbeats 4000000 in
set_option maxRecDepth 100000 in
theorem c_put {l : Launch} {D : va_G} {cI cB cL : ClassId} {h : Nat → Nat} {σ : St} (hlt : l.stackTraces = false) (hw : wf σ) {x k v : Int32} : zMet l y_put w_put rm_put D zCl (zTy cI cB cL) (wx h cI σ) [.ref (h 0), .int x, .int k, .int v] (qi (wx h cI) (fun r u => ∃ c, c < 24 ∧ x = nI c ∧ bt (σ 0 0) c = true ∧ isT σ k ∧ isT σ v ∧ σ 1 c = nI 2 ∧ ((∃ i, i < cnt σ c ∧ σ 4 (c * 4 + i) = k ∧ r = nI 0 ∧ u = va_up σ 5 (upd (σ 5) (c * 4 + i) v)) ∨ ((∀ j, j < cnt σ c → σ 4 (c * 4 + j) ≠ k) ∧ cnt σ c < 4 ∧ r = nI 1 ∧ u = apd σ c k v))) (fun E u => u = σ ∧ ((E = "java/util/NoSuchElementException" ∧ ¬ (isT σ x ∧ isT σ k ∧ isT σ v)) ∨ (E = "java/lang/IllegalArgumentException" ∧ (isT σ x ∧ isT σ k ∧ isT σ v) ∧ ¬ isTab σ x) ∨ (E = "java/lang/IllegalStateException" ∧ (isT σ x ∧ isT σ k ∧ isT σ v) ∧ ∃ c, c < 24 ∧ x = nI c ∧ σ 1 c = nI 2 ∧ cnt σ c = 4 ∧ ∀ j, j < cnt σ c → σ 4 (c * 4 + j) ≠ k)))) 0 0 1 6 := by
  refine z_meth (by decide) rfl (Nat.le_of_ble_eq_true rfl) (fun p e s mm as bl me cd Z hr hnm ht => ?_)
  refine z_aload_n Z 0 d_put_0 rfl rfl ?_
  refine z_iload_n Z 1 d_put_1 rfl rfl ?_
  refine z_Wv0 Z (c_requireThing hlt) (ok_requireThing _) rfl rfl ⟨by decide, by decide⟩ rfl rfl rfl rfl (Nat.le_of_ble_eq_true rfl) d_put_2 ⟨by decide, by decide⟩ (fun E h => z_out Z (ht _) (by decide) (by decide) ⟨σ, rfl, rfl, Or.inl ⟨h.1, fun q => h.2 q.1⟩⟩) (fun h2 => ?_)
  obtain ⟨c, hc, rfl, hb⟩ := h2
  have e6 : σ 6 c = nI (cnt σ c) := (wf_cnt hw hc).2
  have n6 : cnt σ c ≤ 4 := (wf_cnt hw hc).1
  refine z_aload_n Z 0 d_put_5 rfl rfl ?_
  refine z_iload_n Z 2 d_put_6 rfl rfl ?_
  refine z_Wv0 Z (c_requireThing hlt) (ok_requireThing _) rfl rfl ⟨by decide, by decide⟩ rfl rfl rfl rfl (Nat.le_of_ble_eq_true rfl) d_put_7 ⟨by decide, by decide⟩ (fun E h => z_out Z (ht _) (by decide) (by decide) ⟨σ, rfl, rfl, Or.inl ⟨h.1, fun q => h.2 q.2.1⟩⟩) (fun h7 => ?_)
  refine z_aload_n Z 0 d_put_10 rfl rfl ?_
  refine z_iload_n Z 3 d_put_11 rfl rfl ?_
  refine z_Wv0 Z (c_requireThing hlt) (ok_requireThing _) rfl rfl ⟨by decide, by decide⟩ rfl rfl rfl rfl (Nat.le_of_ble_eq_true rfl) d_put_12 ⟨by decide, by decide⟩ (fun E h => z_out Z (ht _) (by decide) (by decide) ⟨σ, rfl, rfl, Or.inl ⟨h.1, fun q => h.2 q.2.2⟩⟩) (fun h12 => ?_)
  refine z_aload_n Z 0 d_put_15 rfl rfl ?_
  refine z_iload_n Z 1 d_put_16 rfl rfl ?_
  refine z_Wv0 Z (c_requireTable hlt hc) (ok_requireTable _) rfl rfl ⟨by decide, by decide⟩ rfl rfl rfl rfl (Nat.le_of_ble_eq_true rfl) d_put_17 ⟨by decide, by decide⟩ (fun E h => z_out Z (ht _) (by decide) (by decide) ⟨σ, rfl, rfl, Or.inr (Or.inl ⟨h.1, ⟨(isT_nI hc).mpr hb, h7, h12⟩, fun q => h.2 ((isTab_nI hc).mp q)⟩)⟩) (fun h17 => ?_)
  refine z_aload_n Z 0 d_put_20 rfl rfl ?_
  refine z_iload_n Z 1 d_put_21 rfl rfl ?_
  refine z_iload_n Z 2 d_put_22 rfl rfl ?_
  refine z_Wi0 Z (c_entryOf hw hc) (ok_entryOf _) rfl rfl ⟨by decide, by decide⟩ rfl rfl rfl rfl (Nat.le_of_ble_eq_true rfl) d_put_23 ⟨by decide, by decide⟩ (fun E h => h.elim) (fun v23 h23 => ?_)
  refine z_istore Z 4 d_put_26 (by decide) rfl ?_
  refine z_iload Z 4 d_put_28 rfl ?_
  refine z_iconst Z (-1) d_put_30 zi_m1 ?_
  refine z_icmp_eq Z 48 d_put_31 (by decide) (fun h31 => ?_) (fun h31 => ?_)
  · refine z_aload_n Z 0 d_put_48 rfl rfl ?_
    refine xg_6 Z d_put_49 ?_
    refine z_iload_n Z 1 d_put_52 rfl rfl ?_
    refine xl_6 Z (by omega) d_put_53 ?_
    refine z_iconst Z (nI 4) d_put_54 zi_4 ?_
    refine z_eqi2 e6 ?_
    refine z_icmpN_lt Z 68 d_put_55 (by decide) (by omega) (by omega) (fun h55 => ?_) (fun h55 => ?_)
    · refine z_aload_n Z 0 d_put_68 rfl rfl ?_
      refine z_iload_n Z 1 d_put_69 rfl rfl ?_
      refine z_iload_n Z 2 d_put_70 rfl rfl ?_
      refine z_iload_n Z 3 d_put_71 rfl rfl ?_
      refine z_Wv Z (c_appendEntry hw hc h55) (ok_appendEntry _) rfl rfl ⟨by decide, by decide⟩ rfl rfl rfl rfl (Nat.le_of_ble_eq_true rfl) d_put_72 ⟨by decide, by decide⟩ (fun E u h => h.elim) (fun u72 h72 => ?_)
      subst h72
      refine z_iconst Z (nI 1) d_put_75 zi_1 ?_
      refine z_ri Z _ hr rfl d_put_76 (by decide) (by decide) rfl ?_
      exact ⟨c, hc, rfl, hb, h7, h12, h17, Or.inr ⟨eo_none h23 h31, h55, rfl, rfl⟩⟩
    · exact z_throw Z hlt (text := "the table is full") (names := zNames) (by decide +kernel) zNames_fit st_89 (at_IllegalStateException _) d_put_58 d_put_61 d_put_62 d_put_64 d_put_67 (ht _) (by decide) (by decide) (by decide) (by decide) (by decide) (by decide) ⟨σ, rfl, rfl, Or.inr (Or.inr ⟨rfl, ⟨(isT_nI hc).mpr hb, h7, h12⟩, ⟨c, hc, rfl, h17, by omega, eo_none h23 h31⟩⟩)⟩
  · obtain ⟨i, hi, rfl, ek, -⟩ := eo_some h23 h31
    refine z_aload_n Z 0 d_put_34 rfl rfl ?_
    refine xg_5 Z d_put_35 ?_
    refine z_iload_n Z 1 d_put_38 rfl rfl ?_
    refine z_iload Z 4 d_put_39 rfl ?_
    refine z_S0 Z (c_entrySlot ) (ok_entrySlot _) rfl rfl ⟨by decide, by decide⟩ rfl rfl (Nat.le_of_ble_eq_true rfl) d_put_41 ⟨by decide, by decide⟩ (fun v41 h41 => ?_)
    subst h41
    refine z_iload_n Z 3 d_put_44 rfl rfl ?_
    refine xs_5 Z (by omega) d_put_45 ?_
    refine z_iconst Z (nI 0) d_put_46 zi_0 ?_
    refine z_ri Z _ hr rfl d_put_47 (by decide) (by decide) rfl ?_
    exact ⟨c, hc, rfl, hb, h7, h12, h17, Or.inl ⟨i, hi, ek, rfl, rfl⟩⟩
set_option maxHeartbeats 4000000 in
set_option maxRecDepth 100000 in
theorem c_key {l : Launch} {D : va_G} {cI cB cL : ClassId} {h : Nat → Nat} {σ : St} (hlt : l.stackTraces = false) (hw : wf σ) {x i : Int32} : zMet l y_key w_key rm_key D zCl (zTy cI cB cL) (wx h cI σ) [.ref (h 0), .int x, .int i] (qi0 (wx h cI σ) (fun v => ∃ c j, c < 24 ∧ x = nI c ∧ bt (σ 0 0) c = true ∧ σ 1 c = nI 2 ∧ j < cnt σ c ∧ i = nI j ∧ v = σ 4 (c * 4 + j)) (fun E => (E = "java/util/NoSuchElementException" ∧ ¬ isT σ x) ∨ (E = "java/lang/IllegalArgumentException" ∧ isT σ x ∧ ¬ isTab σ x) ∨ (E = "java/lang/IndexOutOfBoundsException" ∧ isT σ x ∧ ∃ c, c < 24 ∧ x = nI c ∧ σ 1 c = nI 2 ∧ ¬ ∃ j, j < cnt σ c ∧ i = nI j))) 0 0 1 6 := by
  refine z_meth (by decide) rfl (Nat.le_of_ble_eq_true rfl) (fun p e s mm as bl me cd Z hr hnm ht => ?_)
  refine z_aload_n Z 0 d_key_0 rfl rfl ?_
  refine z_iload_n Z 1 d_key_1 rfl rfl ?_
  refine z_Wv0 Z (c_requireThing hlt) (ok_requireThing _) rfl rfl ⟨by decide, by decide⟩ rfl rfl rfl rfl (Nat.le_of_ble_eq_true rfl) d_key_2 ⟨by decide, by decide⟩ (fun E h => z_out Z (ht _) (by decide) (by decide) ⟨rfl, Or.inl h⟩) (fun h2 => ?_)
  obtain ⟨c, hc, rfl, hb⟩ := h2
  have e6 : σ 6 c = nI (cnt σ c) := (wf_cnt hw hc).2
  have n6 : cnt σ c ≤ 4 := (wf_cnt hw hc).1
  refine z_aload_n Z 0 d_key_5 rfl rfl ?_
  refine z_iload_n Z 1 d_key_6 rfl rfl ?_
  refine z_Wv0 Z (c_requireTable hlt hc) (ok_requireTable _) rfl rfl ⟨by decide, by decide⟩ rfl rfl rfl rfl (Nat.le_of_ble_eq_true rfl) d_key_7 ⟨by decide, by decide⟩ (fun E h => z_out Z (ht _) (by decide) (by decide) ⟨rfl, Or.inr (Or.inl ⟨h.1, (isT_nI hc).mpr hb, fun q => h.2 ((isTab_nI hc).mp q)⟩)⟩) (fun h7 => ?_)
  refine z_iload_n Z 2 d_key_10 rfl rfl ?_
  refine z_if_lt Z 24 d_key_11 (by decide) (fun h11 => ?_) (fun h11 => ?_)
  · exact z_throw Z hlt (text := "no such entry") (names := zNames) (by decide +kernel) zNames_fit st_100 (at_IndexOutOfBoundsException _) d_key_24 d_key_27 d_key_28 d_key_30 d_key_33 (ht _) (by decide) (by decide) (by decide) (by decide) (by decide) (by decide) ⟨rfl, Or.inr (Or.inr ⟨rfl, (isT_nI hc).mpr hb, ⟨c, hc, rfl, h7, fun ⟨j, hj, q⟩ => nI_pos (by omega) (q ▸ h11)⟩⟩)⟩
  · refine z_iload_n Z 2 d_key_14 rfl rfl ?_
    refine z_aload_n Z 0 d_key_15 rfl rfl ?_
    refine xg_6 Z d_key_16 ?_
    refine z_iload_n Z 1 d_key_19 rfl rfl ?_
    refine xl_6 Z (by omega) d_key_20 ?_
    refine z_eqi e6 ?_
    refine z_icmp_lt Z 34 d_key_21 (by decide) (fun h21 => ?_) (fun h21 => ?_)
    · obtain ⟨j, hj, rfl⟩ := inN h11 h21 (by omega)
      refine z_aload_n Z 0 d_key_34 rfl rfl ?_
      refine xg_4 Z d_key_35 ?_
      refine z_iload_n Z 1 d_key_38 rfl rfl ?_
      refine z_iload_n Z 2 d_key_39 rfl rfl ?_
      refine z_S0 Z (c_entrySlot ) (ok_entrySlot _) rfl rfl ⟨by decide, by decide⟩ rfl rfl (Nat.le_of_ble_eq_true rfl) d_key_40 ⟨by decide, by decide⟩ (fun v40 h40 => ?_)
      subst h40
      refine xl_4 Z (by omega) d_key_43 ?_
      refine z_ri0 Z hr rfl d_key_44 (by decide) (by decide) ?_
      exact ⟨c, j, hc, rfl, hb, h7, hj, rfl, rfl⟩
    · exact z_throw Z hlt (text := "no such entry") (names := zNames) (by decide +kernel) zNames_fit st_100 (at_IndexOutOfBoundsException _) d_key_24 d_key_27 d_key_28 d_key_30 d_key_33 (ht _) (by decide) (by decide) (by decide) (by decide) (by decide) (by decide) ⟨rfl, Or.inr (Or.inr ⟨rfl, (isT_nI hc).mpr hb, ⟨c, hc, rfl, h7, fun ⟨j, hj, q⟩ => h21 (by rw [q]; exact nI_lt hj (by omega))⟩⟩)⟩
set_option maxHeartbeats 4000000 in
set_option maxRecDepth 100000 in
theorem c_guard {l : Launch} {D : va_G} {cI cB cL : ClassId} {h : Nat → Nat} {σ : St} (hlt : l.stackTraces = false) {x a r : Int32} : zMet l y_guard w_guard rm_guard D zCl (zTy cI cB cL) (wx h cI σ) [.ref (h 0), .int x, .int a, .int r] (qv (wx h cI) (fun u => ∃ c i j, c < 24 ∧ x = nI c ∧ bt (σ 0 0) c = true ∧ i < 4 ∧ a = nI i ∧ j < 6 ∧ r = nI j ∧ σ 7 c = 0 ∧ u = grd σ c a r) (fun E u => u = σ ∧ ((E = "java/util/NoSuchElementException" ∧ ¬ isT σ x) ∨ (E = "java/lang/IllegalArgumentException" ∧ isT σ x ∧ ¬ isA a) ∨ (E = "java/lang/IndexOutOfBoundsException" ∧ isT σ x ∧ isA a ∧ ¬ isR r) ∨ (E = "java/lang/IllegalStateException" ∧ isT σ x ∧ isA a ∧ isR r ∧ ∃ c, c < 24 ∧ x = nI c ∧ ¬ σ 7 c = 0)))) 0 0 1 6 := by
  refine z_meth (by decide) rfl (Nat.le_of_ble_eq_true rfl) (fun p e s mm as bl me cd Z hr hnm ht => ?_)
  refine z_aload_n Z 0 d_guard_0 rfl rfl ?_
  refine z_iload_n Z 1 d_guard_1 rfl rfl ?_
  refine z_Wv0 Z (c_requireThing hlt) (ok_requireThing _) rfl rfl ⟨by decide, by decide⟩ rfl rfl rfl rfl (Nat.le_of_ble_eq_true rfl) d_guard_2 ⟨by decide, by decide⟩ (fun E h => z_out Z (ht _) (by decide) (by decide) ⟨σ, rfl, rfl, Or.inl h⟩) (fun h2 => ?_)
  obtain ⟨c, hc, rfl, hb⟩ := h2
  refine z_iload_n Z 2 d_guard_5 rfl rfl ?_
  refine z_if_lt Z 14 d_guard_6 (by decide) (fun h6 => ?_) (fun h6 => ?_)
  · exact z_throw Z hlt (text := "no such action") (names := zNames) (by decide +kernel) zNames_fit st_106 (at_IllegalArgumentException _) d_guard_14 d_guard_17 d_guard_18 d_guard_20 d_guard_23 (ht _) (by decide) (by decide) (by decide) (by decide) (by decide) (by decide) ⟨σ, rfl, rfl, Or.inr (Or.inl ⟨rfl, (isT_nI hc).mpr hb, fun ⟨i, hi, q⟩ => nI_pos (by omega) (q ▸ h6)⟩)⟩
  · refine z_iload_n Z 2 d_guard_9 rfl rfl ?_
    refine z_iconst Z (nI 3) d_guard_10 zi_3 ?_
    refine z_icmp_le Z 24 d_guard_11 (by decide) (fun h11 => ?_) (fun h11 => ?_)
    · obtain ⟨i, hi, rfl⟩ := inLe h6 h11
      refine z_aload_n Z 0 d_guard_24 rfl rfl ?_
      refine z_iload_n Z 3 d_guard_25 rfl rfl ?_
      refine z_Wv0 Z (c_requireRoot hlt) (ok_requireRoot _) rfl rfl ⟨by decide, by decide⟩ rfl rfl rfl rfl (Nat.le_of_ble_eq_true rfl) d_guard_26 ⟨by decide, by decide⟩ (fun E h => z_out Z (ht _) (by decide) (by decide) ⟨σ, rfl, rfl, Or.inr (Or.inr (Or.inl ⟨h.1, (isT_nI hc).mpr hb, ⟨i, by omega, rfl⟩, h.2⟩))⟩) (fun h26 => ?_)
      obtain ⟨j, hj, rfl⟩ := h26
      refine z_aload_n Z 0 d_guard_29 rfl rfl ?_
      refine xg_7 Z d_guard_30 ?_
      refine z_iload_n Z 1 d_guard_33 rfl rfl ?_
      refine xl_7 Z (by omega) d_guard_34 ?_
      refine z_if_eq Z 48 d_guard_35 (by decide) (fun h35 => ?_) (fun h35 => ?_)
      · refine z_aload_n Z 0 d_guard_48 rfl rfl ?_
        refine xg_7 Z d_guard_49 ?_
        refine z_iload_n Z 1 d_guard_52 rfl rfl ?_
        refine z_iconst Z (nI 1) d_guard_53 zi_1 ?_
        refine xs_7 Z (by omega) d_guard_54 ?_
        refine z_aload_n Z 0 d_guard_55 rfl rfl ?_
        refine xg_8 Z d_guard_56 ?_
        refine z_iload_n Z 1 d_guard_59 rfl rfl ?_
        refine z_iload_n Z 2 d_guard_60 rfl rfl ?_
        refine xs_8 Z (by omega) d_guard_61 ?_
        refine z_aload_n Z 0 d_guard_62 rfl rfl ?_
        refine xg_9 Z d_guard_63 ?_
        refine z_iload_n Z 1 d_guard_66 rfl rfl ?_
        refine z_iload_n Z 3 d_guard_67 rfl rfl ?_
        refine xs_9 Z (by omega) d_guard_68 ?_
        refine z_rv Z _ hr d_guard_69 (by decide) (by decide) rfl ?_
        exact ⟨c, i, j, hc, rfl, hb, by omega, rfl, hj, rfl, h35, rfl⟩
      · exact z_throw Z hlt (text := "the thing has a finaliser") (names := zNames) (by decide +kernel) zNames_fit st_108 (at_IllegalStateException _) d_guard_38 d_guard_41 d_guard_42 d_guard_44 d_guard_47 (ht _) (by decide) (by decide) (by decide) (by decide) (by decide) (by decide) ⟨σ, rfl, rfl, Or.inr (Or.inr (Or.inr ⟨rfl, (isT_nI hc).mpr hb, ⟨i, by omega, rfl⟩, ⟨j, hj, rfl⟩, c, hc, rfl, h35⟩))⟩
    · exact z_throw Z hlt (text := "no such action") (names := zNames) (by decide +kernel) zNames_fit st_106 (at_IllegalArgumentException _) d_guard_14 d_guard_17 d_guard_18 d_guard_20 d_guard_23 (ht _) (by decide) (by decide) (by decide) (by decide) (by decide) (by decide) ⟨σ, rfl, rfl, Or.inr (Or.inl ⟨rfl, (isT_nI hc).mpr hb, fun ⟨i, hi, q⟩ => h11 (by rw [q]; exact nI_le (by omega) (by decide))⟩)⟩
set_option maxHeartbeats 4000000 in
set_option maxRecDepth 100000 in
theorem c_run {l : Launch} {D : va_G} {cI cB cL : ClassId} {h : Nat → Nat} {σ : St} (hlt : l.stackTraces = false) (hw : wf σ) (h8 : ∀ c, c < 24 → ∃ a, a < 4 ∧ σ 8 c = nI a) {w : Nat} (hw24 : w ≤ 24) (ew : σ 0 1 = nI w) : zMet l y_run w_run rm_run D zCl (zTy cI cB cL) (wx h cI σ) [.ref (h 0)] (qi (wx h cI) (fun v u => ∃ w0 c a, w = w0 + 1 ∧ c < 24 ∧ σ 11 0 = nI c ∧ a < 4 ∧ σ 8 c = nI a ∧ v = nI c ∧ u = act (va_up (deq σ w0) 7 (upd (σ 7) c (nI 3))) c a) (fun E u => u = σ ∧ E = "java/util/NoSuchElementException" ∧ w = 0)) 0 0 1 6 := by
  refine z_meth (by decide) rfl (Nat.le_of_ble_eq_true rfl) (fun p e s mm as bl me cd Z hr hnm ht => ?_)
  refine z_aload_n Z 0 d_run_0 rfl rfl ?_
  refine xn_1 Z d_run_1 ?_
  refine z_eqi ew ?_
  refine z_if_ne Z 17 d_run_4 (by decide) (fun h4 => ?_) (fun h4 => ?_)
  · obtain ⟨w0, rfl⟩ : ∃ w0, w = w0 + 1 := ⟨w - 1, by rcases Nat.eq_zero_or_pos w with q | q; exact absurd (by rw [q]; rfl) h4; omega⟩
    obtain ⟨c, hc, ec⟩ := hw.2.2.2.2.2.2.1 0 (by decide)
    obtain ⟨a, ha, ea⟩ := h8 c hc
    refine z_aload_n Z 0 d_run_17 rfl rfl ?_
    refine z_Wi Z (c_takeFirstQueued hw (by omega) ew) (ok_takeFirstQueued _) rfl rfl ⟨by decide, by decide⟩ rfl rfl rfl rfl (Nat.le_of_ble_eq_true rfl) d_run_18 ⟨by decide, by decide⟩ (fun E u h => h.elim) (fun v18 u18 h18 => ?_)
    obtain ⟨h18a, h18b⟩ := h18
    subst h18b
    rw [ec] at h18a
    subst h18a
    refine z_istore_n Z 1 d_run_21 rfl (by decide) rfl ?_
    refine z_aload_n Z 0 d_run_22 rfl rfl ?_
    refine xg_7 Z d_run_23 ?_
    refine z_iload_n Z 1 d_run_26 rfl rfl ?_
    refine z_iconst Z (nI 3) d_run_27 zi_3 ?_
    refine xs_7 Z (by omega) d_run_28 ?_
    refine z_aload_n Z 0 d_run_29 rfl rfl ?_
    refine z_iload_n Z 1 d_run_30 rfl rfl ?_
    refine z_Wv Z (c_performAction (wf_run hw (by omega)) hc (a := a) ea ha) (ok_performAction _) rfl rfl ⟨by decide, by decide⟩ rfl rfl rfl rfl (Nat.le_of_ble_eq_true rfl) d_run_31 ⟨by decide, by decide⟩ (fun E u h => h.elim) (fun u31 h31 => ?_)
    subst h31
    refine z_iload_n Z 1 d_run_34 rfl rfl ?_
    refine z_ri Z _ hr rfl d_run_35 (by decide) (by decide) rfl ?_
    exact ⟨w0, c, a, rfl, hc, ec, ha, ea, rfl, rfl⟩
  · exact z_throwN Z hlt (text := "the queue is empty") st_143 (at_NoSuchElementException _) d_run_7 d_run_10 d_run_11 d_run_13 d_run_16 (ht _) (by decide) (by decide) (by decide) (by decide) (by decide) (by decide) ⟨σ, rfl, rfl, rfl, nI_z hw24 h4⟩
set_option maxHeartbeats 4000000 in
set_option maxRecDepth 100000 in
theorem c_make {l : Launch} {D : va_G} {cI cB cL : ClassId} {h : Nat → Nat} {σ : St} (hlt : l.stackTraces = false) (hw : wf σ) (hq : qI σ) {k : Int32} : zMet l y_make w_make rm_make D zCl (zTy cI cB cL) (wx h cI σ) [.ref (h 0), .int k] (qi (wx h cI) (fun v u => isK k ∧ ((∃ c, lf σ c ∧ v = nI c ∧ u = plc σ c k) ∨ (full σ ∧ ∃ v1 σ1 c, colX σ v1 σ1 ∧ lf σ1 c ∧ v = nI c ∧ u = plc σ1 c k))) (fun E u => (E = "java/lang/IllegalArgumentException" ∧ ¬ isK k ∧ u = σ) ∨ (E = "java/lang/IllegalStateException" ∧ isK k ∧ full σ ∧ ∃ v1, colX σ v1 u ∧ full u))) 0 0 1 6 := by
  refine z_meth (by decide) rfl (Nat.le_of_ble_eq_true rfl) (fun p e s mm as bl me cd Z hr hnm ht => ?_)
  refine z_iload_n Z 1 d_make_0 rfl rfl ?_
  refine z_if_lt Z 9 d_make_1 (by decide) (fun h1 => ?_) (fun h1 => ?_)
  · exact z_throw Z hlt (text := "no such kind") (names := zNames) (by decide +kernel) zNames_fit st_45 (at_IllegalArgumentException _) d_make_9 d_make_12 d_make_13 d_make_15 d_make_18 (ht _) (by decide) (by decide) (by decide) (by decide) (by decide) (by decide) ⟨σ, rfl, Or.inl ⟨rfl, fun ⟨i, hi, q⟩ => nI_pos (by omega) (q ▸ h1), rfl⟩⟩
  · refine z_iload_n Z 1 d_make_4 rfl rfl ?_
    refine z_iconst Z (nI 2) d_make_5 zi_2 ?_
    refine z_icmp_le Z 19 d_make_6 (by decide) (fun h6 => ?_) (fun h6 => ?_)
    · have hk : isK k := isK_of h1 h6
      refine z_aload_n Z 0 d_make_19 rfl rfl ?_
      refine z_Wi0 Z (c_leastFreeCell ) (ok_leastFreeCell _) rfl rfl ⟨by decide, by decide⟩ rfl rfl rfl rfl (Nat.le_of_ble_eq_true rfl) d_make_20 ⟨by decide, by decide⟩ (fun E h => h.elim) (fun v20 h20 => ?_)
      refine z_istore_n Z 2 d_make_23 rfl (by decide) rfl ?_
      refine z_iload_n Z 2 d_make_24 rfl rfl ?_
      refine z_iconst Z (-1) d_make_25 zi_m1 ?_
      refine z_icmp_ne Z 39 d_make_26 (by decide) (fun h26 => ?_) (fun h26 => ?_)
      · refine z_iload_n Z 2 d_make_39 rfl rfl ?_
        refine z_iconst Z (-1) d_make_40 zi_m1 ?_
        refine z_icmp_ne Z 54 d_make_41 (by decide) (fun h41 => ?_) (fun hx => absurd hx h26)
        obtain ⟨c, hlf, rfl⟩ := lf_some h20 h26
        have hc : c < 24 := hlf.1
        refine z_aload_n Z 0 d_make_54 rfl rfl ?_
        refine z_iload_n Z 2 d_make_55 rfl rfl ?_
        refine z_iload_n Z 1 d_make_56 rfl rfl ?_
        refine z_Wv Z (c_placeThing hc) (ok_placeThing _) rfl rfl ⟨by decide, by decide⟩ rfl rfl rfl rfl (Nat.le_of_ble_eq_true rfl) d_make_57 ⟨by decide, by decide⟩ (fun E u h => h.elim) (fun u57 h57 => ?_)
        subst h57
        refine z_iload_n Z 2 d_make_60 rfl rfl ?_
        refine z_ri Z _ hr rfl d_make_61 (by decide) (by decide) rfl ?_
        exact ⟨hk, Or.inl ⟨c, hlf, rfl, rfl⟩⟩
      · refine z_aload_n Z 0 d_make_29 rfl rfl ?_
        refine z_Wi Z (c_collect hw hq) (ok_collect _) rfl rfl ⟨by decide, by decide⟩ rfl rfl rfl rfl (Nat.le_of_ble_eq_true rfl) d_make_30 ⟨by decide, by decide⟩ (fun E u h => h.elim) (fun v30 u30 h30 => ?_)
        refine z_pop Z d_make_33 ?_
        refine z_aload_n Z 0 d_make_34 rfl rfl ?_
        refine z_Wi0 Z (c_leastFreeCell ) (ok_leastFreeCell _) rfl rfl ⟨by decide, by decide⟩ rfl rfl rfl rfl (Nat.le_of_ble_eq_true rfl) d_make_35 ⟨by decide, by decide⟩ (fun E h => h.elim) (fun v35 h35 => ?_)
        refine z_istore_n Z 2 d_make_38 rfl (by decide) rfl ?_
        refine z_iload_n Z 2 d_make_39 rfl rfl ?_
        refine z_iconst Z (-1) d_make_40 zi_m1 ?_
        refine z_icmp_ne Z 54 d_make_41 (by decide) (fun h41 => ?_) (fun h41 => ?_)
        · obtain ⟨c, hlf, rfl⟩ := lf_some h35 h41
          have hc : c < 24 := hlf.1
          refine z_aload_n Z 0 d_make_54 rfl rfl ?_
          refine z_iload_n Z 2 d_make_55 rfl rfl ?_
          refine z_iload_n Z 1 d_make_56 rfl rfl ?_
          refine z_Wv Z (c_placeThing hc) (ok_placeThing _) rfl rfl ⟨by decide, by decide⟩ rfl rfl rfl rfl (Nat.le_of_ble_eq_true rfl) d_make_57 ⟨by decide, by decide⟩ (fun E u h => h.elim) (fun u57 h57 => ?_)
          subst h57
          refine z_iload_n Z 2 d_make_60 rfl rfl ?_
          refine z_ri Z _ hr rfl d_make_61 (by decide) (by decide) rfl ?_
          exact ⟨hk, Or.inr ⟨lf_none h20 h26, v30, u30, c, h30, hlf, rfl, rfl⟩⟩
        · exact z_throw Z hlt (text := "no cell is free") (names := zNames) (by decide +kernel) zNames_fit st_59 (at_IllegalStateException _) d_make_44 d_make_47 d_make_48 d_make_50 d_make_53 (ht _) (by decide) (by decide) (by decide) (by decide) (by decide) (by decide) ⟨u30, rfl, Or.inr ⟨rfl, hk, lf_none h20 h26, v30, h30, lf_none h35 h41⟩⟩
    · exact z_throw Z hlt (text := "no such kind") (names := zNames) (by decide +kernel) zNames_fit st_45 (at_IllegalArgumentException _) d_make_9 d_make_12 d_make_13 d_make_15 d_make_18 (ht _) (by decide) (by decide) (by decide) (by decide) (by decide) (by decide) ⟨σ, rfl, Or.inl ⟨rfl, fun ⟨i, hi, q⟩ => h6 (by rw [q]; exact nI_le (by omega) (by decide)), rfl⟩⟩
