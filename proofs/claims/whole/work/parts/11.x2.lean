set_option maxHeartbeats 4000000 in
set_option maxRecDepth 100000 in
theorem c_emptyThing {l : Launch} {D : va_G} {cI cB cL : ClassId} {h : Nat → Nat} {σ : St} {c : Nat} (hc : c < 24) : zMet l y_emptyThing w_emptyThing rm_emptyThing D zCl (zTy cI cB cL) (wx h cI σ) [.ref (h 0), .int (nI c)] (qv (wx h cI) (fun u => u = emp σ c) noXs) 0 0 0 0 := by
  refine z_meth (by decide) rfl (Nat.le_of_ble_eq_true rfl) (fun p e s mm as bl me cd Z hr hnm ht => ?_)
  refine z_iconst Z (nI 0) d_emptyThing_0 zi_0 ?_
  refine z_istore_n Z 2 d_emptyThing_1 rfl (by decide) rfl ?_
  refine z_lv (lv' := [(0, .ref (h 0)), (1, .int (nI c)), (2, .int (nI 0))]) rfl ?_
  refine z_ws (ws' := wx h cI (va_up σ 3 (empF (σ 3) c 0))) rfl ?_
  refine z_loop (fun i : Nat => i ≤ 3) (fun i : Nat => 3 - i) (fun i : Nat => wx h cI (va_up σ 3 (empF (σ 3) c i))) (fun i : Nat => [(0, .ref (h 0)), (1, .int (nI c)), (2, .int (nI i))]) (fun i hi ih => ?_) 0 (by omega)
  refine z_iload_n Z 2 d_emptyThing_2 rfl rfl ?_
  refine z_iconst Z (nI 3) d_emptyThing_3 zi_3 ?_
  refine z_icmpN_ge Z 24 d_emptyThing_4 (by decide) (by omega) (by omega) (fun h4 => ?_) (fun h4 => ?_)
  · obtain rfl : i = 3 := by omega
    refine z_aload_n Z 0 d_emptyThing_24 rfl rfl ?_
    refine xg_6 Z d_emptyThing_25 ?_
    refine z_iload_n Z 1 d_emptyThing_28 rfl rfl ?_
    refine z_iconst Z (nI 0) d_emptyThing_29 zi_0 ?_
    refine xs_6 Z (by omega) d_emptyThing_30 ?_
    refine z_rv Z _ hr d_emptyThing_31 (by decide) (by decide) rfl ?_
    rfl
  · refine z_aload_n Z 0 d_emptyThing_7 rfl rfl ?_
    refine xg_3 Z d_emptyThing_8 ?_
    refine z_iload_n Z 1 d_emptyThing_11 rfl rfl ?_
    refine z_iload_n Z 2 d_emptyThing_12 rfl rfl ?_
    refine z_S0 Z (c_fieldSlot ) (ok_fieldSlot _) rfl rfl ⟨by decide, by decide⟩ rfl rfl (Nat.le_of_ble_eq_true rfl) d_emptyThing_13 ⟨by decide, by decide⟩ (fun v13 h13 => ?_)
    subst h13
    refine z_iconst Z (-1) d_emptyThing_16 zi_m1 ?_
    refine xs_3 Z (by omega) d_emptyThing_17 ?_
    refine z_iincN Z 2 d_emptyThing_18 rfl (by decide) rfl ?_
    refine z_goto Z 2 d_emptyThing_21 (by decide) ?_
    exact z_ws rfl (z_lv rfl (ih (i + 1) (by omega) (by omega)))
set_option maxHeartbeats 4000000 in
set_option maxRecDepth 100000 in
theorem c_placeThing {l : Launch} {D : va_G} {cI cB cL : ClassId} {h : Nat → Nat} {σ : St} {c : Nat} (hc : c < 24) {k : Int32} : zMet l y_placeThing w_placeThing rm_placeThing D zCl (zTy cI cB cL) (wx h cI σ) [.ref (h 0), .int (nI c), .int k] (qv (wx h cI) (fun u => u = plc σ c k) noXs) 0 0 0 0 := by
  refine z_meth (by decide) rfl (Nat.le_of_ble_eq_true rfl) (fun p e s mm as bl me cd Z hr hnm ht => ?_)
  refine z_aload_n Z 0 d_placeThing_0 rfl rfl ?_
  refine z_dup Z d_placeThing_1 ?_
  refine xn_2 Z d_placeThing_2 ?_
  refine z_iconst Z (nI 1) d_placeThing_5 zi_1 ?_
  refine z_iadd Z d_placeThing_6 ?_
  refine xp_2 Z d_placeThing_7 ?_
  refine z_aload_n Z 0 d_placeThing_10 rfl rfl ?_
  refine z_dup Z d_placeThing_11 ?_
  refine xn_0 Z d_placeThing_12 ?_
  refine z_iconst Z (nI 1) d_placeThing_15 zi_1 ?_
  refine z_iload_n Z 1 d_placeThing_16 rfl rfl ?_
  refine z_ishl Z d_placeThing_17 ?_
  refine z_ior Z d_placeThing_18 ?_
  refine xp_0 Z d_placeThing_19 ?_
  refine z_aload_n Z 0 d_placeThing_22 rfl rfl ?_
  refine xg_1 Z d_placeThing_23 ?_
  refine z_iload_n Z 1 d_placeThing_26 rfl rfl ?_
  refine z_iload_n Z 2 d_placeThing_27 rfl rfl ?_
  refine xs_1 Z (by omega) d_placeThing_28 ?_
  refine z_aload_n Z 0 d_placeThing_29 rfl rfl ?_
  refine xg_2 Z d_placeThing_30 ?_
  refine z_iload_n Z 1 d_placeThing_33 rfl rfl ?_
  refine z_aload_n Z 0 d_placeThing_34 rfl rfl ?_
  refine xn_2 Z d_placeThing_35 ?_
  refine xs_2 Z (by omega) d_placeThing_38 ?_
  refine z_aload_n Z 0 d_placeThing_39 rfl rfl ?_
  refine xg_7 Z d_placeThing_40 ?_
  refine z_iload_n Z 1 d_placeThing_43 rfl rfl ?_
  refine z_iconst Z (nI 0) d_placeThing_44 zi_0 ?_
  refine xs_7 Z (by omega) d_placeThing_45 ?_
  refine z_aload_n Z 0 d_placeThing_46 rfl rfl ?_
  refine z_iload_n Z 1 d_placeThing_47 rfl rfl ?_
  refine z_Wv Z (c_emptyThing hc) (ok_emptyThing _) rfl rfl ⟨by decide, by decide⟩ rfl rfl rfl rfl (Nat.le_of_ble_eq_true rfl) d_placeThing_48 ⟨by decide, by decide⟩ (fun E u h => h.elim) (fun u48 h48 => ?_)
  subst h48
  refine z_rv Z _ hr d_placeThing_51 (by decide) (by decide) rfl ?_
  rfl
set_option maxHeartbeats 4000000 in
set_option maxRecDepth 100000 in
theorem c_entryOf {l : Launch} {D : va_G} {cI cB cL : ClassId} {h : Nat → Nat} {σ : St} (hw : wf σ) {c : Nat} (hc : c < 24) {k : Int32} : zMet l y_entryOf w_entryOf rm_entryOf D zCl (zTy cI cB cL) (wx h cI σ) [.ref (h 0), .int (nI c), .int k] (qi0 (wx h cI σ) (fun v => (∃ i, i < cnt σ c ∧ v = nI i ∧ σ 4 (c * 4 + i) = k ∧ ∀ j, j < i → σ 4 (c * 4 + j) ≠ k) ∨ (v = -1 ∧ ∀ j, j < cnt σ c → σ 4 (c * 4 + j) ≠ k)) noX) 0 0 0 0 := by
  have e6 : σ 6 c = nI (cnt σ c) := (wf_cnt hw hc).2
  have n6 : cnt σ c ≤ 4 := (wf_cnt hw hc).1
  refine z_meth (by decide) rfl (Nat.le_of_ble_eq_true rfl) (fun p e s mm as bl me cd Z hr hnm ht => ?_)
  refine z_iconst Z (nI 0) d_entryOf_0 zi_0 ?_
  refine z_istore_n Z 3 d_entryOf_1 rfl (by decide) rfl ?_
  refine z_lv (lv' := [(0, .ref (h 0)), (1, .int (nI c)), (2, .int k), (3, .int (nI 0))]) rfl ?_
  refine z_loop (fun i : Nat => i ≤ cnt σ c ∧ ∀ j, j < i → σ 4 (c * 4 + j) ≠ k) (fun i : Nat => cnt σ c - i) (fun i : Nat => wx h cI σ) (fun i : Nat => [(0, .ref (h 0)), (1, .int (nI c)), (2, .int k), (3, .int (nI i))]) (fun i hi ih => ?_) 0 ⟨by omega, fun d hd => by omega⟩
  refine z_iload_n Z 3 d_entryOf_2 rfl rfl ?_
  refine z_aload_n Z 0 d_entryOf_3 rfl rfl ?_
  refine xg_6 Z d_entryOf_4 ?_
  refine z_iload_n Z 1 d_entryOf_7 rfl rfl ?_
  refine xl_6 Z (by omega) d_entryOf_8 ?_
  refine z_eqi e6 ?_
  refine z_icmpN_ge Z 34 d_entryOf_9 (by decide) (by omega) (by omega) (fun h9 => ?_) (fun h9 => ?_)
  · refine z_iconst Z (-1) d_entryOf_34 zi_m1 ?_
    refine z_ri0 Z hr rfl d_entryOf_35 (by decide) (by decide) ?_
    exact Or.inr ⟨rfl, fun j hj => hi.2 j (by omega)⟩
  · refine z_aload_n Z 0 d_entryOf_12 rfl rfl ?_
    refine xg_4 Z d_entryOf_13 ?_
    refine z_iload_n Z 1 d_entryOf_16 rfl rfl ?_
    refine z_iload_n Z 3 d_entryOf_17 rfl rfl ?_
    refine z_S0 Z (c_entrySlot ) (ok_entrySlot _) rfl rfl ⟨by decide, by decide⟩ rfl rfl (Nat.le_of_ble_eq_true rfl) d_entryOf_18 ⟨by decide, by decide⟩ (fun v18 h18 => ?_)
    subst h18
    refine xl_4 Z (by omega) d_entryOf_21 ?_
    refine z_iload_n Z 2 d_entryOf_22 rfl rfl ?_
    refine z_icmp_ne Z 28 d_entryOf_23 (by decide) (fun h23 => ?_) (fun h23 => ?_)
    · refine z_iincN Z 3 d_entryOf_28 rfl (by decide) rfl ?_
      refine z_goto Z 2 d_entryOf_31 (by decide) ?_
      exact z_lv rfl (ih (i + 1) ⟨by omega, fun j hj => by
          rcases Nat.lt_or_ge j i with q | q
          · exact hi.2 j q
          · rw [show j = i by omega]; exact h23⟩ (by omega))
    · refine z_iload_n Z 3 d_entryOf_26 rfl rfl ?_
      refine z_ri0 Z hr rfl d_entryOf_27 (by decide) (by decide) ?_
      exact Or.inl ⟨i, by omega, rfl, h23, hi.2⟩
set_option maxHeartbeats 4000000 in
set_option maxRecDepth 100000 in
theorem c_appendEntry {l : Launch} {D : va_G} {cI cB cL : ClassId} {h : Nat → Nat} {σ : St} (hw : wf σ) {c : Nat} (hc : c < 24) (hn : cnt σ c < 4) {k v : Int32} : zMet l y_appendEntry w_appendEntry rm_appendEntry D zCl (zTy cI cB cL) (wx h cI σ) [.ref (h 0), .int (nI c), .int k, .int v] (qv (wx h cI) (fun u => u = apd σ c k v) noXs) 0 0 0 0 := by
  have e6 : σ 6 c = nI (cnt σ c) := (wf_cnt hw hc).2
  refine z_meth (by decide) rfl (Nat.le_of_ble_eq_true rfl) (fun p e s mm as bl me cd Z hr hnm ht => ?_)
  refine z_iload_n Z 1 d_appendEntry_0 rfl rfl ?_
  refine z_aload_n Z 0 d_appendEntry_1 rfl rfl ?_
  refine xg_6 Z d_appendEntry_2 ?_
  refine z_iload_n Z 1 d_appendEntry_5 rfl rfl ?_
  refine xl_6 Z (by omega) d_appendEntry_6 ?_
  refine z_eqi e6 ?_
  refine z_S0 Z (c_entrySlot ) (ok_entrySlot _) rfl rfl ⟨by decide, by decide⟩ rfl rfl (Nat.le_of_ble_eq_true rfl) d_appendEntry_7 ⟨by decide, by decide⟩ (fun v7 h7 => ?_)
  subst h7
  refine z_istore Z 4 d_appendEntry_10 (by decide) rfl ?_
  refine z_aload_n Z 0 d_appendEntry_12 rfl rfl ?_
  refine xg_4 Z d_appendEntry_13 ?_
  refine z_iload Z 4 d_appendEntry_16 rfl ?_
  refine z_iload_n Z 2 d_appendEntry_18 rfl rfl ?_
  refine xs_4 Z (by omega) d_appendEntry_19 ?_
  refine z_aload_n Z 0 d_appendEntry_20 rfl rfl ?_
  refine xg_5 Z d_appendEntry_21 ?_
  refine z_iload Z 4 d_appendEntry_24 rfl ?_
  refine z_iload_n Z 3 d_appendEntry_26 rfl rfl ?_
  refine xs_5 Z (by omega) d_appendEntry_27 ?_
  refine z_aload_n Z 0 d_appendEntry_28 rfl rfl ?_
  refine xg_6 Z d_appendEntry_29 ?_
  refine z_iload_n Z 1 d_appendEntry_32 rfl rfl ?_
  refine z_dup2 Z d_appendEntry_33 ?_
  refine xl_6 Z (by omega) d_appendEntry_34 ?_
  refine z_eqi (y := nI (cnt σ c)) e6 ?_
  refine z_iconst Z (nI 1) d_appendEntry_35 zi_1 ?_
  refine z_iaddN Z d_appendEntry_36 ?_
  refine xs_6 Z (by omega) d_appendEntry_37 ?_
  refine z_rv Z _ hr d_appendEntry_38 (by decide) (by decide) rfl ?_
  rfl
set_option maxHeartbeats 4000000 in
set_option maxRecDepth 100000 in
theorem c_copyEntry {l : Launch} {D : va_G} {cI cB cL : ClassId} {h : Nat → Nat} {σ : St} {c a b : Nat} (hc : c < 24) (ha : a < 4) (hb : b < 4) : zMet l y_copyEntry w_copyEntry rm_copyEntry D zCl (zTy cI cB cL) (wx h cI σ) [.ref (h 0), .int (nI c), .int (nI a), .int (nI b)] (qv (wx h cI) (fun u => u = cpy σ c a b) noXs) 0 0 0 0 := by
  refine z_meth (by decide) rfl (Nat.le_of_ble_eq_true rfl) (fun p e s mm as bl me cd Z hr hnm ht => ?_)
  refine z_aload_n Z 0 d_copyEntry_0 rfl rfl ?_
  refine xg_4 Z d_copyEntry_1 ?_
  refine z_iload_n Z 1 d_copyEntry_4 rfl rfl ?_
  refine z_iload_n Z 3 d_copyEntry_5 rfl rfl ?_
  refine z_S0 Z (c_entrySlot ) (ok_entrySlot _) rfl rfl ⟨by decide, by decide⟩ rfl rfl (Nat.le_of_ble_eq_true rfl) d_copyEntry_6 ⟨by decide, by decide⟩ (fun v6 h6 => ?_)
  subst h6
  refine z_aload_n Z 0 d_copyEntry_9 rfl rfl ?_
  refine xg_4 Z d_copyEntry_10 ?_
  refine z_iload_n Z 1 d_copyEntry_13 rfl rfl ?_
  refine z_iload_n Z 2 d_copyEntry_14 rfl rfl ?_
  refine z_S0 Z (c_entrySlot ) (ok_entrySlot _) rfl rfl ⟨by decide, by decide⟩ rfl rfl (Nat.le_of_ble_eq_true rfl) d_copyEntry_15 ⟨by decide, by decide⟩ (fun v15 h15 => ?_)
  subst h15
  refine xl_4 Z (by omega) d_copyEntry_18 ?_
  refine xs_4 Z (by omega) d_copyEntry_19 ?_
  refine z_aload_n Z 0 d_copyEntry_20 rfl rfl ?_
  refine xg_5 Z d_copyEntry_21 ?_
  refine z_iload_n Z 1 d_copyEntry_24 rfl rfl ?_
  refine z_iload_n Z 3 d_copyEntry_25 rfl rfl ?_
  refine z_S0 Z (c_entrySlot ) (ok_entrySlot _) rfl rfl ⟨by decide, by decide⟩ rfl rfl (Nat.le_of_ble_eq_true rfl) d_copyEntry_26 ⟨by decide, by decide⟩ (fun v26 h26 => ?_)
  subst h26
  refine z_aload_n Z 0 d_copyEntry_29 rfl rfl ?_
  refine xg_5 Z d_copyEntry_30 ?_
  refine z_iload_n Z 1 d_copyEntry_33 rfl rfl ?_
  refine z_iload_n Z 2 d_copyEntry_34 rfl rfl ?_
  refine z_S0 Z (c_entrySlot ) (ok_entrySlot _) rfl rfl ⟨by decide, by decide⟩ rfl rfl (Nat.le_of_ble_eq_true rfl) d_copyEntry_35 ⟨by decide, by decide⟩ (fun v35 h35 => ?_)
  subst h35
  refine xl_5 Z (by omega) d_copyEntry_38 ?_
  refine xs_5 Z (by omega) d_copyEntry_39 ?_
  refine z_rv Z _ hr d_copyEntry_40 (by decide) (by decide) rfl ?_
  rfl
set_option maxHeartbeats 4000000 in
set_option maxRecDepth 100000 in
theorem c_dropEntry {l : Launch} {D : va_G} {cI cB cL : ClassId} {h : Nat → Nat} {σ : St} (hw : wf σ) {c : Nat} (hc : c < 24) {d : Nat} (hd : d < cnt σ c) : zMet l y_dropEntry w_dropEntry rm_dropEntry D zCl (zTy cI cB cL) (wx h cI σ) [.ref (h 0), .int (nI c), .int (nI d)] (qv (wx h cI) (fun u => u = drp σ c d) noXs) 0 0 0 0 := by
  have e6 : σ 6 c = nI (cnt σ c) := (wf_cnt hw hc).2
  have n6 : cnt σ c ≤ 4 := (wf_cnt hw hc).1
  refine z_meth (by decide) rfl (Nat.le_of_ble_eq_true rfl) (fun p e s mm as bl me cd Z hr hnm ht => ?_)
  refine z_aload_n Z 0 d_dropEntry_0 rfl rfl ?_
  refine xg_6 Z d_dropEntry_1 ?_
  refine z_iload_n Z 1 d_dropEntry_4 rfl rfl ?_
  refine xl_6 Z (by omega) d_dropEntry_5 ?_
  refine z_eqi e6 ?_
  refine z_iconst Z (nI 1) d_dropEntry_6 zi_1 ?_
  refine z_isubN Z d_dropEntry_7 (by omega) ?_
  refine z_istore_n Z 3 d_dropEntry_8 rfl (by decide) rfl ?_
  refine z_iload_n Z 2 d_dropEntry_9 rfl rfl ?_
  refine z_istore Z 4 d_dropEntry_10 (by decide) rfl ?_
  refine z_lv (lv' := [(0, .ref (h 0)), (1, .int (nI c)), (2, .int (nI d)), (3, .int (nI (cnt σ c - 1))), (4, .int (nI d))]) rfl ?_
  refine z_ws (ws' := wx h cI (dst σ c d d)) (by rw [dst_0]) ?_
  refine z_loop (fun i : Nat => d ≤ i ∧ i ≤ cnt σ c - 1) (fun i : Nat => cnt σ c - 1 - i) (fun i : Nat => wx h cI (dst σ c d i)) (fun i : Nat => [(0, .ref (h 0)), (1, .int (nI c)), (2, .int (nI d)), (3, .int (nI (cnt σ c - 1))), (4, .int (nI i))]) (fun i hi ih => ?_) d ⟨by omega, by omega⟩
  refine z_iload Z 4 d_dropEntry_12 rfl ?_
  refine z_iload_n Z 3 d_dropEntry_14 rfl rfl ?_
  refine z_icmpN_ge Z 35 d_dropEntry_15 (by decide) (by omega) (by omega) (fun h15 => ?_) (fun h15 => ?_)
  · obtain rfl : i = cnt σ c - 1 := by omega
    refine z_aload_n Z 0 d_dropEntry_35 rfl rfl ?_
    refine xg_6 Z d_dropEntry_36 ?_
    refine z_iload_n Z 1 d_dropEntry_39 rfl rfl ?_
    refine z_iload_n Z 3 d_dropEntry_40 rfl rfl ?_
    refine xs_6 Z (by omega) d_dropEntry_41 ?_
    refine z_rv Z _ hr d_dropEntry_42 (by decide) (by decide) rfl ?_
    rfl
  · refine z_aload_n Z 0 d_dropEntry_18 rfl rfl ?_
    refine z_iload_n Z 1 d_dropEntry_19 rfl rfl ?_
    refine z_iload Z 4 d_dropEntry_20 rfl ?_
    refine z_iconst Z (nI 1) d_dropEntry_22 zi_1 ?_
    refine z_iaddN Z d_dropEntry_23 ?_
    refine z_iload Z 4 d_dropEntry_24 rfl ?_
    refine z_Wv Z (c_copyEntry hc (by omega) (by omega)) (ok_copyEntry _) rfl rfl ⟨by decide, by decide⟩ rfl rfl rfl rfl (Nat.le_of_ble_eq_true rfl) d_dropEntry_26 ⟨by decide, by decide⟩ (fun E u h => h.elim) (fun u26 h26 => ?_)
    rw [h26, dst_step hi.1]
    refine z_iincN Z 4 d_dropEntry_29 rfl (by decide) rfl ?_
    refine z_goto Z 12 d_dropEntry_32 (by decide) ?_
    exact z_lv rfl (ih (i + 1) ⟨by omega, by omega⟩ (by omega))
set_option maxHeartbeats 4000000 in
set_option maxRecDepth 100000 in
theorem c_thingsInRoots {l : Launch} {D : va_G} {cI cB cL : ClassId} {h : Nat → Nat} {σ : St} (hw : wf σ) : zMet l y_thingsInRoots w_thingsInRoots rm_thingsInRoots D zCl (zTy cI cB cL) (wx h cI σ) [.ref (h 0)] (qi0 (wx h cI σ) (fun v => lo24 v ∧ ∀ c, c < 24 → (bt v c = true ↔ ∃ r, r < 6 ∧ σ 10 r = nI c)) noX) 0 0 0 0 := by
  refine z_meth (by decide) rfl (Nat.le_of_ble_eq_true rfl) (fun p e s mm as bl me cd Z hr hnm ht => ?_)
  refine z_iconst Z (nI 0) d_thingsInRoots_0 zi_0 ?_
  refine z_istore_n Z 1 d_thingsInRoots_1 rfl (by decide) rfl ?_
  refine z_iconst Z (nI 0) d_thingsInRoots_2 zi_0 ?_
  refine z_istore_n Z 2 d_thingsInRoots_3 rfl (by decide) rfl ?_
  refine z_lv (lv' := [(0, .ref (h 0)), (1, .int 0), (2, .int (nI 0))]) rfl ?_
  refine z_loop (fun q : Nat × Int32 => q.1 ≤ 6 ∧ lo24 q.2 ∧ ∀ c, c < 24 → (bt q.2 c = true ↔ ∃ r, r < q.1 ∧ σ 10 r = nI c)) (fun q : Nat × Int32 => 6 - q.1) (fun q : Nat × Int32 => wx h cI σ) (fun q : Nat × Int32 => [(0, .ref (h 0)), (1, .int q.2), (2, .int (nI q.1))]) (fun q hi ih => ?_) (0, 0) ⟨by omega, lo24_0, fun c hc => ⟨fun q => (by rw [b_0] at q; cases q), fun ⟨r, hr, _⟩ => absurd hr (Nat.not_lt_zero _)⟩⟩
  obtain ⟨i, x⟩ := q
  dsimp only at hi ih ⊢
  refine z_iload_n Z 2 d_thingsInRoots_4 rfl rfl ?_
  refine z_bipush Z (nI 6) d_thingsInRoots_5 zb_6 ?_
  refine z_icmpN_ge Z 37 d_thingsInRoots_7 (by decide) (by omega) (by omega) (fun h7 => ?_) (fun h7 => ?_)
  · refine z_iload_n Z 1 d_thingsInRoots_37 rfl rfl ?_
    refine z_ri0 Z hr rfl d_thingsInRoots_38 (by decide) (by decide) ?_
    obtain rfl : i = 6 := by omega
    exact ⟨hi.2.1, hi.2.2⟩
  · refine z_aload_n Z 0 d_thingsInRoots_10 rfl rfl ?_
    refine xg_10 Z d_thingsInRoots_11 ?_
    refine z_iload_n Z 2 d_thingsInRoots_14 rfl rfl ?_
    refine xl_10 Z (by omega) d_thingsInRoots_15 ?_
    refine z_iconst Z (-1) d_thingsInRoots_16 zi_m1 ?_
    refine z_icmp_eq Z 31 d_thingsInRoots_17 (by decide) (fun h17 => ?_) (fun h17 => ?_)
    · refine z_iincN Z 2 d_thingsInRoots_31 rfl (by decide) rfl ?_
      refine z_goto Z 4 d_thingsInRoots_34 (by decide) ?_
      exact z_lv rfl (ih (i + 1, x) ⟨by omega, hi.2.1, set_no hi.2.2 (fun c hc q => nI_m1 (by omega) (q.symm.trans h17))⟩ (by dsimp only; omega))
    · obtain ⟨d, hd, ed⟩ := nc_cl (hw.2.2.2.2.2.1 i (by omega)) h17
      refine z_iload_n Z 1 d_thingsInRoots_20 rfl rfl ?_
      refine z_iconst Z (nI 1) d_thingsInRoots_21 zi_1 ?_
      refine z_aload_n Z 0 d_thingsInRoots_22 rfl rfl ?_
      refine xg_10 Z d_thingsInRoots_23 ?_
      refine z_iload_n Z 2 d_thingsInRoots_26 rfl rfl ?_
      refine xl_10 Z (by omega) d_thingsInRoots_27 ?_
      refine z_eqi ed ?_
      refine z_ishl Z d_thingsInRoots_28 ?_
      refine z_ior Z d_thingsInRoots_29 ?_
      refine z_istore_n Z 1 d_thingsInRoots_30 rfl (by decide) rfl ?_
      refine z_iincN Z 2 d_thingsInRoots_31 rfl (by decide) rfl ?_
      refine z_goto Z 4 d_thingsInRoots_34 (by decide) ?_
      exact z_lv rfl (ih (i + 1, _) ⟨by omega, lo24_or hi.2.1 (lo24_one hd), set_or hi.2.2 hd ed⟩ (by dsimp only; omega))
set_option maxHeartbeats 4000000 in
set_option maxRecDepth 100000 in
theorem c_thingsInQueue {l : Launch} {D : va_G} {cI cB cL : ClassId} {h : Nat → Nat} {σ : St} (hw : wf σ) {w : Nat} (hq : w ≤ 24) (eq : σ 0 1 = nI w) : zMet l y_thingsInQueue w_thingsInQueue rm_thingsInQueue D zCl (zTy cI cB cL) (wx h cI σ) [.ref (h 0)] (qi0 (wx h cI σ) (fun v => lo24 v ∧ ∀ c, c < 24 → (bt v c = true ↔ ∃ r, r < w ∧ σ 11 r = nI c)) noX) 0 0 0 0 := by
  refine z_meth (by decide) rfl (Nat.le_of_ble_eq_true rfl) (fun p e s mm as bl me cd Z hr hnm ht => ?_)
  refine z_iconst Z (nI 0) d_thingsInQueue_0 zi_0 ?_
  refine z_istore_n Z 1 d_thingsInQueue_1 rfl (by decide) rfl ?_
  refine z_iconst Z (nI 0) d_thingsInQueue_2 zi_0 ?_
  refine z_istore_n Z 2 d_thingsInQueue_3 rfl (by decide) rfl ?_
  refine z_lv (lv' := [(0, .ref (h 0)), (1, .int 0), (2, .int (nI 0))]) rfl ?_
  refine z_loop (fun q : Nat × Int32 => q.1 ≤ w ∧ lo24 q.2 ∧ ∀ c, c < 24 → (bt q.2 c = true ↔ ∃ r, r < q.1 ∧ σ 11 r = nI c)) (fun q : Nat × Int32 => w - q.1) (fun q : Nat × Int32 => wx h cI σ) (fun q : Nat × Int32 => [(0, .ref (h 0)), (1, .int q.2), (2, .int (nI q.1))]) (fun q hi ih => ?_) (0, 0) ⟨by omega, lo24_0, fun c hc => ⟨fun q => (by rw [b_0] at q; cases q), fun ⟨r, hr, _⟩ => absurd hr (Nat.not_lt_zero _)⟩⟩
  obtain ⟨i, x⟩ := q
  dsimp only at hi ih ⊢
  refine z_iload_n Z 2 d_thingsInQueue_4 rfl rfl ?_
  refine z_aload_n Z 0 d_thingsInQueue_5 rfl rfl ?_
  refine xn_1 Z d_thingsInQueue_6 ?_
  refine z_eqi eq ?_
  refine z_icmpN_ge Z 29 d_thingsInQueue_9 (by decide) (by omega) (by omega) (fun h9 => ?_) (fun h9 => ?_)
  · refine z_iload_n Z 1 d_thingsInQueue_29 rfl rfl ?_
    refine z_ri0 Z hr rfl d_thingsInQueue_30 (by decide) (by decide) ?_
    obtain rfl : i = w := by omega
    exact ⟨hi.2.1, hi.2.2⟩
  · obtain ⟨d, hd, ed⟩ := hw.2.2.2.2.2.2.1 i (by omega)
    refine z_iload_n Z 1 d_thingsInQueue_12 rfl rfl ?_
    refine z_iconst Z (nI 1) d_thingsInQueue_13 zi_1 ?_
    refine z_aload_n Z 0 d_thingsInQueue_14 rfl rfl ?_
    refine xg_11 Z d_thingsInQueue_15 ?_
    refine z_iload_n Z 2 d_thingsInQueue_18 rfl rfl ?_
    refine xl_11 Z (by omega) d_thingsInQueue_19 ?_
    refine z_eqi ed ?_
    refine z_ishl Z d_thingsInQueue_20 ?_
    refine z_ior Z d_thingsInQueue_21 ?_
    refine z_istore_n Z 1 d_thingsInQueue_22 rfl (by decide) rfl ?_
    refine z_iincN Z 2 d_thingsInQueue_23 rfl (by decide) rfl ?_
    refine z_goto Z 4 d_thingsInQueue_26 (by decide) ?_
    exact z_lv rfl (ih (i + 1, _) ⟨by omega, lo24_or hi.2.1 (lo24_one hd), set_or hi.2.2 hd ed⟩ (by dsimp only; omega))
set_option maxHeartbeats 4000000 in
set_option maxRecDepth 100000 in
theorem c_thingsInFields {l : Launch} {D : va_G} {cI cB cL : ClassId} {h : Nat → Nat} {σ : St} (hw : wf σ) {c : Nat} (hc : c < 24) : zMet l y_thingsInFields w_thingsInFields rm_thingsInFields D zCl (zTy cI cB cL) (wx h cI σ) [.ref (h 0), .int (nI c)] (qi0 (wx h cI σ) (fun v => lo24 v ∧ ∀ d, d < 24 → (bt v d = true ↔ ∃ f, f < 3 ∧ σ 3 (c * 3 + f) = nI d)) noX) 0 0 0 0 := by
  refine z_meth (by decide) rfl (Nat.le_of_ble_eq_true rfl) (fun p e s mm as bl me cd Z hr hnm ht => ?_)
  refine z_iconst Z (nI 0) d_thingsInFields_0 zi_0 ?_
  refine z_istore_n Z 2 d_thingsInFields_1 rfl (by decide) rfl ?_
  refine z_iconst Z (nI 0) d_thingsInFields_2 zi_0 ?_
  refine z_istore_n Z 3 d_thingsInFields_3 rfl (by decide) rfl ?_
  refine z_lv (lv' := [(0, .ref (h 0)), (1, .int (nI c)), (2, .int 0), (3, .int (nI 0))]) rfl ?_
  refine z_loop (fun q : Nat × Int32 => q.1 ≤ 3 ∧ lo24 q.2 ∧ ∀ d, d < 24 → (bt q.2 d = true ↔ ∃ f, f < q.1 ∧ σ 3 (c * 3 + f) = nI d)) (fun q : Nat × Int32 => 3 - q.1) (fun q : Nat × Int32 => wx h cI σ) (fun q : Nat × Int32 => [(0, .ref (h 0)), (1, .int (nI c)), (2, .int q.2), (3, .int (nI q.1))]) (fun q hi ih => ?_) (0, 0) ⟨by omega, lo24_0, fun c hc => ⟨fun q => (by rw [b_0] at q; cases q), fun ⟨r, hr, _⟩ => absurd hr (Nat.not_lt_zero _)⟩⟩
  obtain ⟨i, x⟩ := q
  dsimp only at hi ih ⊢
  refine z_iload_n Z 3 d_thingsInFields_4 rfl rfl ?_
  refine z_iconst Z (nI 3) d_thingsInFields_5 zi_3 ?_
  refine z_icmpN_ge Z 40 d_thingsInFields_6 (by decide) (by omega) (by omega) (fun h6 => ?_) (fun h6 => ?_)
  · refine z_iload_n Z 2 d_thingsInFields_40 rfl rfl ?_
    refine z_ri0 Z hr rfl d_thingsInFields_41 (by decide) (by decide) ?_
    obtain rfl : i = 3 := by omega
    exact ⟨hi.2.1, hi.2.2⟩
  · refine z_aload_n Z 0 d_thingsInFields_9 rfl rfl ?_
    refine xg_3 Z d_thingsInFields_10 ?_
    refine z_iload_n Z 1 d_thingsInFields_13 rfl rfl ?_
    refine z_iload_n Z 3 d_thingsInFields_14 rfl rfl ?_
    refine z_S0 Z (c_fieldSlot ) (ok_fieldSlot _) rfl rfl ⟨by decide, by decide⟩ rfl rfl (Nat.le_of_ble_eq_true rfl) d_thingsInFields_15 ⟨by decide, by decide⟩ (fun v15 h15 => ?_)
    subst h15
    refine xl_3 Z (by omega) d_thingsInFields_18 ?_
    refine z_istore Z 4 d_thingsInFields_19 (by decide) rfl ?_
    refine z_iload Z 4 d_thingsInFields_21 rfl ?_
    refine z_iconst Z (-1) d_thingsInFields_23 zi_m1 ?_
    refine z_icmp_eq Z 34 d_thingsInFields_24 (by decide) (fun h24 => ?_) (fun h24 => ?_)
    · refine z_iincN Z 3 d_thingsInFields_34 rfl (by decide) rfl ?_
      refine z_goto Z 4 d_thingsInFields_37 (by decide) ?_
      exact z_lv rfl (ih (i + 1, x) ⟨by omega, hi.2.1, set_no hi.2.2 (fun c hc q => nI_m1 (by omega) (q.symm.trans h24))⟩ (by dsimp only; omega))
    · obtain ⟨d, hd, ed⟩ := nc_cl (hw.2.1 (c * 3 + i) (by omega)) h24
      refine z_iload_n Z 2 d_thingsInFields_27 rfl rfl ?_
      refine z_iconst Z (nI 1) d_thingsInFields_28 zi_1 ?_
      refine z_iload Z 4 d_thingsInFields_29 rfl ?_
      refine z_eqi ed ?_
      refine z_ishl Z d_thingsInFields_31 ?_
      refine z_ior Z d_thingsInFields_32 ?_
      refine z_istore_n Z 2 d_thingsInFields_33 rfl (by decide) rfl ?_
      refine z_iincN Z 3 d_thingsInFields_34 rfl (by decide) rfl ?_
      refine z_goto Z 4 d_thingsInFields_37 (by decide) ?_
      exact z_lv rfl (ih (i + 1, _) ⟨by omega, lo24_or hi.2.1 (lo24_one hd), set_or hi.2.2 hd ed⟩ (by dsimp only; omega))
set_option maxHeartbeats 4000000 in
set_option maxRecDepth 100000 in
theorem c_valuesOfKeysIn {l : Launch} {D : va_G} {cI cB cL : ClassId} {h : Nat → Nat} {σ : St} (hw : wf σ) {c : Nat} (hc : c < 24) {x : Int32} : zMet l y_valuesOfKeysIn w_valuesOfKeysIn rm_valuesOfKeysIn D zCl (zTy cI cB cL) (wx h cI σ) [.ref (h 0), .int (nI c), .int x] (qi0 (wx h cI σ) (fun v => lo24 v ∧ ∀ d, d < 24 → (bt v d = true ↔ ∃ i, i < cnt σ c ∧ (∃ k, k < 24 ∧ σ 4 (c * 4 + i) = nI k ∧ bt x k = true) ∧ σ 5 (c * 4 + i) = nI d)) noX) 0 0 0 0 := by
  have e6 : σ 6 c = nI (cnt σ c) := (wf_cnt hw hc).2
  have n6 : cnt σ c ≤ 4 := (wf_cnt hw hc).1
  refine z_meth (by decide) rfl (Nat.le_of_ble_eq_true rfl) (fun p e s mm as bl me cd Z hr hnm ht => ?_)
  refine z_iconst Z (nI 0) d_valuesOfKeysIn_0 zi_0 ?_
  refine z_istore_n Z 3 d_valuesOfKeysIn_1 rfl (by decide) rfl ?_
  refine z_iconst Z (nI 0) d_valuesOfKeysIn_2 zi_0 ?_
  refine z_istore Z 4 d_valuesOfKeysIn_3 (by decide) rfl ?_
  refine z_lv (lv' := [(0, .ref (h 0)), (1, .int (nI c)), (2, .int x), (3, .int 0), (4, .int (nI 0))]) rfl ?_
  refine z_loop (fun q : Nat × Int32 => q.1 ≤ cnt σ c ∧ lo24 q.2 ∧ ∀ d, d < 24 → (bt q.2 d = true ↔ ∃ i, i < q.1 ∧ (∃ k, k < 24 ∧ σ 4 (c * 4 + i) = nI k ∧ bt x k = true) ∧ σ 5 (c * 4 + i) = nI d)) (fun q : Nat × Int32 => cnt σ c - q.1) (fun q : Nat × Int32 => wx h cI σ) (fun q : Nat × Int32 => [(0, .ref (h 0)), (1, .int (nI c)), (2, .int x), (3, .int q.2), (4, .int (nI q.1))]) (fun q hi ih => ?_) (0, 0) ⟨by omega, lo24_0, fun c hc => ⟨fun q => (by rw [b_0] at q; cases q), fun ⟨r, hr, _⟩ => absurd hr (Nat.not_lt_zero _)⟩⟩
  obtain ⟨i, y⟩ := q
  dsimp only at hi ih ⊢
  refine z_iload Z 4 d_valuesOfKeysIn_5 rfl ?_
  refine z_aload_n Z 0 d_valuesOfKeysIn_7 rfl rfl ?_
  refine xg_6 Z d_valuesOfKeysIn_8 ?_
  refine z_iload_n Z 1 d_valuesOfKeysIn_11 rfl rfl ?_
  refine xl_6 Z (by omega) d_valuesOfKeysIn_12 ?_
  refine z_eqi e6 ?_
  refine z_icmpN_ge Z 56 d_valuesOfKeysIn_13 (by decide) (by omega) (by omega) (fun h13 => ?_) (fun h13 => ?_)
  · refine z_iload_n Z 3 d_valuesOfKeysIn_56 rfl rfl ?_
    refine z_ri0 Z hr rfl d_valuesOfKeysIn_57 (by decide) (by decide) ?_
    obtain rfl : i = cnt σ c := by omega
    exact ⟨hi.2.1, hi.2.2⟩
  · refine z_iload_n Z 1 d_valuesOfKeysIn_16 rfl rfl ?_
    refine z_iload Z 4 d_valuesOfKeysIn_17 rfl ?_
    refine z_S0 Z (c_entrySlot ) (ok_entrySlot _) rfl rfl ⟨by decide, by decide⟩ rfl rfl (Nat.le_of_ble_eq_true rfl) d_valuesOfKeysIn_19 ⟨by decide, by decide⟩ (fun v19 h19 => ?_)
    subst h19
    refine z_istore Z 5 d_valuesOfKeysIn_22 (by decide) rfl ?_
    obtain ⟨k, hk, ek⟩ := hw.2.2.1 (c * 4 + i) (by omega)
    obtain ⟨d, hd, ed⟩ := hw.2.2.2.1 (c * 4 + i) (by omega)
    refine z_iload_n Z 2 d_valuesOfKeysIn_24 rfl rfl ?_
    refine z_aload_n Z 0 d_valuesOfKeysIn_25 rfl rfl ?_
    refine xg_4 Z d_valuesOfKeysIn_26 ?_
    refine z_iload Z 5 d_valuesOfKeysIn_29 rfl ?_
    refine xl_4 Z (by omega) d_valuesOfKeysIn_31 ?_
    refine z_eqi ek ?_
    refine z_S0 Z (c_contains (by omega)) (ok_contains _) rfl rfl ⟨by decide, by decide⟩ rfl rfl (Nat.le_of_ble_eq_true rfl) d_valuesOfKeysIn_32 ⟨by decide, by decide⟩ (fun v32 h32 => ?_)
    refine z_if_eq Z 50 d_valuesOfKeysIn_35 (by decide) (fun h35 => ?_) (fun h35 => ?_)
    · refine z_iincN Z 4 d_valuesOfKeysIn_50 rfl (by decide) rfl ?_
      refine z_goto Z 5 d_valuesOfKeysIn_53 (by decide) ?_
      exact z_lv rfl (ih (i + 1, y) ⟨by omega, hi.2.1, set_noK hi.2.2 (fun ⟨k2, hk2, q1, q2⟩ => by rw [← (nI_eq (by omega) (by omega)).mp (ek.symm.trans q1), zB0 h32 h35] at q2; cases q2)⟩ (by dsimp only; omega))
    · refine z_iload_n Z 3 d_valuesOfKeysIn_38 rfl rfl ?_
      refine z_iconst Z (nI 1) d_valuesOfKeysIn_39 zi_1 ?_
      refine z_aload_n Z 0 d_valuesOfKeysIn_40 rfl rfl ?_
      refine xg_5 Z d_valuesOfKeysIn_41 ?_
      refine z_iload Z 5 d_valuesOfKeysIn_44 rfl ?_
      refine xl_5 Z (by omega) d_valuesOfKeysIn_46 ?_
      refine z_eqi ed ?_
      refine z_ishl Z d_valuesOfKeysIn_47 ?_
      refine z_ior Z d_valuesOfKeysIn_48 ?_
      refine z_istore_n Z 3 d_valuesOfKeysIn_49 rfl (by decide) rfl ?_
      refine z_iincN Z 4 d_valuesOfKeysIn_50 rfl (by decide) rfl ?_
      refine z_goto Z 5 d_valuesOfKeysIn_53 (by decide) ?_
      exact z_lv rfl (ih (i + 1, _) ⟨by omega, lo24_or hi.2.1 (lo24_one hd), set_orK hi.2.2 hd ed ⟨k, hk, ek, zB1 h32 h35⟩⟩ (by dsimp only; omega))
set_option maxHeartbeats 4000000 in
set_option maxRecDepth 100000 in
theorem c_thingsHeldBy {l : Launch} {D : va_G} {cI cB cL : ClassId} {h : Nat → Nat} {σ : St} (hw : wf σ) {c : Nat} (hc : c < 24) {x : Int32} : zMet l y_thingsHeldBy w_thingsHeldBy rm_thingsHeldBy D zCl (zTy cI cB cL) (wx h cI σ) [.ref (h 0), .int (nI c), .int x] (qi0 (wx h cI σ) (fun v => lo24 v ∧ ∀ d, d < 24 → (bt v d = true ↔ hld σ (fun k => bt x k = true) c d)) noX) 0 0 0 0 := by
  refine z_meth (by decide) rfl (Nat.le_of_ble_eq_true rfl) (fun p e s mm as bl me cd Z hr hnm ht => ?_)
  refine z_aload_n Z 0 d_thingsHeldBy_0 rfl rfl ?_
  refine xg_1 Z d_thingsHeldBy_1 ?_
  refine z_iload_n Z 1 d_thingsHeldBy_4 rfl rfl ?_
  refine xl_1 Z (by omega) d_thingsHeldBy_5 ?_
  refine z_if_ne Z 15 d_thingsHeldBy_6 (by decide) (fun h6 => ?_) (fun h6 => ?_)
  · refine z_aload_n Z 0 d_thingsHeldBy_15 rfl rfl ?_
    refine xg_1 Z d_thingsHeldBy_16 ?_
    refine z_iload_n Z 1 d_thingsHeldBy_19 rfl rfl ?_
    refine xl_1 Z (by omega) d_thingsHeldBy_20 ?_
    refine z_iconst Z (nI 2) d_thingsHeldBy_21 zi_2 ?_
    refine z_icmp_ne Z 34 d_thingsHeldBy_22 (by decide) (fun h22 => ?_) (fun h22 => ?_)
    · refine z_iconst Z (nI 0) d_thingsHeldBy_34 zi_0 ?_
      refine z_ri0 Z hr rfl d_thingsHeldBy_35 (by decide) (by decide) ?_
      exact ⟨lo24_0, fun d hd => ⟨fun q => (by rw [show nI 0 = 0 from rfl, b_0] at q; cases q), fun q => (hld_n h6 h22 q).elim⟩⟩
    · refine z_aload_n Z 0 d_thingsHeldBy_25 rfl rfl ?_
      refine z_iload_n Z 1 d_thingsHeldBy_26 rfl rfl ?_
      refine z_iload_n Z 2 d_thingsHeldBy_27 rfl rfl ?_
      refine z_Wi0 Z (c_valuesOfKeysIn hw hc) (ok_valuesOfKeysIn _) rfl rfl ⟨by decide, by decide⟩ rfl rfl rfl rfl (Nat.le_of_ble_eq_true rfl) d_thingsHeldBy_28 ⟨by decide, by decide⟩ (fun E h => h.elim) (fun v28 h28 => ?_)
      refine z_goto Z 35 d_thingsHeldBy_31 (by decide) ?_
      refine z_ri0 Z hr rfl d_thingsHeldBy_35 (by decide) (by decide) ?_
      exact ⟨h28.1, fun d hd => (h28.2 d hd).trans (hld_t h22)⟩
  · refine z_aload_n Z 0 d_thingsHeldBy_9 rfl rfl ?_
    refine z_iload_n Z 1 d_thingsHeldBy_10 rfl rfl ?_
    refine z_Wi0 Z (c_thingsInFields hw hc) (ok_thingsInFields _) rfl rfl ⟨by decide, by decide⟩ rfl rfl rfl rfl (Nat.le_of_ble_eq_true rfl) d_thingsHeldBy_11 ⟨by decide, by decide⟩ (fun E h => h.elim) (fun v11 h11 => ?_)
    refine z_ri0 Z hr rfl d_thingsHeldBy_14 (by decide) (by decide) ?_
    exact ⟨h11.1, fun d hd => (h11.2 d hd).trans (hld_r h6)⟩
