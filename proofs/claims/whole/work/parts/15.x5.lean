set_option maxHeartbeats 4000000 in
set_option maxRecDepth 100000 in
theorem c_collect {l : Launch} {D : va_G} {cI cB cL : ClassId} {h : Nat → Nat} {σ : St} (hw : wf σ) (hq : qI σ) : zMet l y_collect w_collect rm_collect D zCl (zTy cI cB cL) (wx h cI σ) [.ref (h 0)] (qi (wx h cI) (fun v u => colX σ v u) noXs) 0 0 0 0 := by
  refine z_meth (by decide) rfl (Nat.le_of_ble_eq_true rfl) (fun p e s mm as bl me cd Z hr hnm ht => ?_)
  refine z_aload_n Z 0 d_collect_0 rfl rfl ?_
  refine z_dup Z d_collect_1 ?_
  refine xn_3 Z d_collect_2 ?_
  refine z_iconst Z (nI 1) d_collect_5 zi_1 ?_
  refine z_iadd Z d_collect_6 ?_
  refine xp_3 Z d_collect_7 ?_
  refine z_aload_n Z 0 d_collect_10 rfl rfl ?_
  refine z_aload_n Z 0 d_collect_11 rfl rfl ?_
  refine z_Wi0 Z (c_thingsInRoots (wf_0 hw)) (ok_thingsInRoots _) rfl rfl ⟨by decide, by decide⟩ rfl rfl rfl rfl (Nat.le_of_ble_eq_true rfl) d_collect_12 ⟨by decide, by decide⟩ (fun E h => h.elim) (fun v12 h12 => ?_)
  refine z_Wi0 Z (c_closureOf (wf_0 hw) h12.1) (ok_closureOf _) rfl rfl ⟨by decide, by decide⟩ rfl rfl rfl rfl (Nat.le_of_ble_eq_true rfl) d_collect_15 ⟨by decide, by decide⟩ (fun E h => h.elim) (fun v15 h15 => ?_)
  refine z_istore_n Z 1 d_collect_18 rfl (by decide) rfl ?_
  refine z_aload_n Z 0 d_collect_19 rfl rfl ?_
  refine z_iload_n Z 1 d_collect_20 rfl rfl ?_
  refine z_Wv Z (c_forgetOutside (wf_0 hw)) (ok_forgetOutside _) rfl rfl ⟨by decide, by decide⟩ rfl rfl rfl rfl (Nat.le_of_ble_eq_true rfl) d_collect_21 ⟨by decide, by decide⟩ (fun E u h => h.elim) (fun u21 h21 => ?_)
  refine z_aload_n Z 0 d_collect_24 rfl rfl ?_
  refine z_aload_n Z 0 d_collect_25 rfl rfl ?_
  refine xn_0 Z d_collect_26 ?_
  refine z_iload_n Z 1 d_collect_29 rfl rfl ?_
  refine z_iconst Z (-1) d_collect_30 zi_m1 ?_
  refine z_ixor Z d_collect_31 ?_
  refine z_iand Z d_collect_32 ?_
  refine z_Wv Z (c_queueWaiting (fgo_wf h21) (qI_fgo h21 (qI_col hq))) (ok_queueWaiting _) rfl rfl ⟨by decide, by decide⟩ rfl rfl rfl rfl (Nat.le_of_ble_eq_true rfl) d_collect_33 ⟨by decide, by decide⟩ (fun E u h => h.elim) (fun u33 h33 => ?_)
  subst h33
  obtain ⟨hw3, hq3⟩ := qst_ok (fgo_wf h21) (qI_fgo h21 (qI_col hq)) (fun d => bt _ d) (Nat.le_refl 24)
  obtain ⟨w, hw24, ew, -, -⟩ := id hq3
  refine z_aload_n Z 0 d_collect_36 rfl rfl ?_
  refine z_iload_n Z 1 d_collect_37 rfl rfl ?_
  refine z_aload_n Z 0 d_collect_38 rfl rfl ?_
  refine z_Wi0 Z (c_thingsInQueue hw3 hw24 ew) (ok_thingsInQueue _) rfl rfl ⟨by decide, by decide⟩ rfl rfl rfl rfl (Nat.le_of_ble_eq_true rfl) d_collect_39 ⟨by decide, by decide⟩ (fun E h => h.elim) (fun v39 h39 => ?_)
  refine z_ior Z d_collect_42 ?_
  refine z_Wi0 Z (c_closureOf hw3 (lo24_or h15.1 h39.1)) (ok_closureOf _) rfl rfl ⟨by decide, by decide⟩ rfl rfl rfl rfl (Nat.le_of_ble_eq_true rfl) d_collect_43 ⟨by decide, by decide⟩ (fun E h => h.elim) (fun v43 h43 => ?_)
  refine z_istore_n Z 2 d_collect_46 rfl (by decide) rfl ?_
  refine z_aload_n Z 0 d_collect_47 rfl rfl ?_
  refine z_iload_n Z 2 d_collect_48 rfl rfl ?_
  refine z_Wv Z (c_forgetOutside hw3) (ok_forgetOutside _) rfl rfl ⟨by decide, by decide⟩ rfl rfl rfl rfl (Nat.le_of_ble_eq_true rfl) d_collect_49 ⟨by decide, by decide⟩ (fun E u h => h.elim) (fun u49 h49 => ?_)
  refine z_aload_n Z 0 d_collect_52 rfl rfl ?_
  refine xn_0 Z d_collect_53 ?_
  refine z_iload_n Z 2 d_collect_56 rfl rfl ?_
  refine z_iconst Z (-1) d_collect_57 zi_m1 ?_
  refine z_ixor Z d_collect_58 ?_
  refine z_iand Z d_collect_59 ?_
  refine z_S0 Z (c_bitCount) (ok_bitCount _) rfl rfl ⟨by decide, by decide⟩ rfl rfl (Nat.le_of_ble_eq_true rfl) d_collect_60 ⟨by decide, by decide⟩ (fun v60 h60 => ?_)
  refine z_istore_n Z 3 d_collect_63 rfl (by decide) rfl ?_
  refine z_aload_n Z 0 d_collect_64 rfl rfl ?_
  refine z_iload_n Z 2 d_collect_65 rfl rfl ?_
  refine xp_0 Z d_collect_66 ?_
  refine z_iload_n Z 3 d_collect_69 rfl rfl ?_
  refine z_ri Z _ hr rfl d_collect_70 (by decide) (by decide) rfl ?_
  exact ⟨_, _, _, _, w, _, _, h12, h15, h21, hw24, ew, h39, h43, h49, h60, rfl⟩
