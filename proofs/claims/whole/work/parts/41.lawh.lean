set_option maxHeartbeats 4000000 in
set_option maxRecDepth 100000 in
theorem c_l_kind {l : Launch} {D : va_G} {cI cB cL : ClassId} {h : Nat → Nat} {σ : St} {o : Nat} {g : Nat → Int64} (hlt : l.stackTraces = false) {x : Int32} : zMet l y_l_kind w_l_kind rm_l_kind D zCl (zTy cI cB cL) (wo o cL g h cI σ) [.ref (h 0), .int x, .ref o] (qi (fun u : (Nat → Int64) × St => wo o cL u.1 h cI u.2) (fun kk u => (kk = nI 0 ∧ u.2 = σ ∧ ∃ z, (fun v => ∃ c, c < 24 ∧ x = nI c ∧ bt (σ 0 0) c = true ∧ v = σ 1 c + nI 4 * σ 7 c) z ∧ u.1 0 = z.toInt64) ∨ (kk = nI 1 ∧ u.2 = σ ∧ (fun E => E = "java/util/NoSuchElementException" ∧ ¬ isT σ x) "java/util/NoSuchElementException")) noXs) 1 6 1 6 := by
  refine z_methW (by decide) rfl (Nat.le_of_ble_eq_true rfl) (fun p e s mm as bl me cd Z hr ht => ?_)
  refine z_aload_n Z 2 d_l_kind_0 rfl rfl ?_
  refine z_iconst Z (nI 0) d_l_kind_1 zi_0 ?_
  refine z_aload_n Z 0 d_l_kind_2 rfl rfl ?_
  refine z_iload_n Z 1 d_l_kind_3 rfl rfl ?_
  refine z_Vi0 (pre := [(o, .inl (cL, 1, .inr (.inl g)))]) (wc := wx h cI σ) (suf := []) Z (c_kind hlt) (ok_lx_kind _) rfl rfl ⟨by decide, by decide⟩ rfl rfl rfl rfl rfl (Nat.le_of_ble_eq_true rfl) d_l_kind_4 ⟨by decide, by decide⟩ (fun E hX => ?_) (fun v hP => ?_)
  · rcases id hX with ⟨rfl, -⟩
    refine z_catch Z [] ⟨0, 9, 12, 21⟩ [] ht (fun _ hh => absurd hh List.not_mem_nil) (by decide) (by decide) (Z.2.2.2.2.1 _ (lk_L_N _)) (z_cast Z (by decide)) (fun q => ?_)
    refine z_astore_n Z 3 d_l_kind_12 rfl (by decide) rfl ?_
    refine z_iconst Z (nI 1) d_l_kind_13 zi_1 ?_
    refine z_ri Z (g, σ) hr rfl d_l_kind_14 (by decide) (by decide) rfl ?_
    exact Or.inr (⟨rfl, rfl, hX⟩)
  · refine z_ws (ws' := wo o cL g h cI σ) rfl ?_
    refine z_i2l Z d_l_kind_7 ?_
    refine z_last (ws' := wo o cL (vp_updL g 0 v.toInt64) h cI σ) Z 0 2 rfl rfl (by decide) (by decide) d_l_kind_8 rfl ?_
    refine z_goto Z 15 d_l_kind_9 (by decide) ?_
    refine z_iconst Z (nI 0) d_l_kind_15 zi_0 ?_
    refine z_ri Z ((vp_updL g 0 v.toInt64), σ) hr rfl d_l_kind_16 (by decide) (by decide) rfl ?_
    exact Or.inl (⟨rfl, rfl, v, hP, rfl⟩)
set_option maxHeartbeats 4000000 in
set_option maxRecDepth 100000 in
theorem c_l_serial {l : Launch} {D : va_G} {cI cB cL : ClassId} {h : Nat → Nat} {σ : St} {o : Nat} {g : Nat → Int64} (hlt : l.stackTraces = false) {x : Int32} : zMet l y_l_serial w_l_serial rm_l_serial D zCl (zTy cI cB cL) (wo o cL g h cI σ) [.ref (h 0), .int x, .ref o] (qi (fun u : (Nat → Int64) × St => wo o cL u.1 h cI u.2) (fun kk u => (kk = nI 0 ∧ u.2 = σ ∧ ∃ z, (fun v => ∃ c, c < 24 ∧ x = nI c ∧ bt (σ 0 0) c = true ∧ v = σ 2 c) z ∧ u.1 0 = z.toInt64) ∨ (kk = nI 1 ∧ u.2 = σ ∧ (fun E => E = "java/util/NoSuchElementException" ∧ ¬ isT σ x) "java/util/NoSuchElementException")) noXs) 1 6 1 6 := by
  refine z_methW (by decide) rfl (Nat.le_of_ble_eq_true rfl) (fun p e s mm as bl me cd Z hr ht => ?_)
  refine z_aload_n Z 2 d_l_serial_0 rfl rfl ?_
  refine z_iconst Z (nI 0) d_l_serial_1 zi_0 ?_
  refine z_aload_n Z 0 d_l_serial_2 rfl rfl ?_
  refine z_iload_n Z 1 d_l_serial_3 rfl rfl ?_
  refine z_Vi0 (pre := [(o, .inl (cL, 1, .inr (.inl g)))]) (wc := wx h cI σ) (suf := []) Z (c_serial hlt) (ok_lx_serial _) rfl rfl ⟨by decide, by decide⟩ rfl rfl rfl rfl rfl (Nat.le_of_ble_eq_true rfl) d_l_serial_4 ⟨by decide, by decide⟩ (fun E hX => ?_) (fun v hP => ?_)
  · rcases id hX with ⟨rfl, -⟩
    refine z_catch Z [] ⟨0, 9, 12, 21⟩ [] ht (fun _ hh => absurd hh List.not_mem_nil) (by decide) (by decide) (Z.2.2.2.2.1 _ (lk_L_N _)) (z_cast Z (by decide)) (fun q => ?_)
    refine z_astore_n Z 3 d_l_serial_12 rfl (by decide) rfl ?_
    refine z_iconst Z (nI 1) d_l_serial_13 zi_1 ?_
    refine z_ri Z (g, σ) hr rfl d_l_serial_14 (by decide) (by decide) rfl ?_
    exact Or.inr (⟨rfl, rfl, hX⟩)
  · refine z_ws (ws' := wo o cL g h cI σ) rfl ?_
    refine z_i2l Z d_l_serial_7 ?_
    refine z_last (ws' := wo o cL (vp_updL g 0 v.toInt64) h cI σ) Z 0 2 rfl rfl (by decide) (by decide) d_l_serial_8 rfl ?_
    refine z_goto Z 15 d_l_serial_9 (by decide) ?_
    refine z_iconst Z (nI 0) d_l_serial_15 zi_0 ?_
    refine z_ri Z ((vp_updL g 0 v.toInt64), σ) hr rfl d_l_serial_16 (by decide) (by decide) rfl ?_
    exact Or.inl (⟨rfl, rfl, v, hP, rfl⟩)
set_option maxHeartbeats 4000000 in
set_option maxRecDepth 100000 in
theorem c_l_rootAt {l : Launch} {D : va_G} {cI cB cL : ClassId} {h : Nat → Nat} {σ : St} {o : Nat} {g : Nat → Int64} (hlt : l.stackTraces = false) {r : Int32} : zMet l y_l_rootAt w_l_rootAt rm_l_rootAt D zCl (zTy cI cB cL) (wo o cL g h cI σ) [.ref (h 0), .int r, .ref o] (qi (fun u : (Nat → Int64) × St => wo o cL u.1 h cI u.2) (fun kk u => (kk = nI 0 ∧ u.2 = σ ∧ ∃ z, (fun v => ∃ j, j < 6 ∧ r = nI j ∧ v = σ 10 j) z ∧ u.1 0 = z.toInt64) ∨ (kk = nI 1 ∧ u.2 = σ ∧ (fun E => E = "java/lang/IndexOutOfBoundsException" ∧ ¬ isR r) "java/lang/IndexOutOfBoundsException")) noXs) 1 6 1 6 := by
  refine z_methW (by decide) rfl (Nat.le_of_ble_eq_true rfl) (fun p e s mm as bl me cd Z hr ht => ?_)
  refine z_aload_n Z 2 d_l_rootAt_0 rfl rfl ?_
  refine z_iconst Z (nI 0) d_l_rootAt_1 zi_0 ?_
  refine z_aload_n Z 0 d_l_rootAt_2 rfl rfl ?_
  refine z_iload_n Z 1 d_l_rootAt_3 rfl rfl ?_
  refine z_Vi0 (pre := [(o, .inl (cL, 1, .inr (.inl g)))]) (wc := wx h cI σ) (suf := []) Z (c_rootAt hlt) (ok_lx_rootAt _) rfl rfl ⟨by decide, by decide⟩ rfl rfl rfl rfl rfl (Nat.le_of_ble_eq_true rfl) d_l_rootAt_4 ⟨by decide, by decide⟩ (fun E hX => ?_) (fun v hP => ?_)
  · rcases id hX with ⟨rfl, -⟩
    refine z_catch Z [] ⟨0, 9, 12, 41⟩ [] ht (fun _ hh => absurd hh List.not_mem_nil) (by decide) (by decide) (Z.2.2.2.2.1 _ (lk_L_I _)) (z_cast Z (by decide)) (fun q => ?_)
    refine z_astore_n Z 3 d_l_rootAt_12 rfl (by decide) rfl ?_
    refine z_iconst Z (nI 1) d_l_rootAt_13 zi_1 ?_
    refine z_ri Z (g, σ) hr rfl d_l_rootAt_14 (by decide) (by decide) rfl ?_
    exact Or.inr (⟨rfl, rfl, hX⟩)
  · refine z_ws (ws' := wo o cL g h cI σ) rfl ?_
    refine z_i2l Z d_l_rootAt_7 ?_
    refine z_last (ws' := wo o cL (vp_updL g 0 v.toInt64) h cI σ) Z 0 2 rfl rfl (by decide) (by decide) d_l_rootAt_8 rfl ?_
    refine z_goto Z 15 d_l_rootAt_9 (by decide) ?_
    refine z_iconst Z (nI 0) d_l_rootAt_15 zi_0 ?_
    refine z_ri Z ((vp_updL g 0 v.toInt64), σ) hr rfl d_l_rootAt_16 (by decide) (by decide) rfl ?_
    exact Or.inl (⟨rfl, rfl, v, hP, rfl⟩)
set_option maxHeartbeats 4000000 in
set_option maxRecDepth 100000 in
theorem c_l_get {l : Launch} {D : va_G} {cI cB cL : ClassId} {h : Nat → Nat} {σ : St} {o : Nat} {g : Nat → Int64} (hlt : l.stackTraces = false) {x f : Int32} : zMet l y_l_get w_l_get rm_l_get D zCl (zTy cI cB cL) (wo o cL g h cI σ) [.ref (h 0), .int x, .int f, .ref o] (qi (fun u : (Nat → Int64) × St => wo o cL u.1 h cI u.2) (fun kk u => (kk = nI 0 ∧ u.2 = σ ∧ ∃ z, (fun v => ∃ c j, c < 24 ∧ x = nI c ∧ bt (σ 0 0) c = true ∧ j < fc (σ 1 c) ∧ f = nI j ∧ v = σ 3 (c * 3 + j)) z ∧ u.1 0 = z.toInt64) ∨ (kk = nI 1 ∧ u.2 = σ ∧ (fun E => (E = "java/util/NoSuchElementException" ∧ ¬ isT σ x) ∨ (E = "java/lang/IllegalArgumentException" ∧ isT σ x ∧ ¬ isF σ x f)) "java/util/NoSuchElementException") ∨ (kk = nI 2 ∧ u.2 = σ ∧ (fun E => (E = "java/util/NoSuchElementException" ∧ ¬ isT σ x) ∨ (E = "java/lang/IllegalArgumentException" ∧ isT σ x ∧ ¬ isF σ x f)) "java/lang/IllegalArgumentException")) noXs) 1 6 1 6 := by
  refine z_methW (by decide) rfl (Nat.le_of_ble_eq_true rfl) (fun p e s mm as bl me cd Z hr ht => ?_)
  refine z_aload_n Z 3 d_l_get_0 rfl rfl ?_
  refine z_iconst Z (nI 0) d_l_get_1 zi_0 ?_
  refine z_aload_n Z 0 d_l_get_2 rfl rfl ?_
  refine z_iload_n Z 1 d_l_get_3 rfl rfl ?_
  refine z_iload_n Z 2 d_l_get_4 rfl rfl ?_
  refine z_Vi0 (pre := [(o, .inl (cL, 1, .inr (.inl g)))]) (wc := wx h cI σ) (suf := []) Z (c_get hlt) (ok_lx_get _) rfl rfl ⟨by decide, by decide⟩ rfl rfl rfl rfl rfl (Nat.le_of_ble_eq_true rfl) d_l_get_5 ⟨by decide, by decide⟩ (fun E hX => ?_) (fun v hP => ?_)
  · rcases id hX with ⟨rfl, -⟩ | ⟨rfl, -⟩
    · refine z_catch Z [] ⟨0, 10, 13, 21⟩ [⟨0, 10, 17, 13⟩] ht (fun _ hh => absurd hh List.not_mem_nil) (by decide) (by decide) (Z.2.2.2.2.1 _ (lk_L_N _)) (z_cast Z (by decide)) (fun q => ?_)
      refine z_astore Z 4 d_l_get_13 (by decide) rfl ?_
      refine z_iconst Z (nI 1) d_l_get_15 zi_1 ?_
      refine z_ri Z (g, σ) hr rfl d_l_get_16 (by decide) (by decide) rfl ?_
      exact Or.inr (Or.inl (⟨rfl, rfl, hX⟩))
    · refine z_catch Z [⟨0, 10, 13, 21⟩] ⟨0, 10, 17, 13⟩ [] ht (List.forall_mem_cons.mpr ⟨Or.inr ⟨by decide, _, Z.2.2.2.2.1 _ (lk_L_N _), z_ncast Z (by decide)⟩, fun _ hh => absurd hh List.not_mem_nil⟩) (by decide) (by decide) (Z.2.2.2.2.1 _ (lk_L_A _)) (z_cast Z (by decide)) (fun q => ?_)
      refine z_astore Z 4 d_l_get_17 (by decide) rfl ?_
      refine z_iconst Z (nI 2) d_l_get_19 zi_2 ?_
      refine z_ri Z (g, σ) hr rfl d_l_get_20 (by decide) (by decide) rfl ?_
      exact Or.inr (Or.inr (⟨rfl, rfl, hX⟩))
  · refine z_ws (ws' := wo o cL g h cI σ) rfl ?_
    refine z_i2l Z d_l_get_8 ?_
    refine z_last (ws' := wo o cL (vp_updL g 0 v.toInt64) h cI σ) Z 0 2 rfl rfl (by decide) (by decide) d_l_get_9 rfl ?_
    refine z_goto Z 21 d_l_get_10 (by decide) ?_
    refine z_iconst Z (nI 0) d_l_get_21 zi_0 ?_
    refine z_ri Z ((vp_updL g 0 v.toInt64), σ) hr rfl d_l_get_22 (by decide) (by decide) rfl ?_
    exact Or.inl (⟨rfl, rfl, v, hP, rfl⟩)
set_option maxHeartbeats 4000000 in
set_option maxRecDepth 100000 in
theorem c_l_find {l : Launch} {D : va_G} {cI cB cL : ClassId} {h : Nat → Nat} {σ : St} {o : Nat} {g : Nat → Int64} (hlt : l.stackTraces = false) (hw : wf σ) {x k : Int32} : zMet l y_l_find w_l_find rm_l_find D zCl (zTy cI cB cL) (wo o cL g h cI σ) [.ref (h 0), .int x, .int k, .ref o] (qi (fun u : (Nat → Int64) × St => wo o cL u.1 h cI u.2) (fun kk u => (kk = nI 0 ∧ u.2 = σ ∧ ∃ z, (fun v => ∃ c, c < 24 ∧ x = nI c ∧ bt (σ 0 0) c = true ∧ isT σ k ∧ σ 1 c = nI 2 ∧ ((∃ i, i < cnt σ c ∧ σ 4 (c * 4 + i) = k ∧ v = σ 5 (c * 4 + i)) ∨ ((∀ j, j < cnt σ c → σ 4 (c * 4 + j) ≠ k) ∧ v = -1))) z ∧ u.1 0 = z.toInt64) ∨ (kk = nI 1 ∧ u.2 = σ ∧ (fun E => (E = "java/util/NoSuchElementException" ∧ ¬ (isT σ x ∧ isT σ k)) ∨ (E = "java/lang/IllegalArgumentException" ∧ (isT σ x ∧ isT σ k) ∧ ¬ isTab σ x)) "java/util/NoSuchElementException") ∨ (kk = nI 2 ∧ u.2 = σ ∧ (fun E => (E = "java/util/NoSuchElementException" ∧ ¬ (isT σ x ∧ isT σ k)) ∨ (E = "java/lang/IllegalArgumentException" ∧ (isT σ x ∧ isT σ k) ∧ ¬ isTab σ x)) "java/lang/IllegalArgumentException")) noXs) 1 6 1 6 := by
  refine z_methW (by decide) rfl (Nat.le_of_ble_eq_true rfl) (fun p e s mm as bl me cd Z hr ht => ?_)
  refine z_aload_n Z 3 d_l_find_0 rfl rfl ?_
  refine z_iconst Z (nI 0) d_l_find_1 zi_0 ?_
  refine z_aload_n Z 0 d_l_find_2 rfl rfl ?_
  refine z_iload_n Z 1 d_l_find_3 rfl rfl ?_
  refine z_iload_n Z 2 d_l_find_4 rfl rfl ?_
  refine z_Vi0 (pre := [(o, .inl (cL, 1, .inr (.inl g)))]) (wc := wx h cI σ) (suf := []) Z (c_find hlt hw) (ok_lx_find _) rfl rfl ⟨by decide, by decide⟩ rfl rfl rfl rfl rfl (Nat.le_of_ble_eq_true rfl) d_l_find_5 ⟨by decide, by decide⟩ (fun E hX => ?_) (fun v hP => ?_)
  · rcases id hX with ⟨rfl, -⟩ | ⟨rfl, -⟩
    · refine z_catch Z [] ⟨0, 10, 13, 21⟩ [⟨0, 10, 17, 13⟩] ht (fun _ hh => absurd hh List.not_mem_nil) (by decide) (by decide) (Z.2.2.2.2.1 _ (lk_L_N _)) (z_cast Z (by decide)) (fun q => ?_)
      refine z_astore Z 4 d_l_find_13 (by decide) rfl ?_
      refine z_iconst Z (nI 1) d_l_find_15 zi_1 ?_
      refine z_ri Z (g, σ) hr rfl d_l_find_16 (by decide) (by decide) rfl ?_
      exact Or.inr (Or.inl (⟨rfl, rfl, hX⟩))
    · refine z_catch Z [⟨0, 10, 13, 21⟩] ⟨0, 10, 17, 13⟩ [] ht (List.forall_mem_cons.mpr ⟨Or.inr ⟨by decide, _, Z.2.2.2.2.1 _ (lk_L_N _), z_ncast Z (by decide)⟩, fun _ hh => absurd hh List.not_mem_nil⟩) (by decide) (by decide) (Z.2.2.2.2.1 _ (lk_L_A _)) (z_cast Z (by decide)) (fun q => ?_)
      refine z_astore Z 4 d_l_find_17 (by decide) rfl ?_
      refine z_iconst Z (nI 2) d_l_find_19 zi_2 ?_
      refine z_ri Z (g, σ) hr rfl d_l_find_20 (by decide) (by decide) rfl ?_
      exact Or.inr (Or.inr (⟨rfl, rfl, hX⟩))
  · refine z_ws (ws' := wo o cL g h cI σ) rfl ?_
    refine z_i2l Z d_l_find_8 ?_
    refine z_last (ws' := wo o cL (vp_updL g 0 v.toInt64) h cI σ) Z 0 2 rfl rfl (by decide) (by decide) d_l_find_9 rfl ?_
    refine z_goto Z 21 d_l_find_10 (by decide) ?_
    refine z_iconst Z (nI 0) d_l_find_21 zi_0 ?_
    refine z_ri Z ((vp_updL g 0 v.toInt64), σ) hr rfl d_l_find_22 (by decide) (by decide) rfl ?_
    exact Or.inl (⟨rfl, rfl, v, hP, rfl⟩)
set_option maxHeartbeats 4000000 in
set_option maxRecDepth 100000 in
theorem c_l_key {l : Launch} {D : va_G} {cI cB cL : ClassId} {h : Nat → Nat} {σ : St} {o : Nat} {g : Nat → Int64} (hlt : l.stackTraces = false) (hw : wf σ) {x i : Int32} : zMet l y_l_key w_l_key rm_l_key D zCl (zTy cI cB cL) (wo o cL g h cI σ) [.ref (h 0), .int x, .int i, .ref o] (qi (fun u : (Nat → Int64) × St => wo o cL u.1 h cI u.2) (fun kk u => (kk = nI 0 ∧ u.2 = σ ∧ ∃ z, (fun v => ∃ c j, c < 24 ∧ x = nI c ∧ bt (σ 0 0) c = true ∧ σ 1 c = nI 2 ∧ j < cnt σ c ∧ i = nI j ∧ v = σ 4 (c * 4 + j)) z ∧ u.1 0 = z.toInt64) ∨ (kk = nI 1 ∧ u.2 = σ ∧ (fun E => (E = "java/util/NoSuchElementException" ∧ ¬ isT σ x) ∨ (E = "java/lang/IllegalArgumentException" ∧ isT σ x ∧ ¬ isTab σ x) ∨ (E = "java/lang/IndexOutOfBoundsException" ∧ isT σ x ∧ ∃ c, c < 24 ∧ x = nI c ∧ σ 1 c = nI 2 ∧ ¬ ∃ j, j < cnt σ c ∧ i = nI j)) "java/util/NoSuchElementException") ∨ (kk = nI 2 ∧ u.2 = σ ∧ (fun E => (E = "java/util/NoSuchElementException" ∧ ¬ isT σ x) ∨ (E = "java/lang/IllegalArgumentException" ∧ isT σ x ∧ ¬ isTab σ x) ∨ (E = "java/lang/IndexOutOfBoundsException" ∧ isT σ x ∧ ∃ c, c < 24 ∧ x = nI c ∧ σ 1 c = nI 2 ∧ ¬ ∃ j, j < cnt σ c ∧ i = nI j)) "java/lang/IllegalArgumentException") ∨ (kk = nI 3 ∧ u.2 = σ ∧ (fun E => (E = "java/util/NoSuchElementException" ∧ ¬ isT σ x) ∨ (E = "java/lang/IllegalArgumentException" ∧ isT σ x ∧ ¬ isTab σ x) ∨ (E = "java/lang/IndexOutOfBoundsException" ∧ isT σ x ∧ ∃ c, c < 24 ∧ x = nI c ∧ σ 1 c = nI 2 ∧ ¬ ∃ j, j < cnt σ c ∧ i = nI j)) "java/lang/IndexOutOfBoundsException")) noXs) 1 6 1 6 := by
  refine z_methW (by decide) rfl (Nat.le_of_ble_eq_true rfl) (fun p e s mm as bl me cd Z hr ht => ?_)
  refine z_aload_n Z 3 d_l_key_0 rfl rfl ?_
  refine z_iconst Z (nI 0) d_l_key_1 zi_0 ?_
  refine z_aload_n Z 0 d_l_key_2 rfl rfl ?_
  refine z_iload_n Z 1 d_l_key_3 rfl rfl ?_
  refine z_iload_n Z 2 d_l_key_4 rfl rfl ?_
  refine z_Vi0 (pre := [(o, .inl (cL, 1, .inr (.inl g)))]) (wc := wx h cI σ) (suf := []) Z (c_key hlt hw) (ok_lx_key _) rfl rfl ⟨by decide, by decide⟩ rfl rfl rfl rfl rfl (Nat.le_of_ble_eq_true rfl) d_l_key_5 ⟨by decide, by decide⟩ (fun E hX => ?_) (fun v hP => ?_)
  · rcases id hX with ⟨rfl, -⟩ | ⟨rfl, -⟩ | ⟨rfl, -⟩
    · refine z_catch Z [] ⟨0, 10, 13, 21⟩ [⟨0, 10, 17, 13⟩, ⟨0, 10, 21, 41⟩] ht (fun _ hh => absurd hh List.not_mem_nil) (by decide) (by decide) (Z.2.2.2.2.1 _ (lk_L_N _)) (z_cast Z (by decide)) (fun q => ?_)
      refine z_astore Z 4 d_l_key_13 (by decide) rfl ?_
      refine z_iconst Z (nI 1) d_l_key_15 zi_1 ?_
      refine z_ri Z (g, σ) hr rfl d_l_key_16 (by decide) (by decide) rfl ?_
      exact Or.inr (Or.inl (⟨rfl, rfl, hX⟩))
    · refine z_catch Z [⟨0, 10, 13, 21⟩] ⟨0, 10, 17, 13⟩ [⟨0, 10, 21, 41⟩] ht (List.forall_mem_cons.mpr ⟨Or.inr ⟨by decide, _, Z.2.2.2.2.1 _ (lk_L_N _), z_ncast Z (by decide)⟩, fun _ hh => absurd hh List.not_mem_nil⟩) (by decide) (by decide) (Z.2.2.2.2.1 _ (lk_L_A _)) (z_cast Z (by decide)) (fun q => ?_)
      refine z_astore Z 4 d_l_key_17 (by decide) rfl ?_
      refine z_iconst Z (nI 2) d_l_key_19 zi_2 ?_
      refine z_ri Z (g, σ) hr rfl d_l_key_20 (by decide) (by decide) rfl ?_
      exact Or.inr (Or.inr (Or.inl (⟨rfl, rfl, hX⟩)))
    · refine z_catch Z [⟨0, 10, 13, 21⟩, ⟨0, 10, 17, 13⟩] ⟨0, 10, 21, 41⟩ [] ht (List.forall_mem_cons.mpr ⟨Or.inr ⟨by decide, _, Z.2.2.2.2.1 _ (lk_L_N _), z_ncast Z (by decide)⟩, List.forall_mem_cons.mpr ⟨Or.inr ⟨by decide, _, Z.2.2.2.2.1 _ (lk_L_A _), z_ncast Z (by decide)⟩, fun _ hh => absurd hh List.not_mem_nil⟩⟩) (by decide) (by decide) (Z.2.2.2.2.1 _ (lk_L_I _)) (z_cast Z (by decide)) (fun q => ?_)
      refine z_astore Z 4 d_l_key_21 (by decide) rfl ?_
      refine z_iconst Z (nI 3) d_l_key_23 zi_3 ?_
      refine z_ri Z (g, σ) hr rfl d_l_key_24 (by decide) (by decide) rfl ?_
      exact Or.inr (Or.inr (Or.inr (⟨rfl, rfl, hX⟩)))
  · refine z_ws (ws' := wo o cL g h cI σ) rfl ?_
    refine z_i2l Z d_l_key_8 ?_
    refine z_last (ws' := wo o cL (vp_updL g 0 v.toInt64) h cI σ) Z 0 2 rfl rfl (by decide) (by decide) d_l_key_9 rfl ?_
    refine z_goto Z 25 d_l_key_10 (by decide) ?_
    refine z_iconst Z (nI 0) d_l_key_25 zi_0 ?_
    refine z_ri Z ((vp_updL g 0 v.toInt64), σ) hr rfl d_l_key_26 (by decide) (by decide) rfl ?_
    exact Or.inl (⟨rfl, rfl, v, hP, rfl⟩)
set_option maxHeartbeats 4000000 in
set_option maxRecDepth 100000 in
theorem c_l_set {l : Launch} {D : va_G} {cI cB cL : ClassId} {h : Nat → Nat} {σ : St} {o : Nat} {g : Nat → Int64} (hlt : l.stackTraces = false) {x f t : Int32} : zMet l y_l_set w_l_set rm_l_set D zCl (zTy cI cB cL) (wo o cL g h cI σ) [.ref (h 0), .int x, .int f, .int t] (qi (fun u : (Nat → Int64) × St => wo o cL u.1 h cI u.2) (fun kk u => (kk = nI 0 ∧ (fun u => ∃ c j, c < 24 ∧ x = nI c ∧ bt (σ 0 0) c = true ∧ (t = -1 ∨ isT σ t) ∧ j < fc (σ 1 c) ∧ f = nI j ∧ u = va_up σ 3 (upd (σ 3) (c * 3 + j) t)) u.2) ∨ (kk = nI 1 ∧ (fun E u => u = σ ∧ ((E = "java/util/NoSuchElementException" ∧ ¬ (isT σ x ∧ (t = -1 ∨ isT σ t))) ∨ (E = "java/lang/IllegalArgumentException" ∧ (isT σ x ∧ (t = -1 ∨ isT σ t)) ∧ ¬ isF σ x f))) "java/util/NoSuchElementException" u.2) ∨ (kk = nI 2 ∧ (fun E u => u = σ ∧ ((E = "java/util/NoSuchElementException" ∧ ¬ (isT σ x ∧ (t = -1 ∨ isT σ t))) ∨ (E = "java/lang/IllegalArgumentException" ∧ (isT σ x ∧ (t = -1 ∨ isT σ t)) ∧ ¬ isF σ x f))) "java/lang/IllegalArgumentException" u.2)) noXs) 1 6 1 6 := by
  refine z_methW (by decide) rfl (Nat.le_of_ble_eq_true rfl) (fun p e s mm as bl me cd Z hr ht => ?_)
  refine z_aload_n Z 0 d_l_set_0 rfl rfl ?_
  refine z_iload_n Z 1 d_l_set_1 rfl rfl ?_
  refine z_iload_n Z 2 d_l_set_2 rfl rfl ?_
  refine z_iload_n Z 3 d_l_set_3 rfl rfl ?_
  refine z_Vv (pre := [(o, .inl (cL, 1, .inr (.inl g)))]) (wc := wx h cI σ) (suf := []) Z (c_set hlt) (ok_lx_set _) rfl rfl ⟨by decide, by decide⟩ rfl rfl rfl rfl rfl (Nat.le_of_ble_eq_true rfl) d_l_set_4 ⟨by decide, by decide⟩ (fun E u hX => ?_) (fun u hP => ?_)
  · obtain ⟨-, hE⟩ := id hX
    rcases id hE with ⟨rfl, -⟩ | ⟨rfl, -⟩
    · refine z_catch Z [] ⟨0, 7, 10, 21⟩ [⟨0, 7, 14, 13⟩] ht (fun _ hh => absurd hh List.not_mem_nil) (by decide) (by decide) (Z.2.2.2.2.1 _ (lk_L_N _)) (z_cast Z (by decide)) (fun q => ?_)
      refine z_astore Z 4 d_l_set_10 (by decide) rfl ?_
      refine z_iconst Z (nI 1) d_l_set_12 zi_1 ?_
      refine z_ri Z (g, u) hr rfl d_l_set_13 (by decide) (by decide) rfl ?_
      exact Or.inr (Or.inl (⟨rfl, hX⟩))
    · refine z_catch Z [⟨0, 7, 10, 21⟩] ⟨0, 7, 14, 13⟩ [] ht (List.forall_mem_cons.mpr ⟨Or.inr ⟨by decide, _, Z.2.2.2.2.1 _ (lk_L_N _), z_ncast Z (by decide)⟩, fun _ hh => absurd hh List.not_mem_nil⟩) (by decide) (by decide) (Z.2.2.2.2.1 _ (lk_L_A _)) (z_cast Z (by decide)) (fun q => ?_)
      refine z_astore Z 4 d_l_set_14 (by decide) rfl ?_
      refine z_iconst Z (nI 2) d_l_set_16 zi_2 ?_
      refine z_ri Z (g, u) hr rfl d_l_set_17 (by decide) (by decide) rfl ?_
      exact Or.inr (Or.inr (⟨rfl, hX⟩))
  · refine z_ws (ws' := wo o cL g h cI u) rfl ?_
    refine z_goto Z 18 d_l_set_7 (by decide) ?_
    refine z_iconst Z (nI 0) d_l_set_18 zi_0 ?_
    refine z_ri Z (g, u) hr rfl d_l_set_19 (by decide) (by decide) rfl ?_
    exact Or.inl (⟨rfl, hP⟩)
set_option maxHeartbeats 4000000 in
set_option maxRecDepth 100000 in
theorem c_l_root {l : Launch} {D : va_G} {cI cB cL : ClassId} {h : Nat → Nat} {σ : St} {o : Nat} {g : Nat → Int64} (hlt : l.stackTraces = false) {r x : Int32} : zMet l y_l_root w_l_root rm_l_root D zCl (zTy cI cB cL) (wo o cL g h cI σ) [.ref (h 0), .int r, .int x] (qi (fun u : (Nat → Int64) × St => wo o cL u.1 h cI u.2) (fun kk u => (kk = nI 0 ∧ (fun u => ∃ j, j < 6 ∧ r = nI j ∧ (x = -1 ∨ isT σ x) ∧ u = va_up σ 10 (upd (σ 10) j x)) u.2) ∨ (kk = nI 1 ∧ (fun E u => u = σ ∧ ((E = "java/lang/IndexOutOfBoundsException" ∧ ¬ isR r) ∨ (E = "java/util/NoSuchElementException" ∧ isR r ∧ ¬ (x = -1 ∨ isT σ x)))) "java/lang/IndexOutOfBoundsException" u.2) ∨ (kk = nI 2 ∧ (fun E u => u = σ ∧ ((E = "java/lang/IndexOutOfBoundsException" ∧ ¬ isR r) ∨ (E = "java/util/NoSuchElementException" ∧ isR r ∧ ¬ (x = -1 ∨ isT σ x)))) "java/util/NoSuchElementException" u.2)) noXs) 1 6 1 6 := by
  refine z_methW (by decide) rfl (Nat.le_of_ble_eq_true rfl) (fun p e s mm as bl me cd Z hr ht => ?_)
  refine z_aload_n Z 0 d_l_root_0 rfl rfl ?_
  refine z_iload_n Z 1 d_l_root_1 rfl rfl ?_
  refine z_iload_n Z 2 d_l_root_2 rfl rfl ?_
  refine z_Vv (pre := [(o, .inl (cL, 1, .inr (.inl g)))]) (wc := wx h cI σ) (suf := []) Z (c_root hlt) (ok_lx_root _) rfl rfl ⟨by decide, by decide⟩ rfl rfl rfl rfl rfl (Nat.le_of_ble_eq_true rfl) d_l_root_3 ⟨by decide, by decide⟩ (fun E u hX => ?_) (fun u hP => ?_)
  · obtain ⟨-, hE⟩ := id hX
    rcases id hE with ⟨rfl, -⟩ | ⟨rfl, -⟩
    · refine z_catch Z [] ⟨0, 6, 9, 41⟩ [⟨0, 6, 12, 21⟩] ht (fun _ hh => absurd hh List.not_mem_nil) (by decide) (by decide) (Z.2.2.2.2.1 _ (lk_L_I _)) (z_cast Z (by decide)) (fun q => ?_)
      refine z_astore_n Z 3 d_l_root_9 rfl (by decide) rfl ?_
      refine z_iconst Z (nI 1) d_l_root_10 zi_1 ?_
      refine z_ri Z (g, u) hr rfl d_l_root_11 (by decide) (by decide) rfl ?_
      exact Or.inr (Or.inl (⟨rfl, hX⟩))
    · refine z_catch Z [⟨0, 6, 9, 41⟩] ⟨0, 6, 12, 21⟩ [] ht (List.forall_mem_cons.mpr ⟨Or.inr ⟨by decide, _, Z.2.2.2.2.1 _ (lk_L_I _), z_ncast Z (by decide)⟩, fun _ hh => absurd hh List.not_mem_nil⟩) (by decide) (by decide) (Z.2.2.2.2.1 _ (lk_L_N _)) (z_cast Z (by decide)) (fun q => ?_)
      refine z_astore_n Z 3 d_l_root_12 rfl (by decide) rfl ?_
      refine z_iconst Z (nI 2) d_l_root_13 zi_2 ?_
      refine z_ri Z (g, u) hr rfl d_l_root_14 (by decide) (by decide) rfl ?_
      exact Or.inr (Or.inr (⟨rfl, hX⟩))
  · refine z_ws (ws' := wo o cL g h cI u) rfl ?_
    refine z_goto Z 15 d_l_root_6 (by decide) ?_
    refine z_iconst Z (nI 0) d_l_root_15 zi_0 ?_
    refine z_ri Z (g, u) hr rfl d_l_root_16 (by decide) (by decide) rfl ?_
    exact Or.inl (⟨rfl, hP⟩)
set_option maxHeartbeats 4000000 in
set_option maxRecDepth 100000 in
theorem c_l_guard {l : Launch} {D : va_G} {cI cB cL : ClassId} {h : Nat → Nat} {σ : St} {o : Nat} {g : Nat → Int64} (hlt : l.stackTraces = false) {x a r : Int32} : zMet l y_l_guard w_l_guard rm_l_guard D zCl (zTy cI cB cL) (wo o cL g h cI σ) [.ref (h 0), .int x, .int a, .int r] (qi (fun u : (Nat → Int64) × St => wo o cL u.1 h cI u.2) (fun kk u => (kk = nI 0 ∧ (fun u => ∃ c i j, c < 24 ∧ x = nI c ∧ bt (σ 0 0) c = true ∧ i < 4 ∧ a = nI i ∧ j < 6 ∧ r = nI j ∧ σ 7 c = 0 ∧ u = grd σ c a r) u.2) ∨ (kk = nI 1 ∧ (fun E u => u = σ ∧ ((E = "java/util/NoSuchElementException" ∧ ¬ isT σ x) ∨ (E = "java/lang/IllegalArgumentException" ∧ isT σ x ∧ ¬ isA a) ∨ (E = "java/lang/IndexOutOfBoundsException" ∧ isT σ x ∧ isA a ∧ ¬ isR r) ∨ (E = "java/lang/IllegalStateException" ∧ isT σ x ∧ isA a ∧ isR r ∧ ∃ c, c < 24 ∧ x = nI c ∧ ¬ σ 7 c = 0))) "java/util/NoSuchElementException" u.2) ∨ (kk = nI 2 ∧ (fun E u => u = σ ∧ ((E = "java/util/NoSuchElementException" ∧ ¬ isT σ x) ∨ (E = "java/lang/IllegalArgumentException" ∧ isT σ x ∧ ¬ isA a) ∨ (E = "java/lang/IndexOutOfBoundsException" ∧ isT σ x ∧ isA a ∧ ¬ isR r) ∨ (E = "java/lang/IllegalStateException" ∧ isT σ x ∧ isA a ∧ isR r ∧ ∃ c, c < 24 ∧ x = nI c ∧ ¬ σ 7 c = 0))) "java/lang/IllegalArgumentException" u.2) ∨ (kk = nI 3 ∧ (fun E u => u = σ ∧ ((E = "java/util/NoSuchElementException" ∧ ¬ isT σ x) ∨ (E = "java/lang/IllegalArgumentException" ∧ isT σ x ∧ ¬ isA a) ∨ (E = "java/lang/IndexOutOfBoundsException" ∧ isT σ x ∧ isA a ∧ ¬ isR r) ∨ (E = "java/lang/IllegalStateException" ∧ isT σ x ∧ isA a ∧ isR r ∧ ∃ c, c < 24 ∧ x = nI c ∧ ¬ σ 7 c = 0))) "java/lang/IndexOutOfBoundsException" u.2) ∨ (kk = nI 4 ∧ (fun E u => u = σ ∧ ((E = "java/util/NoSuchElementException" ∧ ¬ isT σ x) ∨ (E = "java/lang/IllegalArgumentException" ∧ isT σ x ∧ ¬ isA a) ∨ (E = "java/lang/IndexOutOfBoundsException" ∧ isT σ x ∧ isA a ∧ ¬ isR r) ∨ (E = "java/lang/IllegalStateException" ∧ isT σ x ∧ isA a ∧ isR r ∧ ∃ c, c < 24 ∧ x = nI c ∧ ¬ σ 7 c = 0))) "java/lang/IllegalStateException" u.2)) noXs) 1 6 1 6 := by
  refine z_methW (by decide) rfl (Nat.le_of_ble_eq_true rfl) (fun p e s mm as bl me cd Z hr ht => ?_)
  refine z_aload_n Z 0 d_l_guard_0 rfl rfl ?_
  refine z_iload_n Z 1 d_l_guard_1 rfl rfl ?_
  refine z_iload_n Z 2 d_l_guard_2 rfl rfl ?_
  refine z_iload_n Z 3 d_l_guard_3 rfl rfl ?_
  refine z_Vv (pre := [(o, .inl (cL, 1, .inr (.inl g)))]) (wc := wx h cI σ) (suf := []) Z (c_guard hlt) (ok_lx_guard _) rfl rfl ⟨by decide, by decide⟩ rfl rfl rfl rfl rfl (Nat.le_of_ble_eq_true rfl) d_l_guard_4 ⟨by decide, by decide⟩ (fun E u hX => ?_) (fun u hP => ?_)
  · obtain ⟨-, hE⟩ := id hX
    rcases id hE with ⟨rfl, -⟩ | ⟨rfl, -⟩ | ⟨rfl, -⟩ | ⟨rfl, -⟩
    · refine z_catch Z [] ⟨0, 7, 10, 21⟩ [⟨0, 7, 14, 13⟩, ⟨0, 7, 18, 41⟩, ⟨0, 7, 22, 15⟩] ht (fun _ hh => absurd hh List.not_mem_nil) (by decide) (by decide) (Z.2.2.2.2.1 _ (lk_L_N _)) (z_cast Z (by decide)) (fun q => ?_)
      refine z_astore Z 4 d_l_guard_10 (by decide) rfl ?_
      refine z_iconst Z (nI 1) d_l_guard_12 zi_1 ?_
      refine z_ri Z (g, u) hr rfl d_l_guard_13 (by decide) (by decide) rfl ?_
      exact Or.inr (Or.inl (⟨rfl, hX⟩))
    · refine z_catch Z [⟨0, 7, 10, 21⟩] ⟨0, 7, 14, 13⟩ [⟨0, 7, 18, 41⟩, ⟨0, 7, 22, 15⟩] ht (List.forall_mem_cons.mpr ⟨Or.inr ⟨by decide, _, Z.2.2.2.2.1 _ (lk_L_N _), z_ncast Z (by decide)⟩, fun _ hh => absurd hh List.not_mem_nil⟩) (by decide) (by decide) (Z.2.2.2.2.1 _ (lk_L_A _)) (z_cast Z (by decide)) (fun q => ?_)
      refine z_astore Z 4 d_l_guard_14 (by decide) rfl ?_
      refine z_iconst Z (nI 2) d_l_guard_16 zi_2 ?_
      refine z_ri Z (g, u) hr rfl d_l_guard_17 (by decide) (by decide) rfl ?_
      exact Or.inr (Or.inr (Or.inl (⟨rfl, hX⟩)))
    · refine z_catch Z [⟨0, 7, 10, 21⟩, ⟨0, 7, 14, 13⟩] ⟨0, 7, 18, 41⟩ [⟨0, 7, 22, 15⟩] ht (List.forall_mem_cons.mpr ⟨Or.inr ⟨by decide, _, Z.2.2.2.2.1 _ (lk_L_N _), z_ncast Z (by decide)⟩, List.forall_mem_cons.mpr ⟨Or.inr ⟨by decide, _, Z.2.2.2.2.1 _ (lk_L_A _), z_ncast Z (by decide)⟩, fun _ hh => absurd hh List.not_mem_nil⟩⟩) (by decide) (by decide) (Z.2.2.2.2.1 _ (lk_L_I _)) (z_cast Z (by decide)) (fun q => ?_)
      refine z_astore Z 4 d_l_guard_18 (by decide) rfl ?_
      refine z_iconst Z (nI 3) d_l_guard_20 zi_3 ?_
      refine z_ri Z (g, u) hr rfl d_l_guard_21 (by decide) (by decide) rfl ?_
      exact Or.inr (Or.inr (Or.inr (Or.inl (⟨rfl, hX⟩))))
    · refine z_catch Z [⟨0, 7, 10, 21⟩, ⟨0, 7, 14, 13⟩, ⟨0, 7, 18, 41⟩] ⟨0, 7, 22, 15⟩ [] ht (List.forall_mem_cons.mpr ⟨Or.inr ⟨by decide, _, Z.2.2.2.2.1 _ (lk_L_N _), z_ncast Z (by decide)⟩, List.forall_mem_cons.mpr ⟨Or.inr ⟨by decide, _, Z.2.2.2.2.1 _ (lk_L_A _), z_ncast Z (by decide)⟩, List.forall_mem_cons.mpr ⟨Or.inr ⟨by decide, _, Z.2.2.2.2.1 _ (lk_L_I _), z_ncast Z (by decide)⟩, fun _ hh => absurd hh List.not_mem_nil⟩⟩⟩) (by decide) (by decide) (Z.2.2.2.2.1 _ (lk_L_S _)) (z_cast Z (by decide)) (fun q => ?_)
      refine z_astore Z 4 d_l_guard_22 (by decide) rfl ?_
      refine z_iconst Z (nI 4) d_l_guard_24 zi_4 ?_
      refine z_ri Z (g, u) hr rfl d_l_guard_25 (by decide) (by decide) rfl ?_
      exact Or.inr (Or.inr (Or.inr (Or.inr (⟨rfl, hX⟩))))
  · refine z_ws (ws' := wo o cL g h cI u) rfl ?_
    refine z_goto Z 26 d_l_guard_7 (by decide) ?_
    refine z_iconst Z (nI 0) d_l_guard_26 zi_0 ?_
    refine z_ri Z (g, u) hr rfl d_l_guard_27 (by decide) (by decide) rfl ?_
    exact Or.inl (⟨rfl, hP⟩)
set_option maxHeartbeats 4000000 in
set_option maxRecDepth 100000 in
theorem c_l_remove {l : Launch} {D : va_G} {cI cB cL : ClassId} {h : Nat → Nat} {σ : St} {o : Nat} {g : Nat → Int64} (hlt : l.stackTraces = false) (hw : wf σ) {x k : Int32} : zMet l y_l_remove w_l_remove rm_l_remove D zCl (zTy cI cB cL) (wo o cL g h cI σ) [.ref (h 0), .int x, .int k, .ref o] (qi (fun u : (Nat → Int64) × St => wo o cL u.1 h cI u.2) (fun kk u => (kk = nI 0 ∧ ∃ z, (fun v u => ∃ c, c < 24 ∧ x = nI c ∧ bt (σ 0 0) c = true ∧ isT σ k ∧ σ 1 c = nI 2 ∧ ((∃ i, i < cnt σ c ∧ σ 4 (c * 4 + i) = k ∧ v = nI 1 ∧ u = drp σ c i) ∨ ((∀ j, j < cnt σ c → σ 4 (c * 4 + j) ≠ k) ∧ v = nI 0 ∧ u = σ))) z u.2 ∧ u.1 0 = (if z = 0 then 0 else 1)) ∨ (kk = nI 1 ∧ (fun E u => u = σ ∧ ((E = "java/util/NoSuchElementException" ∧ ¬ (isT σ x ∧ isT σ k)) ∨ (E = "java/lang/IllegalArgumentException" ∧ (isT σ x ∧ isT σ k) ∧ ¬ isTab σ x))) "java/util/NoSuchElementException" u.2) ∨ (kk = nI 2 ∧ (fun E u => u = σ ∧ ((E = "java/util/NoSuchElementException" ∧ ¬ (isT σ x ∧ isT σ k)) ∨ (E = "java/lang/IllegalArgumentException" ∧ (isT σ x ∧ isT σ k) ∧ ¬ isTab σ x))) "java/lang/IllegalArgumentException" u.2)) noXs) 1 6 1 6 := by
  refine z_methW (by decide) rfl (Nat.le_of_ble_eq_true rfl) (fun p e s mm as bl me cd Z hr ht => ?_)
  refine z_aload_n Z 3 d_l_remove_0 rfl rfl ?_
  refine z_iconst Z (nI 0) d_l_remove_1 zi_0 ?_
  refine z_aload_n Z 0 d_l_remove_2 rfl rfl ?_
  refine z_iload_n Z 1 d_l_remove_3 rfl rfl ?_
  refine z_iload_n Z 2 d_l_remove_4 rfl rfl ?_
  refine z_Vi (pre := [(o, .inl (cL, 1, .inr (.inl g)))]) (wc := wx h cI σ) (suf := []) Z (c_remove hlt hw) (ok_lx_remove _) rfl rfl ⟨by decide, by decide⟩ rfl rfl rfl rfl rfl (Nat.le_of_ble_eq_true rfl) d_l_remove_5 ⟨by decide, by decide⟩ (fun E u hX => ?_) (fun v u hP => ?_)
  · obtain ⟨-, hE⟩ := id hX
    rcases id hE with ⟨rfl, -⟩ | ⟨rfl, -⟩
    · refine z_catch Z [] ⟨0, 17, 20, 21⟩ [⟨0, 17, 24, 13⟩] ht (fun _ hh => absurd hh List.not_mem_nil) (by decide) (by decide) (Z.2.2.2.2.1 _ (lk_L_N _)) (z_cast Z (by decide)) (fun q => ?_)
      refine z_astore Z 4 d_l_remove_20 (by decide) rfl ?_
      refine z_iconst Z (nI 1) d_l_remove_22 zi_1 ?_
      refine z_ri Z (g, u) hr rfl d_l_remove_23 (by decide) (by decide) rfl ?_
      exact Or.inr (Or.inl (⟨rfl, hX⟩))
    · refine z_catch Z [⟨0, 17, 20, 21⟩] ⟨0, 17, 24, 13⟩ [] ht (List.forall_mem_cons.mpr ⟨Or.inr ⟨by decide, _, Z.2.2.2.2.1 _ (lk_L_N _), z_ncast Z (by decide)⟩, fun _ hh => absurd hh List.not_mem_nil⟩) (by decide) (by decide) (Z.2.2.2.2.1 _ (lk_L_A _)) (z_cast Z (by decide)) (fun q => ?_)
      refine z_astore Z 4 d_l_remove_24 (by decide) rfl ?_
      refine z_iconst Z (nI 2) d_l_remove_26 zi_2 ?_
      refine z_ri Z (g, u) hr rfl d_l_remove_27 (by decide) (by decide) rfl ?_
      exact Or.inr (Or.inr (⟨rfl, hX⟩))
  · refine z_ws (ws' := wo o cL g h cI u) rfl ?_
    refine z_if_eq Z 15 d_l_remove_8 (by decide) (fun h8 => ?_) (fun h8 => ?_)
    · refine z_lconst Z 0 d_l_remove_15 (by decide) ?_
      refine z_last (ws' := wo o cL (vp_updL g 0 0) h cI u) Z 0 2 rfl rfl (by decide) (by decide) d_l_remove_16 rfl ?_
      refine z_goto Z 28 d_l_remove_17 (by decide) ?_
      refine z_iconst Z (nI 0) d_l_remove_28 zi_0 ?_
      refine z_ri Z ((vp_updL g 0 0), u) hr rfl d_l_remove_29 (by decide) (by decide) rfl ?_
      exact Or.inl (⟨rfl, v, hP, by rw [if_pos h8]; rfl⟩)
    · refine z_lconst Z 1 d_l_remove_11 (by decide) ?_
      refine z_goto Z 16 d_l_remove_12 (by decide) ?_
      refine z_last (ws' := wo o cL (vp_updL g 0 1) h cI u) Z 0 2 rfl rfl (by decide) (by decide) d_l_remove_16 rfl ?_
      refine z_goto Z 28 d_l_remove_17 (by decide) ?_
      refine z_iconst Z (nI 0) d_l_remove_28 zi_0 ?_
      refine z_ri Z ((vp_updL g 0 1), u) hr rfl d_l_remove_29 (by decide) (by decide) rfl ?_
      exact Or.inl (⟨rfl, v, hP, by rw [if_neg h8]; rfl⟩)
set_option maxHeartbeats 4000000 in
set_option maxRecDepth 100000 in
theorem c_l_put {l : Launch} {D : va_G} {cI cB cL : ClassId} {h : Nat → Nat} {σ : St} {o : Nat} {g : Nat → Int64} (hlt : l.stackTraces = false) (hw : wf σ) {x k v : Int32} : zMet l y_l_put w_l_put rm_l_put D zCl (zTy cI cB cL) (wo o cL g h cI σ) [.ref (h 0), .int x, .int k, .int v, .ref o] (qi (fun u : (Nat → Int64) × St => wo o cL u.1 h cI u.2) (fun kk u => (kk = nI 0 ∧ ∃ z, (fun r u => ∃ c, c < 24 ∧ x = nI c ∧ bt (σ 0 0) c = true ∧ isT σ k ∧ isT σ v ∧ σ 1 c = nI 2 ∧ ((∃ i, i < cnt σ c ∧ σ 4 (c * 4 + i) = k ∧ r = nI 0 ∧ u = va_up σ 5 (upd (σ 5) (c * 4 + i) v)) ∨ ((∀ j, j < cnt σ c → σ 4 (c * 4 + j) ≠ k) ∧ cnt σ c < 4 ∧ r = nI 1 ∧ u = apd σ c k v))) z u.2 ∧ u.1 0 = (if z = 0 then 0 else 1)) ∨ (kk = nI 1 ∧ (fun E u => u = σ ∧ ((E = "java/util/NoSuchElementException" ∧ ¬ (isT σ x ∧ isT σ k ∧ isT σ v)) ∨ (E = "java/lang/IllegalArgumentException" ∧ (isT σ x ∧ isT σ k ∧ isT σ v) ∧ ¬ isTab σ x) ∨ (E = "java/lang/IllegalStateException" ∧ (isT σ x ∧ isT σ k ∧ isT σ v) ∧ ∃ c, c < 24 ∧ x = nI c ∧ σ 1 c = nI 2 ∧ cnt σ c = 4 ∧ ∀ j, j < cnt σ c → σ 4 (c * 4 + j) ≠ k))) "java/util/NoSuchElementException" u.2) ∨ (kk = nI 2 ∧ (fun E u => u = σ ∧ ((E = "java/util/NoSuchElementException" ∧ ¬ (isT σ x ∧ isT σ k ∧ isT σ v)) ∨ (E = "java/lang/IllegalArgumentException" ∧ (isT σ x ∧ isT σ k ∧ isT σ v) ∧ ¬ isTab σ x) ∨ (E = "java/lang/IllegalStateException" ∧ (isT σ x ∧ isT σ k ∧ isT σ v) ∧ ∃ c, c < 24 ∧ x = nI c ∧ σ 1 c = nI 2 ∧ cnt σ c = 4 ∧ ∀ j, j < cnt σ c → σ 4 (c * 4 + j) ≠ k))) "java/lang/IllegalArgumentException" u.2) ∨ (kk = nI 3 ∧ (fun E u => u = σ ∧ ((E = "java/util/NoSuchElementException" ∧ ¬ (isT σ x ∧ isT σ k ∧ isT σ v)) ∨ (E = "java/lang/IllegalArgumentException" ∧ (isT σ x ∧ isT σ k ∧ isT σ v) ∧ ¬ isTab σ x) ∨ (E = "java/lang/IllegalStateException" ∧ (isT σ x ∧ isT σ k ∧ isT σ v) ∧ ∃ c, c < 24 ∧ x = nI c ∧ σ 1 c = nI 2 ∧ cnt σ c = 4 ∧ ∀ j, j < cnt σ c → σ 4 (c * 4 + j) ≠ k))) "java/lang/IllegalStateException" u.2)) noXs) 1 6 1 6 := by
  refine z_methW (by decide) rfl (Nat.le_of_ble_eq_true rfl) (fun p e s mm as bl me cd Z hr ht => ?_)
  refine z_aload Z 4 d_l_put_0 rfl ?_
  refine z_iconst Z (nI 0) d_l_put_2 zi_0 ?_
  refine z_aload_n Z 0 d_l_put_3 rfl rfl ?_
  refine z_iload_n Z 1 d_l_put_4 rfl rfl ?_
  refine z_iload_n Z 2 d_l_put_5 rfl rfl ?_
  refine z_iload_n Z 3 d_l_put_6 rfl rfl ?_
  refine z_Vi (pre := [(o, .inl (cL, 1, .inr (.inl g)))]) (wc := wx h cI σ) (suf := []) Z (c_put hlt hw) (ok_lx_put _) rfl rfl ⟨by decide, by decide⟩ rfl rfl rfl rfl rfl (Nat.le_of_ble_eq_true rfl) d_l_put_7 ⟨by decide, by decide⟩ (fun E u hX => ?_) (fun v u hP => ?_)
  · obtain ⟨-, hE⟩ := id hX
    rcases id hE with ⟨rfl, -⟩ | ⟨rfl, -⟩ | ⟨rfl, -⟩
    · refine z_catch Z [] ⟨0, 19, 22, 21⟩ [⟨0, 19, 26, 13⟩, ⟨0, 19, 30, 15⟩] ht (fun _ hh => absurd hh List.not_mem_nil) (by decide) (by decide) (Z.2.2.2.2.1 _ (lk_L_N _)) (z_cast Z (by decide)) (fun q => ?_)
      refine z_astore Z 5 d_l_put_22 (by decide) rfl ?_
      refine z_iconst Z (nI 1) d_l_put_24 zi_1 ?_
      refine z_ri Z (g, u) hr rfl d_l_put_25 (by decide) (by decide) rfl ?_
      exact Or.inr (Or.inl (⟨rfl, hX⟩))
    · refine z_catch Z [⟨0, 19, 22, 21⟩] ⟨0, 19, 26, 13⟩ [⟨0, 19, 30, 15⟩] ht (List.forall_mem_cons.mpr ⟨Or.inr ⟨by decide, _, Z.2.2.2.2.1 _ (lk_L_N _), z_ncast Z (by decide)⟩, fun _ hh => absurd hh List.not_mem_nil⟩) (by decide) (by decide) (Z.2.2.2.2.1 _ (lk_L_A _)) (z_cast Z (by decide)) (fun q => ?_)
      refine z_astore Z 5 d_l_put_26 (by decide) rfl ?_
      refine z_iconst Z (nI 2) d_l_put_28 zi_2 ?_
      refine z_ri Z (g, u) hr rfl d_l_put_29 (by decide) (by decide) rfl ?_
      exact Or.inr (Or.inr (Or.inl (⟨rfl, hX⟩)))
    · refine z_catch Z [⟨0, 19, 22, 21⟩, ⟨0, 19, 26, 13⟩] ⟨0, 19, 30, 15⟩ [] ht (List.forall_mem_cons.mpr ⟨Or.inr ⟨by decide, _, Z.2.2.2.2.1 _ (lk_L_N _), z_ncast Z (by decide)⟩, List.forall_mem_cons.mpr ⟨Or.inr ⟨by decide, _, Z.2.2.2.2.1 _ (lk_L_A _), z_ncast Z (by decide)⟩, fun _ hh => absurd hh List.not_mem_nil⟩⟩) (by decide) (by decide) (Z.2.2.2.2.1 _ (lk_L_S _)) (z_cast Z (by decide)) (fun q => ?_)
      refine z_astore Z 5 d_l_put_30 (by decide) rfl ?_
      refine z_iconst Z (nI 3) d_l_put_32 zi_3 ?_
      refine z_ri Z (g, u) hr rfl d_l_put_33 (by decide) (by decide) rfl ?_
      exact Or.inr (Or.inr (Or.inr (⟨rfl, hX⟩)))
  · refine z_ws (ws' := wo o cL g h cI u) rfl ?_
    refine z_if_eq Z 17 d_l_put_10 (by decide) (fun h10 => ?_) (fun h10 => ?_)
    · refine z_lconst Z 0 d_l_put_17 (by decide) ?_
      refine z_last (ws' := wo o cL (vp_updL g 0 0) h cI u) Z 0 2 rfl rfl (by decide) (by decide) d_l_put_18 rfl ?_
      refine z_goto Z 34 d_l_put_19 (by decide) ?_
      refine z_iconst Z (nI 0) d_l_put_34 zi_0 ?_
      refine z_ri Z ((vp_updL g 0 0), u) hr rfl d_l_put_35 (by decide) (by decide) rfl ?_
      exact Or.inl (⟨rfl, v, hP, by rw [if_pos h10]; rfl⟩)
    · refine z_lconst Z 1 d_l_put_13 (by decide) ?_
      refine z_goto Z 18 d_l_put_14 (by decide) ?_
      refine z_last (ws' := wo o cL (vp_updL g 0 1) h cI u) Z 0 2 rfl rfl (by decide) (by decide) d_l_put_18 rfl ?_
      refine z_goto Z 34 d_l_put_19 (by decide) ?_
      refine z_iconst Z (nI 0) d_l_put_34 zi_0 ?_
      refine z_ri Z ((vp_updL g 0 1), u) hr rfl d_l_put_35 (by decide) (by decide) rfl ?_
      exact Or.inl (⟨rfl, v, hP, by rw [if_neg h10]; rfl⟩)
set_option maxHeartbeats 4000000 in
set_option maxRecDepth 100000 in
theorem c_l_make {l : Launch} {D : va_G} {cI cB cL : ClassId} {h : Nat → Nat} {σ : St} {o : Nat} {g : Nat → Int64} (hlt : l.stackTraces = false) (hw : wf σ) (hq : qI σ) {k : Int32} : zMet l y_l_make w_l_make rm_l_make D zCl (zTy cI cB cL) (wo o cL g h cI σ) [.ref (h 0), .int k, .ref o] (qi (fun u : (Nat → Int64) × St => wo o cL u.1 h cI u.2) (fun kk u => (kk = nI 0 ∧ ∃ z, (fun v u => isK k ∧ ((∃ c, lf σ c ∧ v = nI c ∧ u = plc σ c k) ∨ (full σ ∧ ∃ v1 σ1 c, colX σ v1 σ1 ∧ lf σ1 c ∧ v = nI c ∧ u = plc σ1 c k))) z u.2 ∧ u.1 0 = z.toInt64) ∨ (kk = nI 1 ∧ (fun E u => (E = "java/lang/IllegalArgumentException" ∧ ¬ isK k ∧ u = σ) ∨ (E = "java/lang/IllegalStateException" ∧ isK k ∧ full σ ∧ ∃ v1, colX σ v1 u ∧ full u)) "java/lang/IllegalArgumentException" u.2) ∨ (kk = nI 2 ∧ (fun E u => (E = "java/lang/IllegalArgumentException" ∧ ¬ isK k ∧ u = σ) ∨ (E = "java/lang/IllegalStateException" ∧ isK k ∧ full σ ∧ ∃ v1, colX σ v1 u ∧ full u)) "java/lang/IllegalStateException" u.2)) noXs) 1 6 1 6 := by
  refine z_methW (by decide) rfl (Nat.le_of_ble_eq_true rfl) (fun p e s mm as bl me cd Z hr ht => ?_)
  refine z_aload_n Z 2 d_l_make_0 rfl rfl ?_
  refine z_iconst Z (nI 0) d_l_make_1 zi_0 ?_
  refine z_aload_n Z 0 d_l_make_2 rfl rfl ?_
  refine z_iload_n Z 1 d_l_make_3 rfl rfl ?_
  refine z_Vi (pre := [(o, .inl (cL, 1, .inr (.inl g)))]) (wc := wx h cI σ) (suf := []) Z (c_make hlt hw hq) (ok_lx_make _) rfl rfl ⟨by decide, by decide⟩ rfl rfl rfl rfl rfl (Nat.le_of_ble_eq_true rfl) d_l_make_4 ⟨by decide, by decide⟩ (fun E u hX => ?_) (fun v u hP => ?_)
  · rcases id hX with ⟨rfl, -⟩ | ⟨rfl, -⟩
    · refine z_catch Z [] ⟨0, 9, 12, 13⟩ [⟨0, 9, 15, 15⟩] ht (fun _ hh => absurd hh List.not_mem_nil) (by decide) (by decide) (Z.2.2.2.2.1 _ (lk_L_A _)) (z_cast Z (by decide)) (fun q => ?_)
      refine z_astore_n Z 3 d_l_make_12 rfl (by decide) rfl ?_
      refine z_iconst Z (nI 1) d_l_make_13 zi_1 ?_
      refine z_ri Z (g, u) hr rfl d_l_make_14 (by decide) (by decide) rfl ?_
      exact Or.inr (Or.inl (⟨rfl, hX⟩))
    · refine z_catch Z [⟨0, 9, 12, 13⟩] ⟨0, 9, 15, 15⟩ [] ht (List.forall_mem_cons.mpr ⟨Or.inr ⟨by decide, _, Z.2.2.2.2.1 _ (lk_L_A _), z_ncast Z (by decide)⟩, fun _ hh => absurd hh List.not_mem_nil⟩) (by decide) (by decide) (Z.2.2.2.2.1 _ (lk_L_S _)) (z_cast Z (by decide)) (fun q => ?_)
      refine z_astore_n Z 3 d_l_make_15 rfl (by decide) rfl ?_
      refine z_iconst Z (nI 2) d_l_make_16 zi_2 ?_
      refine z_ri Z (g, u) hr rfl d_l_make_17 (by decide) (by decide) rfl ?_
      exact Or.inr (Or.inr (⟨rfl, hX⟩))
  · refine z_ws (ws' := wo o cL g h cI u) rfl ?_
    refine z_i2l Z d_l_make_7 ?_
    refine z_last (ws' := wo o cL (vp_updL g 0 v.toInt64) h cI u) Z 0 2 rfl rfl (by decide) (by decide) d_l_make_8 rfl ?_
    refine z_goto Z 18 d_l_make_9 (by decide) ?_
    refine z_iconst Z (nI 0) d_l_make_18 zi_0 ?_
    refine z_ri Z ((vp_updL g 0 v.toInt64), u) hr rfl d_l_make_19 (by decide) (by decide) rfl ?_
    exact Or.inl (⟨rfl, v, hP, rfl⟩)
set_option maxHeartbeats 4000000 in
set_option maxRecDepth 100000 in
theorem c_l_run {l : Launch} {D : va_G} {cI cB cL : ClassId} {h : Nat → Nat} {σ : St} {o : Nat} {g : Nat → Int64} (hlt : l.stackTraces = false) (hw : wf σ) (h8 : ∀ c, c < 24 → ∃ a, a < 4 ∧ σ 8 c = nI a) {w : Nat} (hw24 : w ≤ 24) (ew : σ 0 1 = nI w) : zMet l y_l_run w_l_run rm_l_run D zCl (zTy cI cB cL) (wo o cL g h cI σ) [.ref (h 0), .ref o] (qi (fun u : (Nat → Int64) × St => wo o cL u.1 h cI u.2) (fun kk u => (kk = nI 0 ∧ ∃ z, (fun v u => ∃ w0 c a, w = w0 + 1 ∧ c < 24 ∧ σ 11 0 = nI c ∧ a < 4 ∧ σ 8 c = nI a ∧ v = nI c ∧ u = act (va_up (deq σ w0) 7 (upd (σ 7) c (nI 3))) c a) z u.2 ∧ u.1 0 = z.toInt64) ∨ (kk = nI 1 ∧ (fun E u => u = σ ∧ E = "java/util/NoSuchElementException" ∧ w = 0) "java/util/NoSuchElementException" u.2)) noXs) 1 6 1 6 := by
  refine z_methW (by decide) rfl (Nat.le_of_ble_eq_true rfl) (fun p e s mm as bl me cd Z hr ht => ?_)
  refine z_aload_n Z 1 d_l_run_0 rfl rfl ?_
  refine z_iconst Z (nI 0) d_l_run_1 zi_0 ?_
  refine z_aload_n Z 0 d_l_run_2 rfl rfl ?_
  refine z_Vi (pre := [(o, .inl (cL, 1, .inr (.inl g)))]) (wc := wx h cI σ) (suf := []) Z (c_run hlt hw h8 hw24 ew) (ok_lx_run _) rfl rfl ⟨by decide, by decide⟩ rfl rfl rfl rfl rfl (Nat.le_of_ble_eq_true rfl) d_l_run_3 ⟨by decide, by decide⟩ (fun E u hX => ?_) (fun v u hP => ?_)
  · obtain ⟨-, hE⟩ := id hX
    rcases id hE with ⟨rfl, -⟩
    refine z_catch Z [] ⟨0, 8, 11, 21⟩ [] ht (fun _ hh => absurd hh List.not_mem_nil) (by decide) (by decide) (Z.2.2.2.2.1 _ (lk_L_N _)) (z_cast Z (by decide)) (fun q => ?_)
    refine z_astore_n Z 2 d_l_run_11 rfl (by decide) rfl ?_
    refine z_iconst Z (nI 1) d_l_run_12 zi_1 ?_
    refine z_ri Z (g, u) hr rfl d_l_run_13 (by decide) (by decide) rfl ?_
    exact Or.inr (⟨rfl, hX⟩)
  · refine z_ws (ws' := wo o cL g h cI u) rfl ?_
    refine z_i2l Z d_l_run_6 ?_
    refine z_last (ws' := wo o cL (vp_updL g 0 v.toInt64) h cI u) Z 0 2 rfl rfl (by decide) (by decide) d_l_run_7 rfl ?_
    refine z_goto Z 14 d_l_run_8 (by decide) ?_
    refine z_iconst Z (nI 0) d_l_run_14 zi_0 ?_
    refine z_ri Z ((vp_updL g 0 v.toInt64), u) hr rfl d_l_run_15 (by decide) (by decide) rfl ?_
    exact Or.inl (⟨rfl, v, hP, rfl⟩)
