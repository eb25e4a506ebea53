theorem noA {n b : Nat} (h : va_A [] n b) : n ≤ b := by
  rcases h with ⟨k, e, h⟩ | h
  · cases k <;> cases h
  · exact h
theorem fs_X : ∀ j, j < 15 → defaultValue (t_X j) = vp_V fsX0 j := fun j hj => match j, hj with
  | 0, _ => rfl
  | 1, _ => rfl
  | 2, _ => rfl
  | 3, _ => rfl
  | 4, _ => rfl
  | 5, _ => rfl
  | 6, _ => rfl
  | 7, _ => rfl
  | 8, _ => rfl
  | 9, _ => rfl
  | 10, _ => rfl
  | 11, _ => rfl
  | 12, _ => rfl
  | 13, _ => rfl
  | 14, _ => rfl
  | k + 15, h => absurd h (by omega)
theorem fs_M : ∀ j, j < 16 → defaultValue (t_M j) = vp_V fsM0 j := fun j hj => match j, hj with
  | 0, _ => rfl
  | 1, _ => rfl
  | 2, _ => rfl
  | 3, _ => rfl
  | 4, _ => rfl
  | 5, _ => rfl
  | 6, _ => rfl
  | 7, _ => rfl
  | 8, _ => rfl
  | 9, _ => rfl
  | 10, _ => rfl
  | 11, _ => rfl
  | 12, _ => rfl
  | 13, _ => rfl
  | 14, _ => rfl
  | 15, _ => rfl
  | k + 16, h => absurd h (by omega)
theorem z_lawret {p : Program} {l : Launch} {e : Env} {s : State} {m : MethodId} {below : List Frame} {meth : Method} {c : Code} {D : va_G} {cI cB cL : ClassId} {b : Nat} (Z : zC p s m #[Value.ref b] meth c code 7 R_L lw_tbl D zCl (zTy cI cB cL) []) (hr : meth.sig.returnType = ret) {cells slots : Nat} (hc : cells ≤ 1061) (hs : slots ≤ 9190) {ws : va_W} {lv : List (Nat × Value)} : zAt p l e room_1 s m #[Value.ref b] below meth c D zCl [] 7 (cells) (slots) (lw_Z below #[Value.ref b] s) (ws) 980 lv [] := by
  refine z_iconst Z (nI 1) d_l_law_980 zi_1 ?_
  exact fun H locs ls hP hD hS hl => W.widen hc hs (va_forget (fun q hq => noA (hS.2.2 q hq)) (lw_ret Z.1 Z.2.1 hr Z.2.2.2.2.2.2.2.1 d_l_law_981))
theorem lt4 {L : Nat} (h : L < 4) : nI L - nI 4 < nI 0 := by
  rcases (show L = 0 ∨ L = 1 ∨ L = 2 ∨ L = 3 by omega) with rfl | rfl | rfl | rfl <;> decide
set_option maxHeartbeats 8000000 in
set_option maxRecDepth 100000 in
theorem law_loop {p : Program} {l : Launch} {e : Env} {s : State} {m : MethodId} {below : List Frame} {meth : Method} {c : Code} {D : va_G} {cI cB cL : ClassId} {b L o : Nat} {xs : Nat → Int32} {hx hm : Nat → Nat} (Z : zC p s m #[Value.ref b] meth c code 7 R_L lw_tbl D zCl (zTy cI cB cL) []) (hlt : l.stackTraces = false) (hX : va_X b L xs s s.heap) (hbl : b < s.heap.size) (hbA : ¬ va_A [] s.heap.size b) (hL : L ≤ 2048) (hr : meth.sig.returnType = ret) {g : Nat → Int64} {σ τ : St} (h : Rel σ τ) : zAt p l e room_1 s m #[Value.ref b] below meth c D zCl [] 7 (26) (932) (lw_Z below #[Value.ref b] s) (wm hm cI cB τ ++ wo o cL g hx cI σ) 23 [(0, .ref b), (1, .ref (hx 0)), (2, .ref (hm 0)), (3, .ref o), (4, .int (nI (4 * 0)))] [] := by
  have hL31 : L < 2 ^ 31 := by omega
  by_cases h4 : 4 ≤ L
  · refine z_loopC (fun q : Nat × (Nat → Int64) × St × St => 4 * q.1 ≤ L ∧ Rel q.2.2.1 q.2.2.2) (fun q : Nat × (Nat → Int64) × St × St => L - 4 * q.1) (fun q : Nat × (Nat → Int64) × St × St => 26 + q.1) (fun q : Nat × (Nat → Int64) × St × St => 932 + 6 * q.1) (fun q : Nat × (Nat → Int64) × St × St => wm hm cI cB q.2.2.2 ++ wo o cL q.2.1 hx cI q.2.2.1) (fun q : Nat × (Nat → Int64) × St × St => [(0, .ref b), (1, .ref (hx 0)), (2, .ref (hm 0)), (3, .ref o), (4, .int (nI (4 * q.1)))]) (fun q hi ih => ?_) (0, g, σ, τ) ⟨by omega, h⟩
    obtain ⟨t, g, σ, τ⟩ := q
    dsimp only at hi ih ⊢
    refine z_iload Z 4 d_l_law_23 rfl ?_
    refine z_aload_n Z 0 d_l_law_25 rfl rfl ?_
    refine z_slen Z hX hbl hbA d_l_law_26 ?_
    refine z_iconst Z (nI 4) d_l_law_27 zi_4 ?_
    refine z_isubN Z d_l_law_28 h4 ?_
    refine z_icmpN_gt Z 980 d_l_law_29 (by decide) (by omega) (by omega) (fun hg => ?_) (fun hg => ?_)
    · exact z_lawret Z hr (by omega) (by omega)
    have ht : 4 * t + 4 ≤ L := by omega
    have J : ∀ (g1 : Nat → Int64) (σ1 τ1 : St), Rel σ1 τ1 → zAt p l e room_1 s m #[Value.ref b] below meth c D zCl [] 7 (26 + t + 1) (932 + 6 * t + 6) (lw_Z below #[Value.ref b] s) (wm hm cI cB τ1 ++ wo o cL g1 hx cI σ1) 974 [(0, .ref b), (1, .ref (hx 0)), (2, .ref (hm 0)), (3, .ref o), (4, .int (nI (4 * t)))] [] := fun g1 σ1 τ1 hR => by
      refine z_iinc Z 4 (nI (4 * (t + 1))) d_l_law_974 rfl (nI_add (4 * t) 4) (by decide) rfl ?_
      refine z_goto Z 23 d_l_law_977 (by decide) ?_
      exact z_widen (by dsimp only; omega) (by dsimp only; omega) (z_lv rfl (ih (t + 1, g1, σ1, τ1) ⟨by dsimp only; omega, hR⟩ (by dsimp only; omega)))
    refine z_aload_n Z 0 d_l_law_32 rfl rfl ?_
    refine z_iload Z 4 d_l_law_33 rfl ?_
    refine z_sld Z hX hbl hbA (by omega) hL31 d_l_law_35 ?_
    refine z_bipush Z (nI 31) d_l_law_36 zb_31 ?_
    refine z_iand Z d_l_law_38 ?_
    obtain ⟨k, hk, ek⟩ := and31 (xs (4 * t))
    refine z_eqi ek ?_
    rcases (show k = 0 ∨ k = 1 ∨ k = 2 ∨ k = 3 ∨ k = 4 ∨ k = 5 ∨ k = 6 ∨ k = 7 ∨ k = 8 ∨ k = 9 ∨ k = 10 ∨ k = 11 ∨ k = 12 ∨ k = 13 ∨ k = 14 ∨ k = 15 ∨ k = 16 ∨ 17 ≤ k by omega) with rfl | rfl | rfl | rfl | rfl | rfl | rfl | rfl | rfl | rfl | rfl | rfl | rfl | rfl | rfl | rfl | rfl | hk17
    · refine z_tableIn Z 120 (off := 81) d_l_law_39 (by decide) (by decide) (by decide) (by decide) ?_
      exact z_lv rfl (k_make Z hlt hX hbl hbA hL ht hi.2 J)
    · refine z_tableIn Z 176 (off := 137) d_l_law_39 (by decide) (by decide) (by decide) (by decide) ?_
      exact z_lv rfl (k_set Z hlt hX hbl hbA hL ht hi.2 J)
    · refine z_tableIn Z 236 (off := 197) d_l_law_39 (by decide) (by decide) (by decide) (by decide) ?_
      exact z_lv rfl (k_get Z hlt hX hbl hbA hL ht hi.2 J)
    · refine z_tableIn Z 304 (off := 265) d_l_law_39 (by decide) (by decide) (by decide) (by decide) ?_
      exact z_lv rfl (k_put Z hlt hX hbl hbA hL ht hi.2 J)
    · refine z_tableIn Z 391 (off := 352) d_l_law_39 (by decide) (by decide) (by decide) (by decide) ?_
      exact z_lv rfl (k_find Z hlt hX hbl hbA hL ht hi.2 J)
    · refine z_tableIn Z 459 (off := 420) d_l_law_39 (by decide) (by decide) (by decide) (by decide) ?_
      exact z_lv rfl (k_remove Z hlt hX hbl hbA hL ht hi.2 J)
    · refine z_tableIn Z 534 (off := 495) d_l_law_39 (by decide) (by decide) (by decide) (by decide) ?_
      exact z_lv rfl (k_key Z hlt hX hbl hbA hL ht hi.2 J)
    · refine z_tableIn Z 602 (off := 563) d_l_law_39 (by decide) (by decide) (by decide) (by decide) ?_
      exact z_lv rfl (k_root Z hlt hX hbl hbA hL ht hi.2 J)
    · refine z_tableIn Z 650 (off := 611) d_l_law_39 (by decide) (by decide) (by decide) (by decide) ?_
      exact z_lv rfl (k_rootAt Z hlt hX hbl hbA hL ht hi.2 J)
    · refine z_tableIn Z 706 (off := 667) d_l_law_39 (by decide) (by decide) (by decide) (by decide) ?_
      exact z_lv rfl (k_guard Z hlt hX hbl hbA hL ht hi.2 J)
    · refine z_tableIn Z 766 (off := 727) d_l_law_39 (by decide) (by decide) (by decide) (by decide) ?_
      exact z_lv rfl (k_collect Z hlt hX hbl hbA hL ht hi.2 J)
    · refine z_tableIn Z 779 (off := 740) d_l_law_39 (by decide) (by decide) (by decide) (by decide) ?_
      exact z_lv rfl (k_run Z hlt hX hbl hbA hL ht hi.2 J)
    · refine z_tableIn Z 823 (off := 784) d_l_law_39 (by decide) (by decide) (by decide) (by decide) ?_
      exact z_lv rfl (k_queued Z hlt hX hbl hbA hL ht hi.2 J)
    · refine z_tableIn Z 836 (off := 797) d_l_law_39 (by decide) (by decide) (by decide) (by decide) ?_
      exact z_lv rfl (k_used Z hlt hX hbl hbA hL ht hi.2 J)
    · refine z_tableIn Z 849 (off := 810) d_l_law_39 (by decide) (by decide) (by decide) (by decide) ?_
      exact z_lv rfl (k_kind Z hlt hX hbl hbA hL ht hi.2 J)
    · refine z_tableIn Z 905 (off := 866) d_l_law_39 (by decide) (by decide) (by decide) (by decide) ?_
      exact z_lv rfl (k_serial Z hlt hX hbl hbA hL ht hi.2 J)
    · refine z_tableIn Z 961 (off := 922) d_l_law_39 (by decide) (by decide) (by decide) (by decide) ?_
      exact z_lv rfl (k_collections Z hlt hX hbl hbA hL ht hi.2 J)
    · refine z_tableOut Z 974 d_l_law_39 (Or.inr (by rw [nI_toInt (by omega)]; omega)) (by decide) ?_
      exact z_widen (by omega) (by omega) (z_lv rfl (J g σ τ hi.2))
  · refine z_iload Z 4 d_l_law_23 rfl ?_
    refine z_aload_n Z 0 d_l_law_25 rfl rfl ?_
    refine z_slen Z hX hbl hbA d_l_law_26 ?_
    refine z_iconst Z (nI 4) d_l_law_27 zi_4 ?_
    refine z_isub Z d_l_law_28 ?_
    refine z_icmp_gt Z 980 d_l_law_29 (by decide) (fun hg => ?_) (fun hg => absurd (lt4 (by omega)) hg)
    exact z_lawret Z hr (by omega) (by omega)
set_option maxHeartbeats 8000000 in
set_option maxRecDepth 100000 in
theorem law_all {p : Program} {l : Launch} {e : Env} {s : State} {m : MethodId} {below : List Frame} {meth : Method} {c : Code} {D : va_G} {cI cB cL : ClassId} {b L  : Nat} {xs : Nat → Int32} (Z : zC p s m #[Value.ref b] meth c code 7 R_L lw_tbl D zCl (zTy cI cB cL) []) (hlt : l.stackTraces = false) (hX : va_X b L xs s s.heap) (hbl : b < s.heap.size) (hbA : ¬ va_A [] s.heap.size b) (hL : L ≤ 2048) (hr : meth.sig.returnType = ret) : zAt p l e room_1 s m #[Value.ref b] below meth c D zCl [] 7 (0) (0) (lw_Z below #[Value.ref b] s) ([]) 0 [(0, .ref b)] [] := by
  refine z_new (ci := 0) Z (fun w hw => tX w (inX_u w hw)) t_X t_X_ok at_cX at_iX at_nX rfl fsX0 fs_X (by decide) (by decide) d_l_law_0 (fun q1 => ?_)
  refine z_dup Z d_l_law_3 ?_
  refine z_callI (pre := []) (wc := [(q1, .inr (0, fsX0))]) (suf := []) Z c_init gd_init rfl rfl rfl at_lX at_mX at_nX rfl ⟨by decide, by decide, by decide +kernel⟩ ⟨by decide, by decide⟩ rfl rfl rfl (Nat.le_of_ble_eq_true rfl) d_l_law_4 ⟨by decide, by decide⟩ (fun E w hE => ?_) (fun v w hw => ?_)
  · obtain ⟨u, -, hE⟩ := hE
    exact hE.elim
  obtain ⟨⟨hx, σ⟩, rfl, hq⟩ := hw
  cases v with
  | some _ => exact hq.elim
  | none =>
    obtain ⟨hq1, hq2⟩ := hq
    dsimp only at hq1 hq2
    subst hq1
    subst hq2
    refine z_ws (ws' := wx hx cI sX0) rfl ?_
    refine z_astore_n Z 1 d_l_law_7 rfl (by decide) rfl ?_
    refine z_new (ci := 1) Z (fun w hw => tWM w (inM_u w hw)) t_M t_M_ok at_cM at_iM at_nM rfl fsM0 fs_M (by decide) (by decide) d_l_law_8 (fun q2 => ?_)
    refine z_dup Z d_l_law_11 ?_
    refine z_callI (pre := wx hx cI sX0) (wc := [(q2, .inr (1, fsM0))]) (suf := []) Z c_m_init gd_m_init rfl rfl rfl at_lM at_mM at_nM rfl ⟨by decide, by decide, by decide +kernel⟩ ⟨by decide, by decide⟩ rfl rfl rfl (Nat.le_of_ble_eq_true rfl) d_l_law_12 ⟨by decide, by decide⟩ (fun E w hE => ?_) (fun v w hw => ?_)
    · obtain ⟨u, -, hE⟩ := hE
      exact hE.elim
    obtain ⟨⟨hm, τ⟩, rfl, hq⟩ := hw
    cases v with
    | some _ => exact hq.elim
    | none =>
      obtain ⟨hq1, hq2⟩ := hq
      dsimp only at hq1 hq2
      subst hq1
      subst hq2
      refine z_astore_n Z 2 d_l_law_15 rfl (by decide) rfl ?_
      refine z_iconst Z (nI 1) d_l_law_16 zi_1 ?_
      refine z_newaL Z 2 at_aL rfl (by decide) (by decide) (by decide) (by decide) d_l_law_17 (fun o => ?_)
      refine z_astore_n Z 3 d_l_law_19 rfl (by decide) rfl ?_
      refine z_iconst Z (nI 0) d_l_law_20 zi_0 ?_
      refine z_istore Z 4 d_l_law_21 (by decide) rfl ?_
      refine z_perm (ws' := wm hm cI cB sM0 ++ wo o cL (fun _ => 0) hx cI sX0) [12, 13, 14, 15, 16, 17, 18, 19, 20, 21, 22, 23, 24, 25, 0, 1, 2, 3, 4, 5, 6, 7, 8, 9, 10, 11] (by decide) rfl rfl ?_
      exact z_lv (lv' := [(0, .ref b), (1, .ref (hx 0)), (2, .ref (hm 0)), (3, .ref o), (4, .int (nI (4 * 0)))]) rfl (law_loop Z hlt hX hbl hbA hL hr Rel_0)
