set_option maxHeartbeats 4000000 in
set_option maxRecDepth 100000 in
theorem k_collect {p : Program} {l : Launch} {e : Env} {s : State} {m : MethodId} {args : Array Value} {below : List Frame} {meth : Method} {c : Code} {Q : State → Prop} {D : va_G} {cI cB cL : ClassId} {b L o : Nat} {xs : Nat → Int32} {hx hm : Nat → Nat} (Z : zC p s m args meth c code 7 R_L lw_tbl D zCl (zTy cI cB cL) []) (hlt : l.stackTraces = false) (hX : va_X b L xs s s.heap) (hbl : b < s.heap.size) (hbA : ¬ va_A [] s.heap.size b) (hL : L ≤ 2048) {t : Nat} (ht : 4 * t + 4 ≤ L) {g : Nat → Int64} {σ τ : St} (h : Rel σ τ) (J : ∀ (g1 : Nat → Int64) (σ1 τ1 : St), Rel σ1 τ1 → zAt p l e room_1 s m args below meth c D zCl [] 7 (26 + t + 1) (932 + 6 * t + 6) Q (wm hm cI cB τ1 ++ wo o cL g1 hx cI σ1) 974 [(0, .ref b), (1, .ref (hx 0)), (2, .ref (hm 0)), (3, .ref o), (4, .int (nI (4 * t)))] []) : zAt p l e room_1 s m args below meth c D zCl [] 7 (26 + t) (932 + 6 * t) Q (wm hm cI cB τ ++ wo o cL g hx cI σ) 766 [(0, .ref b), (1, .ref (hx 0)), (2, .ref (hm 0)), (3, .ref o), (4, .int (nI (4 * t)))] [] := by
  have hL31 : L < 2 ^ 31 := by omega
  refine z_aload_n Z 1 d_l_law_766 rfl rfl ?_
  refine z_Vi (pre := wm hm cI cB τ ++ [(o, .inl (cL, 1, .inr (.inl g)))]) (wc := wx hx cI σ) (suf := []) Z (c_collect (R_w1 h) (R_q1 h)) ok_u_collect rfl rfl ⟨by decide, by decide⟩ rfl rfl rfl rfl rfl (Nat.le_of_ble_eq_true rfl) d_l_law_767 ⟨by show _ ≤ 1061; omega, by show _ ≤ 9190; omega⟩ (fun E u hE => hE.elim) (fun z σ1 hz => ?_)
  refine z_ws (ws' := wm hm cI cB τ ++ wo o cL g hx cI σ1) rfl ?_
  refine z_aload_n Z 2 d_l_law_770 rfl rfl ?_
  refine z_Vi (pre := []) (wc := wm hm cI cB τ) (suf := wo o cL g hx cI σ1) Z (c_m_collect (R_w2 h) (R_q2 h)) ok_t_collect rfl rfl ⟨by decide, by decide⟩ rfl rfl rfl rfl rfl (Nat.le_of_ble_eq_true rfl) d_l_law_771 ⟨by show _ ≤ 1061; omega, by show _ ≤ 9190; omega⟩ (fun E u hE => hE.elim) (fun y τ1 hq => ?_)
  refine z_ws (ws' := wm hm cI cB τ1 ++ wo o cL g hx cI σ1) rfl ?_
  have q := o_collect h hz hq
  refine z_icmp_eq Z 974 d_l_law_774 (by decide) (fun _ => ?_) (fun hne => absurd (q.1) hne)
  exact z_widen (by omega) (by omega) (z_lv rfl (J g σ1 τ1 q.2))
