set_option maxHeartbeats 4000000 in
set_option maxRecDepth 100000 in
theorem k_kind {p : Program} {l : Launch} {e : Env} {s : State} {m : MethodId} {args : Array Value} {below : List Frame} {meth : Method} {c : Code} {Q : State → Prop} {D : va_G} {cI cB cL : ClassId} {b L o : Nat} {xs : Nat → Int32} {hx hm : Nat → Nat} (Z : zC p s m args meth c code 7 R_L lw_tbl D zCl (zTy cI cB cL) []) (hlt : l.stackTraces = false) (hX : va_X b L xs s s.heap) (hbl : b < s.heap.size) (hbA : ¬ va_A [] s.heap.size b) (hL : L ≤ 2048) {t : Nat} (ht : 4 * t + 4 ≤ L) {g : Nat → Int64} {σ τ : St} (h : Rel σ τ) (J : ∀ (g1 : Nat → Int64) (σ1 τ1 : St), Rel σ1 τ1 → zAt p l e room_1 s m args below meth c D zCl [] 7 (26 + t + 1) (932 + 6 * t + 6) Q (wm hm cI cB τ1 ++ wo o cL g1 hx cI σ1) 974 [(0, .ref b), (1, .ref (hx 0)), (2, .ref (hm 0)), (3, .ref o), (4, .int (nI (4 * t)))] []) : zAt p l e room_1 s m args below meth c D zCl [] 7 (26 + t) (932 + 6 * t) Q (wm hm cI cB τ ++ wo o cL g hx cI σ) 849 [(0, .ref b), (1, .ref (hx 0)), (2, .ref (hm 0)), (3, .ref o), (4, .int (nI (4 * t)))] [] := by
  have hL31 : L < 2 ^ 31 := by omega
  refine z_aload_n Z 1 d_l_law_849 rfl rfl ?_
  refine z_aload_n Z 0 d_l_law_850 rfl rfl ?_
  refine z_iload Z 4 d_l_law_851 rfl ?_
  refine z_iconst Z (nI 1) d_l_law_853 zi_1 ?_
  refine z_iaddN Z d_l_law_854 ?_
  refine z_sld Z hX hbl hbA (by omega) hL31 d_l_law_855 ?_
  refine z_aload_n Z 3 d_l_law_856 rfl rfl ?_
  refine z_Ti (pre := wm hm cI cB τ) (wc := wo o cL g hx cI σ) (suf := []) Z (c_l_kind hlt) ok_s_kind rfl rfl ⟨by decide, by decide⟩ rfl rfl rfl (Nat.le_of_ble_eq_true rfl) d_l_law_857 ⟨by show _ ≤ 1061; omega, by show _ ≤ 9190; omega⟩ (fun E u hE => hE.elim) (fun kk u hk => ?_)
  obtain ⟨g1, σ1⟩ := u
  refine z_ws (ws' := wm hm cI cB τ ++ wo o cL g1 hx cI σ1) rfl ?_
  refine z_istore Z 5 d_l_law_860 (by decide) rfl ?_
  refine z_aload_n Z 2 d_l_law_862 rfl rfl ?_
  refine z_aload_n Z 0 d_l_law_863 rfl rfl ?_
  refine z_iload Z 4 d_l_law_864 rfl ?_
  refine z_iconst Z (nI 1) d_l_law_866 zi_1 ?_
  refine z_iaddN Z d_l_law_867 ?_
  refine z_sld Z hX hbl hbA (by omega) hL31 d_l_law_868 ?_
  refine z_Vi (pre := []) (wc := wm hm cI cB τ) (suf := wo o cL g1 hx cI σ1) Z (c_m_kind ) ok_t_kind rfl rfl ⟨by decide, by decide⟩ rfl rfl rfl rfl rfl (Nat.le_of_ble_eq_true rfl) d_l_law_869 ⟨by show _ ≤ 1061; omega, by show _ ≤ 9190; omega⟩ (fun E u hE => hE.elim) (fun y τ1 hq => ?_)
  refine z_ws (ws' := wm hm cI cB τ1 ++ wo o cL g1 hx cI σ1) rfl ?_
  have q := q_kind h hk hq
  refine z_istore Z 6 d_l_law_872 (by decide) rfl ?_
  refine z_aload_n Z 2 d_l_law_874 rfl rfl ?_
  refine z_Vi0 (pre := []) (wc := wm hm cI cB τ1) (suf := wo o cL g1 hx cI σ1) Z (c_m_thrown) ok_t_thrown rfl rfl ⟨by decide, by decide⟩ rfl rfl rfl rfl rfl (Nat.le_of_ble_eq_true rfl) d_l_law_875 ⟨by show _ ≤ 1061; omega, by show _ ≤ 9190; omega⟩ (fun E hE => hE.elim) (fun v hv => ?_)
  obtain rfl := hv
  refine z_ws (ws' := wm hm cI cB τ1 ++ wo o cL g1 hx cI σ1) rfl ?_
  refine z_iload Z 5 d_l_law_878 rfl ?_
  refine z_icmp_eq Z 885 d_l_law_880 (by decide) (fun _ => ?_) (fun hne => absurd (q.1) hne)
  refine z_iload Z 5 d_l_law_885 rfl ?_
  refine z_if_ne Z 902 d_l_law_887 (by decide) (fun _ => ?_) (fun h0 => ?_)
  · refine z_goto Z 974 d_l_law_902 (by decide) ?_
    exact z_lv rfl (J g1 σ1 τ1 q.2.2)
  have q0 : g1 0 = _ := q.2.1 h0
  refine z_aload_n Z 3 d_l_law_890 rfl rfl ?_
  refine z_iconst Z (nI 0) d_l_law_891 zi_0 ?_
  refine z_lald Z 13 2 (f := g1) (j := 0) rfl rfl (by decide) (by decide) d_l_law_892 ?_
  refine z_iload Z 6 d_l_law_893 rfl ?_
  refine z_i2l Z d_l_law_895 ?_
  refine z_lcmp Z d_l_law_896 ?_
  refine z_eqi (y := 0) (by rw [q0]; exact lgc0 _) ?_
  refine z_if_eq Z 902 d_l_law_897 (by decide) (fun _ => ?_) (fun hne => absurd rfl hne)
  refine z_goto Z 974 d_l_law_902 (by decide) ?_
  exact z_lv rfl (J g1 σ1 τ1 q.2.2)
