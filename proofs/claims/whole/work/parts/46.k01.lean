set_option maxHeartbeats 4000000 in
set_option maxRecDepth 100000 in
theorem k_set {p : Program} {l : Launch} {e : Env} {s : State} {m : MethodId} {args : Array Value} {below : List Frame} {meth : Method} {c : Code} {Q : State → Prop} {D : va_G} {cI cB cL : ClassId} {b L o : Nat} {xs : Nat → Int32} {hx hm : Nat → Nat} (Z : zC p s m args meth c code 7 R_L lw_tbl D zCl (zTy cI cB cL) []) (hlt : l.stackTraces = false) (hX : va_X b L xs s s.heap) (hbl : b < s.heap.size) (hbA : ¬ va_A [] s.heap.size b) (hL : L ≤ 2048) {t : Nat} (ht : 4 * t + 4 ≤ L) {g : Nat → Int64} {σ τ : St} (h : Rel σ τ) (J : ∀ (g1 : Nat → Int64) (σ1 τ1 : St), Rel σ1 τ1 → zAt p l e room_1 s m args below meth c D zCl [] 7 (26 + t + 1) (932 + 6 * t + 6) Q (wm hm cI cB τ1 ++ wo o cL g1 hx cI σ1) 974 [(0, .ref b), (1, .ref (hx 0)), (2, .ref (hm 0)), (3, .ref o), (4, .int (nI (4 * t)))] []) : zAt p l e room_1 s m args below meth c D zCl [] 7 (26 + t) (932 + 6 * t) Q (wm hm cI cB τ ++ wo o cL g hx cI σ) 176 [(0, .ref b), (1, .ref (hx 0)), (2, .ref (hm 0)), (3, .ref o), (4, .int (nI (4 * t)))] [] := by
  have hL31 : L < 2 ^ 31 := by omega
  refine z_aload_n Z 1 d_l_law_176 rfl rfl ?_
  refine z_aload_n Z 0 d_l_law_177 rfl rfl ?_
  refine z_iload Z 4 d_l_law_178 rfl ?_
  refine z_iconst Z (nI 1) d_l_law_180 zi_1 ?_
  refine z_iaddN Z d_l_law_181 ?_
  refine z_sld Z hX hbl hbA (by omega) hL31 d_l_law_182 ?_
  refine z_aload_n Z 0 d_l_law_183 rfl rfl ?_
  refine z_iload Z 4 d_l_law_184 rfl ?_
  refine z_iconst Z (nI 2) d_l_law_186 zi_2 ?_
  refine z_iaddN Z d_l_law_187 ?_
  refine z_sld Z hX hbl hbA (by omega) hL31 d_l_law_188 ?_
  refine z_aload_n Z 0 d_l_law_189 rfl rfl ?_
  refine z_iload Z 4 d_l_law_190 rfl ?_
  refine z_iconst Z (nI 3) d_l_law_192 zi_3 ?_
  refine z_iaddN Z d_l_law_193 ?_
  refine z_sld Z hX hbl hbA (by omega) hL31 d_l_law_194 ?_
  refine z_Ti (pre := wm hm cI cB τ) (wc := wo o cL g hx cI σ) (suf := []) Z (c_l_set hlt) ok_s_set rfl rfl ⟨by decide, by decide⟩ rfl rfl rfl (Nat.le_of_ble_eq_true rfl) d_l_law_195 ⟨by show _ ≤ 1061; omega, by show _ ≤ 9190; omega⟩ (fun E u hE => hE.elim) (fun kk u hk => ?_)
  obtain ⟨g1, σ1⟩ := u
  refine z_ws (ws' := wm hm cI cB τ ++ wo o cL g1 hx cI σ1) rfl ?_
  refine z_istore Z 5 d_l_law_198 (by decide) rfl ?_
  refine z_aload_n Z 2 d_l_law_200 rfl rfl ?_
  refine z_aload_n Z 0 d_l_law_201 rfl rfl ?_
  refine z_iload Z 4 d_l_law_202 rfl ?_
  refine z_iconst Z (nI 1) d_l_law_204 zi_1 ?_
  refine z_iaddN Z d_l_law_205 ?_
  refine z_sld Z hX hbl hbA (by omega) hL31 d_l_law_206 ?_
  refine z_aload_n Z 0 d_l_law_207 rfl rfl ?_
  refine z_iload Z 4 d_l_law_208 rfl ?_
  refine z_iconst Z (nI 2) d_l_law_210 zi_2 ?_
  refine z_iaddN Z d_l_law_211 ?_
  refine z_sld Z hX hbl hbA (by omega) hL31 d_l_law_212 ?_
  refine z_aload_n Z 0 d_l_law_213 rfl rfl ?_
  refine z_iload Z 4 d_l_law_214 rfl ?_
  refine z_iconst Z (nI 3) d_l_law_216 zi_3 ?_
  refine z_iaddN Z d_l_law_217 ?_
  refine z_sld Z hX hbl hbA (by omega) hL31 d_l_law_218 ?_
  refine z_Vv (pre := []) (wc := wm hm cI cB τ) (suf := wo o cL g1 hx cI σ1) Z (c_m_set ) ok_t_set rfl rfl ⟨by decide, by decide⟩ rfl rfl rfl rfl rfl (Nat.le_of_ble_eq_true rfl) d_l_law_219 ⟨by show _ ≤ 1061; omega, by show _ ≤ 9190; omega⟩ (fun E u hE => hE.elim) (fun τ1 hq => ?_)
  refine z_ws (ws' := wm hm cI cB τ1 ++ wo o cL g1 hx cI σ1) rfl ?_
  have q := q_set h hk hq
  refine z_aload_n Z 2 d_l_law_222 rfl rfl ?_
  refine z_Vi0 (pre := []) (wc := wm hm cI cB τ1) (suf := wo o cL g1 hx cI σ1) Z (c_m_thrown) ok_t_thrown rfl rfl ⟨by decide, by decide⟩ rfl rfl rfl rfl rfl (Nat.le_of_ble_eq_true rfl) d_l_law_223 ⟨by show _ ≤ 1061; omega, by show _ ≤ 9190; omega⟩ (fun E hE => hE.elim) (fun v hv => ?_)
  obtain rfl := hv
  refine z_ws (ws' := wm hm cI cB τ1 ++ wo o cL g1 hx cI σ1) rfl ?_
  refine z_iload Z 5 d_l_law_226 rfl ?_
  refine z_icmp_eq Z 233 d_l_law_228 (by decide) (fun _ => ?_) (fun hne => absurd (q.1) hne)
  refine z_goto Z 974 d_l_law_233 (by decide) ?_
  exact z_lv rfl (J g1 σ1 τ1 q.2)
