def fllM (f : Nat → Int32) : Nat → Nat → Int32
  | 0 => f
  | i + 1 => upd (fllM f i) i (-1)
theorem fllM_lt (f : Nat → Int32) {n i : Nat} (h : i < n) : fllM f n i = -1 := by
  induction n with
  | zero => omega
  | succ n ih =>
    show upd (fllM f n) n (-1) i = _
    by_cases e : i = n
    · rw [e, pk_us]
    · rw [pk_un e]; exact ih (by omega)
theorem fllM_ge (f : Nat → Int32) {n i : Nat} (h : n ≤ i) : fllM f n i = f i := by
  induction n with
  | zero => rfl
  | succ n ih =>
    show upd (fllM f n) n (-1) i = _
    rw [pk_un (by omega)]; exact ih (by omega)
def z0 : St := fun _ _ => 0
def sX0 : St := va_up z0 10 (fllM (z0 10) 6)
def sM0 : St := va_up (va_up z0 1 (fllM (z0 1) 24)) 10 (fllM (z0 10) 6)
def wXi : List Cond := wX ++ [.methodLink R_X 1 Lib.objectInit, .instanceMethod Lib.objectInit, .code Lib.objectInit ⟨#[0xb1]⟩ 1 none, .arrayClass .int]
def w_init : List Cond := .code y_init b_init 2 none :: wXi
abbrev rm_init : Room := { frames := 1, cells := 11, slots := 438, locals := 12 }
def fsX0 : List Value := [.int 0, .null, .null, .null, .null, .null, .null, .null, .null, .null, .null, .null, .int 0, .int 0, .int 0]
def hhX (q0 q1 q2 q3 q4 q5 q6 q7 q8 q9 q10 q11 : Nat) : Nat → Nat := fun k => match k with | 0 => q0 | 1 => q1 | 2 => q2 | 3 => q3 | 4 => q4 | 5 => q5 | 6 => q6 | 7 => q7 | 8 => q8 | 9 => q9 | 10 => q10 | 11 => q11 | _ => 0
set_option maxHeartbeats 4000000 in
set_option maxRecDepth 100000 in
theorem c_init {l : Launch} {D : va_G} {cI cB cL : ClassId} {h0 : Nat} : zMet l y_init w_init rm_init D zCl (zTy cI cB cL) [(h0, .inr (0, fsX0))] [.ref h0] (qv (fun u : (Nat → Nat) × St => (wx u.1 cI u.2)) (fun u => u.1 0 = h0 ∧ u.2 = sX0) noXs) 11 438 11 438 := by
  refine z_meth (by decide) rfl (Nat.le_of_ble_eq_true rfl) (fun p e s mm as bl me cd Z0 hr hnm ht => ?_)
  have Z := z_subT (Ts' := .code y_init b_init 2 none :: wX) Z0 (fun w hw => (List.mem_cons.mp hw).elim (fun e => e ▸ List.mem_cons_self) (fun h => List.mem_cons_of_mem _ (List.mem_append_left _ h)))
  refine z_aload_n Z 0 d_init_0 rfl rfl ?_
  refine z_objInit Z0 (List.mem_cons_of_mem _ (List.mem_append_right _ (List.mem_of_getElem? (i := 0) rfl))) (List.mem_cons_of_mem _ (List.mem_append_right _ (List.mem_of_getElem? (i := 1) rfl))) (List.mem_cons_of_mem _ (List.mem_append_right _ (List.mem_of_getElem? (i := 2) rfl))) (by decide) (by decide) d_init_1 ?_
  refine z_aload_n Z 0 d_init_4 rfl rfl ?_
  refine z_bipush Z (nI 24) d_init_5 zb_24 ?_
  refine z_newaI Z0 0 (List.mem_cons_of_mem _ (List.mem_append_right _ (List.mem_of_getElem? (i := 3) rfl))) rfl (by decide) (by decide) (by decide) (by decide) d_init_7 (fun q1 => ?_)
  refine z_putF (ws' := [(h0, .inr (0, [.int 0, .ref q1, .null, .null, .null, .null, .null, .null, .null, .null, .null, .null, .int 0, .int 0, .int 0])), (q1, .inl (cI, 24, .inl (fun _ => 0)))]) Z hnm in_X t_X t_X_ok n_X 0 rfl rfl 1 (by decide) (List.mem_cons_of_mem _ lk_X_kinds) rfl rfl (ty := .array .int) (by decide +kernel) rfl rfl (Nat.le_of_ble_eq_true rfl) d_init_9 rfl ?_
  refine z_aload_n Z 0 d_init_12 rfl rfl ?_
  refine z_bipush Z (nI 24) d_init_13 zb_24 ?_
  refine z_newaI Z0 0 (List.mem_cons_of_mem _ (List.mem_append_right _ (List.mem_of_getElem? (i := 3) rfl))) rfl (by decide) (by decide) (by decide) (by decide) d_init_15 (fun q2 => ?_)
  refine z_putF (ws' := [(h0, .inr (0, [.int 0, .ref q1, .ref q2, .null, .null, .null, .null, .null, .null, .null, .null, .null, .int 0, .int 0, .int 0])), (q1, .inl (cI, 24, .inl (fun _ => 0))), (q2, .inl (cI, 24, .inl (fun _ => 0)))]) Z hnm in_X t_X t_X_ok n_X 0 rfl rfl 2 (by decide) (List.mem_cons_of_mem _ lk_X_serials) rfl rfl (ty := .array .int) (by decide +kernel) rfl rfl (Nat.le_of_ble_eq_true rfl) d_init_17 rfl ?_
  refine z_aload_n Z 0 d_init_20 rfl rfl ?_
  refine z_bipush Z (nI 72) d_init_21 zb_72 ?_
  refine z_newaI Z0 0 (List.mem_cons_of_mem _ (List.mem_append_right _ (List.mem_of_getElem? (i := 3) rfl))) rfl (by decide) (by decide) (by decide) (by decide) d_init_23 (fun q3 => ?_)
  refine z_putF (ws' := [(h0, .inr (0, [.int 0, .ref q1, .ref q2, .ref q3, .null, .null, .null, .null, .null, .null, .null, .null, .int 0, .int 0, .int 0])), (q1, .inl (cI, 24, .inl (fun _ => 0))), (q2, .inl (cI, 24, .inl (fun _ => 0))), (q3, .inl (cI, 72, .inl (fun _ => 0)))]) Z hnm in_X t_X t_X_ok n_X 0 rfl rfl 3 (by decide) (List.mem_cons_of_mem _ lk_X_fields) rfl rfl (ty := .array .int) (by decide +kernel) rfl rfl (Nat.le_of_ble_eq_true rfl) d_init_25 rfl ?_
  refine z_aload_n Z 0 d_init_28 rfl rfl ?_
  refine z_bipush Z (nI 96) d_init_29 zb_96 ?_
  refine z_newaI Z0 0 (List.mem_cons_of_mem _ (List.mem_append_right _ (List.mem_of_getElem? (i := 3) rfl))) rfl (by decide) (by decide) (by decide) (by decide) d_init_31 (fun q4 => ?_)
  refine z_putF (ws' := [(h0, .inr (0, [.int 0, .ref q1, .ref q2, .ref q3, .ref q4, .null, .null, .null, .null, .null, .null, .null, .int 0, .int 0, .int 0])), (q1, .inl (cI, 24, .inl (fun _ => 0))), (q2, .inl (cI, 24, .inl (fun _ => 0))), (q3, .inl (cI, 72, .inl (fun _ => 0))), (q4, .inl (cI, 96, .inl (fun _ => 0)))]) Z hnm in_X t_X t_X_ok n_X 0 rfl rfl 4 (by decide) (List.mem_cons_of_mem _ lk_X_keys) rfl rfl (ty := .array .int) (by decide +kernel) rfl rfl (Nat.le_of_ble_eq_true rfl) d_init_33 rfl ?_
  refine z_aload_n Z 0 d_init_36 rfl rfl ?_
  refine z_bipush Z (nI 96) d_init_37 zb_96 ?_
  refine z_newaI Z0 0 (List.mem_cons_of_mem _ (List.mem_append_right _ (List.mem_of_getElem? (i := 3) rfl))) rfl (by decide) (by decide) (by decide) (by decide) d_init_39 (fun q5 => ?_)
  refine z_putF (ws' := [(h0, .inr (0, [.int 0, .ref q1, .ref q2, .ref q3, .ref q4, .ref q5, .null, .null, .null, .null, .null, .null, .int 0, .int 0, .int 0])), (q1, .inl (cI, 24, .inl (fun _ => 0))), (q2, .inl (cI, 24, .inl (fun _ => 0))), (q3, .inl (cI, 72, .inl (fun _ => 0))), (q4, .inl (cI, 96, .inl (fun _ => 0))), (q5, .inl (cI, 96, .inl (fun _ => 0)))]) Z hnm in_X t_X t_X_ok n_X 0 rfl rfl 5 (by decide) (List.mem_cons_of_mem _ lk_X_values) rfl rfl (ty := .array .int) (by decide +kernel) rfl rfl (Nat.le_of_ble_eq_true rfl) d_init_41 rfl ?_
  refine z_aload_n Z 0 d_init_44 rfl rfl ?_
  refine z_bipush Z (nI 24) d_init_45 zb_24 ?_
  refine z_newaI Z0 0 (List.mem_cons_of_mem _ (List.mem_append_right _ (List.mem_of_getElem? (i := 3) rfl))) rfl (by decide) (by decide) (by decide) (by decide) d_init_47 (fun q6 => ?_)
  refine z_putF (ws' := [(h0, .inr (0, [.int 0, .ref q1, .ref q2, .ref q3, .ref q4, .ref q5, .ref q6, .null, .null, .null, .null, .null, .int 0, .int 0, .int 0])), (q1, .inl (cI, 24, .inl (fun _ => 0))), (q2, .inl (cI, 24, .inl (fun _ => 0))), (q3, .inl (cI, 72, .inl (fun _ => 0))), (q4, .inl (cI, 96, .inl (fun _ => 0))), (q5, .inl (cI, 96, .inl (fun _ => 0))), (q6, .inl (cI, 24, .inl (fun _ => 0)))]) Z hnm in_X t_X t_X_ok n_X 0 rfl rfl 6 (by decide) (List.mem_cons_of_mem _ lk_X_entryCounts) rfl rfl (ty := .array .int) (by decide +kernel) rfl rfl (Nat.le_of_ble_eq_true rfl) d_init_49 rfl ?_
  refine z_aload_n Z 0 d_init_52 rfl rfl ?_
  refine z_bipush Z (nI 24) d_init_53 zb_24 ?_
  refine z_newaI Z0 0 (List.mem_cons_of_mem _ (List.mem_append_right _ (List.mem_of_getElem? (i := 3) rfl))) rfl (by decide) (by decide) (by decide) (by decide) d_init_55 (fun q7 => ?_)
  refine z_putF (ws' := [(h0, .inr (0, [.int 0, .ref q1, .ref q2, .ref q3, .ref q4, .ref q5, .ref q6, .ref q7, .null, .null, .null, .null, .int 0, .int 0, .int 0])), (q1, .inl (cI, 24, .inl (fun _ => 0))), (q2, .inl (cI, 24, .inl (fun _ => 0))), (q3, .inl (cI, 72, .inl (fun _ => 0))), (q4, .inl (cI, 96, .inl (fun _ => 0))), (q5, .inl (cI, 96, .inl (fun _ => 0))), (q6, .inl (cI, 24, .inl (fun _ => 0))), (q7, .inl (cI, 24, .inl (fun _ => 0)))]) Z hnm in_X t_X t_X_ok n_X 0 rfl rfl 7 (by decide) (List.mem_cons_of_mem _ lk_X_states) rfl rfl (ty := .array .int) (by decide +kernel) rfl rfl (Nat.le_of_ble_eq_true rfl) d_init_57 rfl ?_
  refine z_aload_n Z 0 d_init_60 rfl rfl ?_
  refine z_bipush Z (nI 24) d_init_61 zb_24 ?_
  refine z_newaI Z0 0 (List.mem_cons_of_mem _ (List.mem_append_right _ (List.mem_of_getElem? (i := 3) rfl))) rfl (by decide) (by decide) (by decide) (by decide) d_init_63 (fun q8 => ?_)
  refine z_putF (ws' := [(h0, .inr (0, [.int 0, .ref q1, .ref q2, .ref q3, .ref q4, .ref q5, .ref q6, .ref q7, .ref q8, .null, .null, .null, .int 0, .int 0, .int 0])), (q1, .inl (cI, 24, .inl (fun _ => 0))), (q2, .inl (cI, 24, .inl (fun _ => 0))), (q3, .inl (cI, 72, .inl (fun _ => 0))), (q4, .inl (cI, 96, .inl (fun _ => 0))), (q5, .inl (cI, 96, .inl (fun _ => 0))), (q6, .inl (cI, 24, .inl (fun _ => 0))), (q7, .inl (cI, 24, .inl (fun _ => 0))), (q8, .inl (cI, 24, .inl (fun _ => 0)))]) Z hnm in_X t_X t_X_ok n_X 0 rfl rfl 8 (by decide) (List.mem_cons_of_mem _ lk_X_actions) rfl rfl (ty := .array .int) (by decide +kernel) rfl rfl (Nat.le_of_ble_eq_true rfl) d_init_65 rfl ?_
  refine z_aload_n Z 0 d_init_68 rfl rfl ?_
  refine z_bipush Z (nI 24) d_init_69 zb_24 ?_
  refine z_newaI Z0 0 (List.mem_cons_of_mem _ (List.mem_append_right _ (List.mem_of_getElem? (i := 3) rfl))) rfl (by decide) (by decide) (by decide) (by decide) d_init_71 (fun q9 => ?_)
  refine z_putF (ws' := [(h0, .inr (0, [.int 0, .ref q1, .ref q2, .ref q3, .ref q4, .ref q5, .ref q6, .ref q7, .ref q8, .ref q9, .null, .null, .int 0, .int 0, .int 0])), (q1, .inl (cI, 24, .inl (fun _ => 0))), (q2, .inl (cI, 24, .inl (fun _ => 0))), (q3, .inl (cI, 72, .inl (fun _ => 0))), (q4, .inl (cI, 96, .inl (fun _ => 0))), (q5, .inl (cI, 96, .inl (fun _ => 0))), (q6, .inl (cI, 24, .inl (fun _ => 0))), (q7, .inl (cI, 24, .inl (fun _ => 0))), (q8, .inl (cI, 24, .inl (fun _ => 0))), (q9, .inl (cI, 24, .inl (fun _ => 0)))]) Z hnm in_X t_X t_X_ok n_X 0 rfl rfl 9 (by decide) (List.mem_cons_of_mem _ lk_X_targets) rfl rfl (ty := .array .int) (by decide +kernel) rfl rfl (Nat.le_of_ble_eq_true rfl) d_init_73 rfl ?_
  refine z_aload_n Z 0 d_init_76 rfl rfl ?_
  refine z_bipush Z (nI 6) d_init_77 zb_6 ?_
  refine z_newaI Z0 0 (List.mem_cons_of_mem _ (List.mem_append_right _ (List.mem_of_getElem? (i := 3) rfl))) rfl (by decide) (by decide) (by decide) (by decide) d_init_79 (fun q10 => ?_)
  refine z_putF (ws' := [(h0, .inr (0, [.int 0, .ref q1, .ref q2, .ref q3, .ref q4, .ref q5, .ref q6, .ref q7, .ref q8, .ref q9, .ref q10, .null, .int 0, .int 0, .int 0])), (q1, .inl (cI, 24, .inl (fun _ => 0))), (q2, .inl (cI, 24, .inl (fun _ => 0))), (q3, .inl (cI, 72, .inl (fun _ => 0))), (q4, .inl (cI, 96, .inl (fun _ => 0))), (q5, .inl (cI, 96, .inl (fun _ => 0))), (q6, .inl (cI, 24, .inl (fun _ => 0))), (q7, .inl (cI, 24, .inl (fun _ => 0))), (q8, .inl (cI, 24, .inl (fun _ => 0))), (q9, .inl (cI, 24, .inl (fun _ => 0))), (q10, .inl (cI, 6, .inl (fun _ => 0)))]) Z hnm in_X t_X t_X_ok n_X 0 rfl rfl 10 (by decide) (List.mem_cons_of_mem _ lk_X_roots) rfl rfl (ty := .array .int) (by decide +kernel) rfl rfl (Nat.le_of_ble_eq_true rfl) d_init_81 rfl ?_
  refine z_aload_n Z 0 d_init_84 rfl rfl ?_
  refine z_bipush Z (nI 24) d_init_85 zb_24 ?_
  refine z_newaI Z0 0 (List.mem_cons_of_mem _ (List.mem_append_right _ (List.mem_of_getElem? (i := 3) rfl))) rfl (by decide) (by decide) (by decide) (by decide) d_init_87 (fun q11 => ?_)
  refine z_putF (ws' := [(h0, .inr (0, [.int 0, .ref q1, .ref q2, .ref q3, .ref q4, .ref q5, .ref q6, .ref q7, .ref q8, .ref q9, .ref q10, .ref q11, .int 0, .int 0, .int 0])), (q1, .inl (cI, 24, .inl (fun _ => 0))), (q2, .inl (cI, 24, .inl (fun _ => 0))), (q3, .inl (cI, 72, .inl (fun _ => 0))), (q4, .inl (cI, 96, .inl (fun _ => 0))), (q5, .inl (cI, 96, .inl (fun _ => 0))), (q6, .inl (cI, 24, .inl (fun _ => 0))), (q7, .inl (cI, 24, .inl (fun _ => 0))), (q8, .inl (cI, 24, .inl (fun _ => 0))), (q9, .inl (cI, 24, .inl (fun _ => 0))), (q10, .inl (cI, 6, .inl (fun _ => 0))), (q11, .inl (cI, 24, .inl (fun _ => 0)))]) Z hnm in_X t_X t_X_ok n_X 0 rfl rfl 11 (by decide) (List.mem_cons_of_mem _ lk_X_queue) rfl rfl (ty := .array .int) (by decide +kernel) rfl rfl (Nat.le_of_ble_eq_true rfl) d_init_89 rfl ?_
  refine z_ws (ws' := wx (hhX h0 q1 q2 q3 q4 q5 q6 q7 q8 q9 q10 q11) cI z0) rfl ?_
  refine z_iconst Z (nI 0) d_init_92 zi_0 ?_
  refine z_istore_n Z 1 d_init_93 rfl (by decide) rfl ?_
  refine z_lv (lv' := [(0, .ref h0), (1, .int (nI 0))]) rfl ?_
  refine z_ws (ws' := wx (hhX h0 q1 q2 q3 q4 q5 q6 q7 q8 q9 q10 q11) cI (va_up z0 10 (fllM (z0 10) 0))) (congrArg (wx (hhX h0 q1 q2 q3 q4 q5 q6 q7 q8 q9 q10 q11) cI) (va_up_same _ _).symm) ?_
  refine z_loop (fun i : Nat => i ≤ 6) (fun i : Nat => 6 - i) (fun i : Nat => wx (hhX h0 q1 q2 q3 q4 q5 q6 q7 q8 q9 q10 q11) cI (va_up z0 10 (fllM (z0 10) i))) (fun i : Nat => [(0, .ref h0), (1, .int (nI i))]) (fun i hi ih => ?_) 0 (by omega)
  refine z_iload_n Z 1 d_init_94 rfl rfl ?_
  refine z_bipush Z (nI 6) d_init_95 zb_6 ?_
  refine z_icmpN_ge Z 113 d_init_97 (by decide) (by omega) (by omega) (fun hg => ?_) (fun hg => ?_)
  rotate_left
  · refine z_aload_n Z 0 d_init_100 rfl rfl ?_
    refine xg_10 (h := (hhX h0 q1 q2 q3 q4 q5 q6 q7 q8 q9 q10 q11)) Z d_init_101 ?_
    refine z_iload_n Z 1 d_init_104 rfl rfl ?_
    refine z_iconst Z (-1) d_init_105 zi_m1 ?_
    refine xs_10 (h := (hhX h0 q1 q2 q3 q4 q5 q6 q7 q8 q9 q10 q11)) Z (by omega) d_init_106 ?_
    refine z_iincN Z 1 d_init_107 rfl (by decide) rfl ?_
    refine z_goto Z 94 d_init_110 (by decide) ?_
    exact z_ws rfl (z_lv rfl (ih (i + 1) (by omega) (by omega)))
  obtain rfl : i = 6 := by omega
  clear ih hi hg
  refine z_rv Z ((hhX h0 q1 q2 q3 q4 q5 q6 q7 q8 q9 q10 q11), (va_up z0 10 (fllM (z0 10) 6))) hr d_init_113 (by decide) (by decide) rfl ?_
  exact ⟨rfl, rfl⟩
def wMi : List Cond := wM ++ [.methodLink R_M 1 Lib.objectInit, .instanceMethod Lib.objectInit, .code Lib.objectInit ⟨#[0xb1]⟩ 1 none, .arrayClass .int, .arrayClass .boolean]
def w_m_init : List Cond := .code y_m_init b_m_init 2 none :: wMi
abbrev rm_m_init : Room := { frames := 1, cells := 12, slots := 462, locals := 12 }
def fsM0 : List Value := [.int 0, .int 0, .int 0, .null, .null, .null, .null, .null, .null, .null, .null, .null, .null, .null, .int 0, .null]
def hhM (q0 q1 q2 q3 q4 q5 q6 q7 q8 q9 q10 q11 q12 : Nat) : Nat → Nat := fun k => match k with | 0 => q0 | 1 => q1 | 2 => q2 | 3 => q3 | 6 => q6 | 4 => q4 | 5 => q5 | 7 => q7 | 8 => q8 | 9 => q9 | 10 => q10 | 11 => q11 | 12 => q12 | _ => 0
set_option maxHeartbeats 4000000 in
set_option maxRecDepth 100000 in
theorem c_m_init {l : Launch} {D : va_G} {cI cB cL : ClassId} {h0 : Nat} : zMet l y_m_init w_m_init rm_m_init D zCl (zTy cI cB cL) [(h0, .inr (1, fsM0))] [.ref h0] (qv (fun u : (Nat → Nat) × St => (wm u.1 cI cB u.2)) (fun u => u.1 0 = h0 ∧ u.2 = sM0) noXs) 12 462 12 462 := by
  refine z_meth (by decide) rfl (Nat.le_of_ble_eq_true rfl) (fun p e s mm as bl me cd Z0 hr hnm ht => ?_)
  have Z := z_subT (Ts' := .code y_m_init b_m_init 2 none :: wM) Z0 (fun w hw => (List.mem_cons.mp hw).elim (fun e => e ▸ List.mem_cons_self) (fun h => List.mem_cons_of_mem _ (List.mem_append_left _ h)))
  refine z_aload_n Z 0 d_m_init_0 rfl rfl ?_
  refine z_objInit Z0 (List.mem_cons_of_mem _ (List.mem_append_right _ (List.mem_of_getElem? (i := 0) rfl))) (List.mem_cons_of_mem _ (List.mem_append_right _ (List.mem_of_getElem? (i := 1) rfl))) (List.mem_cons_of_mem _ (List.mem_append_right _ (List.mem_of_getElem? (i := 2) rfl))) (by decide) (by decide) d_m_init_1 ?_
  refine z_aload_n Z 0 d_m_init_4 rfl rfl ?_
  refine z_bipush Z (nI 24) d_m_init_5 zb_24 ?_
  refine z_newaI Z0 0 (List.mem_cons_of_mem _ (List.mem_append_right _ (List.mem_of_getElem? (i := 3) rfl))) rfl (by decide) (by decide) (by decide) (by decide) d_m_init_7 (fun q1 => ?_)
  refine z_putF (ws' := [(h0, .inr (1, [.int 0, .int 0, .int 0, .ref q1, .null, .null, .null, .null, .null, .null, .null, .null, .null, .null, .int 0, .null])), (q1, .inl (cI, 24, .inl (fun _ => 0)))]) Z hnm in_M t_M t_M_ok n_M 0 rfl rfl 3 (by decide) (List.mem_cons_of_mem _ lk_M_kinds) rfl rfl (ty := .array .int) (by decide +kernel) rfl rfl (Nat.le_of_ble_eq_true rfl) d_m_init_9 rfl ?_
  refine z_aload_n Z 0 d_m_init_12 rfl rfl ?_
  refine z_bipush Z (nI 24) d_m_init_13 zb_24 ?_
  refine z_newaI Z0 0 (List.mem_cons_of_mem _ (List.mem_append_right _ (List.mem_of_getElem? (i := 3) rfl))) rfl (by decide) (by decide) (by decide) (by decide) d_m_init_15 (fun q2 => ?_)
  refine z_putF (ws' := [(h0, .inr (1, [.int 0, .int 0, .int 0, .ref q1, .ref q2, .null, .null, .null, .null, .null, .null, .null, .null, .null, .int 0, .null])), (q1, .inl (cI, 24, .inl (fun _ => 0))), (q2, .inl (cI, 24, .inl (fun _ => 0)))]) Z hnm in_M t_M t_M_ok n_M 0 rfl rfl 4 (by decide) (List.mem_cons_of_mem _ lk_M_serials) rfl rfl (ty := .array .int) (by decide +kernel) rfl rfl (Nat.le_of_ble_eq_true rfl) d_m_init_17 rfl ?_
  refine z_aload_n Z 0 d_m_init_20 rfl rfl ?_
  refine z_bipush Z (nI 72) d_m_init_21 zb_72 ?_
  refine z_newaI Z0 0 (List.mem_cons_of_mem _ (List.mem_append_right _ (List.mem_of_getElem? (i := 3) rfl))) rfl (by decide) (by decide) (by decide) (by decide) d_m_init_23 (fun q3 => ?_)
  refine z_putF (ws' := [(h0, .inr (1, [.int 0, .int 0, .int 0, .ref q1, .ref q2, .ref q3, .null, .null, .null, .null, .null, .null, .null, .null, .int 0, .null])), (q1, .inl (cI, 24, .inl (fun _ => 0))), (q2, .inl (cI, 24, .inl (fun _ => 0))), (q3, .inl (cI, 72, .inl (fun _ => 0)))]) Z hnm in_M t_M t_M_ok n_M 0 rfl rfl 5 (by decide) (List.mem_cons_of_mem _ lk_M_fields) rfl rfl (ty := .array .int) (by decide +kernel) rfl rfl (Nat.le_of_ble_eq_true rfl) d_m_init_25 rfl ?_
  refine z_aload_n Z 0 d_m_init_28 rfl rfl ?_
  refine z_bipush Z (nI 24) d_m_init_29 zb_24 ?_
  refine z_newaI Z0 0 (List.mem_cons_of_mem _ (List.mem_append_right _ (List.mem_of_getElem? (i := 3) rfl))) rfl (by decide) (by decide) (by decide) (by decide) d_m_init_31 (fun q6 => ?_)
  refine z_putF (ws' := [(h0, .inr (1, [.int 0, .int 0, .int 0, .ref q1, .ref q2, .ref q3, .ref q6, .null, .null, .null, .null, .null, .null, .null, .int 0, .null])), (q1, .inl (cI, 24, .inl (fun _ => 0))), (q2, .inl (cI, 24, .inl (fun _ => 0))), (q3, .inl (cI, 72, .inl (fun _ => 0))), (q6, .inl (cI, 24, .inl (fun _ => 0)))]) Z hnm in_M t_M t_M_ok n_M 0 rfl rfl 6 (by decide) (List.mem_cons_of_mem _ lk_M_entries) rfl rfl (ty := .array .int) (by decide +kernel) rfl rfl (Nat.le_of_ble_eq_true rfl) d_m_init_33 rfl ?_
  refine z_aload_n Z 0 d_m_init_36 rfl rfl ?_
  refine z_bipush Z (nI 96) d_m_init_37 zb_96 ?_
  refine z_newaI Z0 0 (List.mem_cons_of_mem _ (List.mem_append_right _ (List.mem_of_getElem? (i := 3) rfl))) rfl (by decide) (by decide) (by decide) (by decide) d_m_init_39 (fun q4 => ?_)
  refine z_putF (ws' := [(h0, .inr (1, [.int 0, .int 0, .int 0, .ref q1, .ref q2, .ref q3, .ref q6, .ref q4, .null, .null, .null, .null, .null, .null, .int 0, .null])), (q1, .inl (cI, 24, .inl (fun _ => 0))), (q2, .inl (cI, 24, .inl (fun _ => 0))), (q3, .inl (cI, 72, .inl (fun _ => 0))), (q6, .inl (cI, 24, .inl (fun _ => 0))), (q4, .inl (cI, 96, .inl (fun _ => 0)))]) Z hnm in_M t_M t_M_ok n_M 0 rfl rfl 7 (by decide) (List.mem_cons_of_mem _ lk_M_keys) rfl rfl (ty := .array .int) (by decide +kernel) rfl rfl (Nat.le_of_ble_eq_true rfl) d_m_init_41 rfl ?_
  refine z_aload_n Z 0 d_m_init_44 rfl rfl ?_
  refine z_bipush Z (nI 96) d_m_init_45 zb_96 ?_
  refine z_newaI Z0 0 (List.mem_cons_of_mem _ (List.mem_append_right _ (List.mem_of_getElem? (i := 3) rfl))) rfl (by decide) (by decide) (by decide) (by decide) d_m_init_47 (fun q5 => ?_)
  refine z_putF (ws' := [(h0, .inr (1, [.int 0, .int 0, .int 0, .ref q1, .ref q2, .ref q3, .ref q6, .ref q4, .ref q5, .null, .null, .null, .null, .null, .int 0, .null])), (q1, .inl (cI, 24, .inl (fun _ => 0))), (q2, .inl (cI, 24, .inl (fun _ => 0))), (q3, .inl (cI, 72, .inl (fun _ => 0))), (q6, .inl (cI, 24, .inl (fun _ => 0))), (q4, .inl (cI, 96, .inl (fun _ => 0))), (q5, .inl (cI, 96, .inl (fun _ => 0)))]) Z hnm in_M t_M t_M_ok n_M 0 rfl rfl 8 (by decide) (List.mem_cons_of_mem _ lk_M_values) rfl rfl (ty := .array .int) (by decide +kernel) rfl rfl (Nat.le_of_ble_eq_true rfl) d_m_init_49 rfl ?_
  refine z_aload_n Z 0 d_m_init_52 rfl rfl ?_
  refine z_bipush Z (nI 24) d_m_init_53 zb_24 ?_
  refine z_newaI Z0 0 (List.mem_cons_of_mem _ (List.mem_append_right _ (List.mem_of_getElem? (i := 3) rfl))) rfl (by decide) (by decide) (by decide) (by decide) d_m_init_55 (fun q7 => ?_)
  refine z_putF (ws' := [(h0, .inr (1, [.int 0, .int 0, .int 0, .ref q1, .ref q2, .ref q3, .ref q6, .ref q4, .ref q5, .ref q7, .null, .null, .null, .null, .int 0, .null])), (q1, .inl (cI, 24, .inl (fun _ => 0))), (q2, .inl (cI, 24, .inl (fun _ => 0))), (q3, .inl (cI, 72, .inl (fun _ => 0))), (q6, .inl (cI, 24, .inl (fun _ => 0))), (q4, .inl (cI, 96, .inl (fun _ => 0))), (q5, .inl (cI, 96, .inl (fun _ => 0))), (q7, .inl (cI, 24, .inl (fun _ => 0)))]) Z hnm in_M t_M t_M_ok n_M 0 rfl rfl 9 (by decide) (List.mem_cons_of_mem _ lk_M_states) rfl rfl (ty := .array .int) (by decide +kernel) rfl rfl (Nat.le_of_ble_eq_true rfl) d_m_init_57 rfl ?_
  refine z_aload_n Z 0 d_m_init_60 rfl rfl ?_
  refine z_bipush Z (nI 24) d_m_init_61 zb_24 ?_
  refine z_newaI Z0 0 (List.mem_cons_of_mem _ (List.mem_append_right _ (List.mem_of_getElem? (i := 3) rfl))) rfl (by decide) (by decide) (by decide) (by decide) d_m_init_63 (fun q8 => ?_)
  refine z_putF (ws' := [(h0, .inr (1, [.int 0, .int 0, .int 0, .ref q1, .ref q2, .ref q3, .ref q6, .ref q4, .ref q5, .ref q7, .ref q8, .null, .null, .null, .int 0, .null])), (q1, .inl (cI, 24, .inl (fun _ => 0))), (q2, .inl (cI, 24, .inl (fun _ => 0))), (q3, .inl (cI, 72, .inl (fun _ => 0))), (q6, .inl (cI, 24, .inl (fun _ => 0))), (q4, .inl (cI, 96, .inl (fun _ => 0))), (q5, .inl (cI, 96, .inl (fun _ => 0))), (q7, .inl (cI, 24, .inl (fun _ => 0))), (q8, .inl (cI, 24, .inl (fun _ => 0)))]) Z hnm in_M t_M t_M_ok n_M 0 rfl rfl 10 (by decide) (List.mem_cons_of_mem _ lk_M_actions) rfl rfl (ty := .array .int) (by decide +kernel) rfl rfl (Nat.le_of_ble_eq_true rfl) d_m_init_65 rfl ?_
  refine z_aload_n Z 0 d_m_init_68 rfl rfl ?_
  refine z_bipush Z (nI 24) d_m_init_69 zb_24 ?_
  refine z_newaI Z0 0 (List.mem_cons_of_mem _ (List.mem_append_right _ (List.mem_of_getElem? (i := 3) rfl))) rfl (by decide) (by decide) (by decide) (by decide) d_m_init_71 (fun q9 => ?_)
  refine z_putF (ws' := [(h0, .inr (1, [.int 0, .int 0, .int 0, .ref q1, .ref q2, .ref q3, .ref q6, .ref q4, .ref q5, .ref q7, .ref q8, .ref q9, .null, .null, .int 0, .null])), (q1, .inl (cI, 24, .inl (fun _ => 0))), (q2, .inl (cI, 24, .inl (fun _ => 0))), (q3, .inl (cI, 72, .inl (fun _ => 0))), (q6, .inl (cI, 24, .inl (fun _ => 0))), (q4, .inl (cI, 96, .inl (fun _ => 0))), (q5, .inl (cI, 96, .inl (fun _ => 0))), (q7, .inl (cI, 24, .inl (fun _ => 0))), (q8, .inl (cI, 24, .inl (fun _ => 0))), (q9, .inl (cI, 24, .inl (fun _ => 0)))]) Z hnm in_M t_M t_M_ok n_M 0 rfl rfl 11 (by decide) (List.mem_cons_of_mem _ lk_M_places) rfl rfl (ty := .array .int) (by decide +kernel) rfl rfl (Nat.le_of_ble_eq_true rfl) d_m_init_73 rfl ?_
  refine z_aload_n Z 0 d_m_init_76 rfl rfl ?_
  refine z_bipush Z (nI 6) d_m_init_77 zb_6 ?_
  refine z_newaI Z0 0 (List.mem_cons_of_mem _ (List.mem_append_right _ (List.mem_of_getElem? (i := 3) rfl))) rfl (by decide) (by decide) (by decide) (by decide) d_m_init_79 (fun q10 => ?_)
  refine z_putF (ws' := [(h0, .inr (1, [.int 0, .int 0, .int 0, .ref q1, .ref q2, .ref q3, .ref q6, .ref q4, .ref q5, .ref q7, .ref q8, .ref q9, .ref q10, .null, .int 0, .null])), (q1, .inl (cI, 24, .inl (fun _ => 0))), (q2, .inl (cI, 24, .inl (fun _ => 0))), (q3, .inl (cI, 72, .inl (fun _ => 0))), (q6, .inl (cI, 24, .inl (fun _ => 0))), (q4, .inl (cI, 96, .inl (fun _ => 0))), (q5, .inl (cI, 96, .inl (fun _ => 0))), (q7, .inl (cI, 24, .inl (fun _ => 0))), (q8, .inl (cI, 24, .inl (fun _ => 0))), (q9, .inl (cI, 24, .inl (fun _ => 0))), (q10, .inl (cI, 6, .inl (fun _ => 0)))]) Z hnm in_M t_M t_M_ok n_M 0 rfl rfl 12 (by decide) (List.mem_cons_of_mem _ lk_M_roots) rfl rfl (ty := .array .int) (by decide +kernel) rfl rfl (Nat.le_of_ble_eq_true rfl) d_m_init_81 rfl ?_
  refine z_aload_n Z 0 d_m_init_84 rfl rfl ?_
  refine z_bipush Z (nI 24) d_m_init_85 zb_24 ?_
  refine z_newaI Z0 0 (List.mem_cons_of_mem _ (List.mem_append_right _ (List.mem_of_getElem? (i := 3) rfl))) rfl (by decide) (by decide) (by decide) (by decide) d_m_init_87 (fun q11 => ?_)
  refine z_putF (ws' := [(h0, .inr (1, [.int 0, .int 0, .int 0, .ref q1, .ref q2, .ref q3, .ref q6, .ref q4, .ref q5, .ref q7, .ref q8, .ref q9, .ref q10, .ref q11, .int 0, .null])), (q1, .inl (cI, 24, .inl (fun _ => 0))), (q2, .inl (cI, 24, .inl (fun _ => 0))), (q3, .inl (cI, 72, .inl (fun _ => 0))), (q6, .inl (cI, 24, .inl (fun _ => 0))), (q4, .inl (cI, 96, .inl (fun _ => 0))), (q5, .inl (cI, 96, .inl (fun _ => 0))), (q7, .inl (cI, 24, .inl (fun _ => 0))), (q8, .inl (cI, 24, .inl (fun _ => 0))), (q9, .inl (cI, 24, .inl (fun _ => 0))), (q10, .inl (cI, 6, .inl (fun _ => 0))), (q11, .inl (cI, 24, .inl (fun _ => 0)))]) Z hnm in_M t_M t_M_ok n_M 0 rfl rfl 13 (by decide) (List.mem_cons_of_mem _ lk_M_queue) rfl rfl (ty := .array .int) (by decide +kernel) rfl rfl (Nat.le_of_ble_eq_true rfl) d_m_init_89 rfl ?_
  refine z_aload_n Z 0 d_m_init_92 rfl rfl ?_
  refine z_bipush Z (nI 24) d_m_init_93 zb_24 ?_
  refine z_newaZ Z0 1 (List.mem_cons_of_mem _ (List.mem_append_right _ (List.mem_of_getElem? (i := 4) rfl))) rfl (by decide) (by decide) (by decide) (by decide) d_m_init_95 (fun q12 => ?_)
  refine z_putF (ws' := [(h0, .inr (1, [.int 0, .int 0, .int 0, .ref q1, .ref q2, .ref q3, .ref q6, .ref q4, .ref q5, .ref q7, .ref q8, .ref q9, .ref q10, .ref q11, .int 0, .ref q12])), (q1, .inl (cI, 24, .inl (fun _ => 0))), (q2, .inl (cI, 24, .inl (fun _ => 0))), (q3, .inl (cI, 72, .inl (fun _ => 0))), (q6, .inl (cI, 24, .inl (fun _ => 0))), (q4, .inl (cI, 96, .inl (fun _ => 0))), (q5, .inl (cI, 96, .inl (fun _ => 0))), (q7, .inl (cI, 24, .inl (fun _ => 0))), (q8, .inl (cI, 24, .inl (fun _ => 0))), (q9, .inl (cI, 24, .inl (fun _ => 0))), (q10, .inl (cI, 6, .inl (fun _ => 0))), (q11, .inl (cI, 24, .inl (fun _ => 0))), (q12, .inl (cB, 24, .inl (fun _ => 0)))]) Z hnm in_M t_M t_M_ok n_M 0 rfl rfl 15 (by decide) (List.mem_cons_of_mem _ lk_M_in) rfl rfl (ty := .array .boolean) (by decide +kernel) rfl rfl (Nat.le_of_ble_eq_true rfl) d_m_init_97 rfl ?_
  refine z_perm (ws' := [(h0, .inr (1, [.int 0, .int 0, .int 0, .ref q1, .ref q2, .ref q3, .ref q6, .ref q4, .ref q5, .ref q7, .ref q8, .ref q9, .ref q10, .ref q11, .int 0, .ref q12])), (q1, .inl (cI, 24, .inl (fun _ => 0))), (q2, .inl (cI, 24, .inl (fun _ => 0))), (q3, .inl (cI, 72, .inl (fun _ => 0))), (q4, .inl (cI, 96, .inl (fun _ => 0))), (q5, .inl (cI, 96, .inl (fun _ => 0))), (q6, .inl (cI, 24, .inl (fun _ => 0))), (q7, .inl (cI, 24, .inl (fun _ => 0))), (q8, .inl (cI, 24, .inl (fun _ => 0))), (q9, .inl (cI, 24, .inl (fun _ => 0))), (q10, .inl (cI, 6, .inl (fun _ => 0))), (q11, .inl (cI, 24, .inl (fun _ => 0))), (q12, .inl (cB, 24, .inl (fun _ => 0)))]) [0, 1, 2, 3, 5, 6, 4, 7, 8, 9, 10, 11, 12] (by decide) rfl rfl ?_
  refine z_ws (ws' := wm (hhM h0 q1 q2 q3 q4 q5 q6 q7 q8 q9 q10 q11 q12) cI cB z0) rfl ?_
  refine z_iconst Z (nI 0) d_m_init_100 zi_0 ?_
  refine z_istore_n Z 1 d_m_init_101 rfl (by decide) rfl ?_
  refine z_lv (lv' := [(0, .ref h0), (1, .int (nI 0))]) rfl ?_
  refine z_ws (ws' := wm (hhM h0 q1 q2 q3 q4 q5 q6 q7 q8 q9 q10 q11 q12) cI cB (va_up z0 1 (fllM (z0 1) 0))) (congrArg (wm (hhM h0 q1 q2 q3 q4 q5 q6 q7 q8 q9 q10 q11 q12) cI cB) (va_up_same _ _).symm) ?_
  refine z_loop (fun i : Nat => i ≤ 24) (fun i : Nat => 24 - i) (fun i : Nat => wm (hhM h0 q1 q2 q3 q4 q5 q6 q7 q8 q9 q10 q11 q12) cI cB (va_up z0 1 (fllM (z0 1) i))) (fun i : Nat => [(0, .ref h0), (1, .int (nI i))]) (fun i hi ih => ?_) 0 (by omega)
  refine z_iload_n Z 1 d_m_init_102 rfl rfl ?_
  refine z_bipush Z (nI 24) d_m_init_103 zb_24 ?_
  refine z_icmpN_ge Z 121 d_m_init_105 (by decide) (by omega) (by omega) (fun hg => ?_) (fun hg => ?_)
  rotate_left
  · refine z_aload_n Z 0 d_m_init_108 rfl rfl ?_
    refine mg_1 (h := (hhM h0 q1 q2 q3 q4 q5 q6 q7 q8 q9 q10 q11 q12)) Z d_m_init_109 ?_
    refine z_iload_n Z 1 d_m_init_112 rfl rfl ?_
    refine z_iconst Z (-1) d_m_init_113 zi_m1 ?_
    refine ms_1 (h := (hhM h0 q1 q2 q3 q4 q5 q6 q7 q8 q9 q10 q11 q12)) Z (by omega) d_m_init_114 ?_
    refine z_iincN Z 1 d_m_init_115 rfl (by decide) rfl ?_
    refine z_goto Z 102 d_m_init_118 (by decide) ?_
    exact z_ws rfl (z_lv rfl (ih (i + 1) (by omega) (by omega)))
  obtain rfl : i = 24 := by omega
  clear ih hi hg
  refine z_iconst Z (nI 0) d_m_init_121 zi_0 ?_
  refine z_istore_n Z 1 d_m_init_122 rfl (by decide) rfl ?_
  refine z_lv (lv' := [(0, .ref h0), (1, .int (nI 0))]) rfl ?_
  refine z_ws (ws' := wm (hhM h0 q1 q2 q3 q4 q5 q6 q7 q8 q9 q10 q11 q12) cI cB (va_up (va_up z0 1 (fllM (z0 1) 24)) 10 (fllM ((va_up z0 1 (fllM (z0 1) 24)) 10) 0))) (congrArg (wm (hhM h0 q1 q2 q3 q4 q5 q6 q7 q8 q9 q10 q11 q12) cI cB) (va_up_same _ _).symm) ?_
  refine z_loop (fun i : Nat => i ≤ 6) (fun i : Nat => 6 - i) (fun i : Nat => wm (hhM h0 q1 q2 q3 q4 q5 q6 q7 q8 q9 q10 q11 q12) cI cB (va_up (va_up z0 1 (fllM (z0 1) 24)) 10 (fllM ((va_up z0 1 (fllM (z0 1) 24)) 10) i))) (fun i : Nat => [(0, .ref h0), (1, .int (nI i))]) (fun i hi ih => ?_) 0 (by omega)
  refine z_iload_n Z 1 d_m_init_123 rfl rfl ?_
  refine z_bipush Z (nI 6) d_m_init_124 zb_6 ?_
  refine z_icmpN_ge Z 142 d_m_init_126 (by decide) (by omega) (by omega) (fun hg => ?_) (fun hg => ?_)
  rotate_left
  · refine z_aload_n Z 0 d_m_init_129 rfl rfl ?_
    refine mg_10 (h := (hhM h0 q1 q2 q3 q4 q5 q6 q7 q8 q9 q10 q11 q12)) Z d_m_init_130 ?_
    refine z_iload_n Z 1 d_m_init_133 rfl rfl ?_
    refine z_iconst Z (-1) d_m_init_134 zi_m1 ?_
    refine ms_10 (h := (hhM h0 q1 q2 q3 q4 q5 q6 q7 q8 q9 q10 q11 q12)) Z (by omega) d_m_init_135 ?_
    refine z_iincN Z 1 d_m_init_136 rfl (by decide) rfl ?_
    refine z_goto Z 123 d_m_init_139 (by decide) ?_
    exact z_ws rfl (z_lv rfl (ih (i + 1) (by omega) (by omega)))
  obtain rfl : i = 6 := by omega
  clear ih hi hg
  refine z_rv Z ((hhM h0 q1 q2 q3 q4 q5 q6 q7 q8 q9 q10 q11 q12), (va_up (va_up z0 1 (fllM (z0 1) 24)) 10 (fllM ((va_up z0 1 (fllM (z0 1) 24)) 10) 6))) hr d_m_init_142 (by decide) (by decide) rfl ?_
  exact ⟨rfl, rfl⟩
