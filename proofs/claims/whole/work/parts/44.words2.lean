/-! the words of the two classes and of the helpers lie in the tables -/
theorem in_all {A B : List Cond} (h : (A.all fun w => decide (w ∈ B)) = true) : ∀ w ∈ A, w ∈ B := fun w hw => of_decide_eq_true (List.all_eq_true.mp h w hw)
theorem in_pl {A T : List Cond} (is : List Nat) (h : A.map some = is.map (fun i => T[i]?)) : ∀ w ∈ A, w ∈ T := fun w hw => by
  have h1 : some w ∈ A.map some := List.mem_map.mpr ⟨w, hw, rfl⟩
  rw [h] at h1
  obtain ⟨i, -, e⟩ := List.mem_map.mp h1
  exact List.mem_of_getElem? e
set_option maxRecDepth 100000 in
set_option maxHeartbeats 4000000 in
theorem tX0 : ∀ w ∈ wX0, w ∈ lw_tbl := in_pl [39, 58, 59, 60, 61, 62, 63, 64, 65, 66, 67, 68, 71, 57, 69, 70, 261, 263, 13, 264, 265, 105, 106, 107, 282, 284, 14, 285, 298, 300, 16, 301, 322, 324, 18, 325, 326, 328, 19, 329, 131, 132, 133, 348, 350, 20, 351, 353, 355, 21, 356, 138, 139, 140, 358, 360, 22, 361, 376, 378, 23, 379, 411, 413, 24, 414, 108, 110, 0, 111, 112, 114, 1, 115, 141, 143, 6, 144, 157, 159, 10, 160, 161, 163, 11, 164, 165, 166, 45, 167, 168, 169, 170, 440, 442, 25, 443, 444, 446, 26, 447, 120, 121, 122, 302, 304, 17, 305, 330, 331, 332, 286, 288, 15, 289, 153, 155, 9, 156, 116, 118, 2, 119, 123, 125, 3, 126, 127, 129, 4, 130, 134, 136, 5, 137, 145, 147, 7, 148, 149, 151, 8, 152] rfl
set_option maxRecDepth 100000 in
set_option maxHeartbeats 4000000 in
theorem tXu : ∀ w ∈ u_ws R_X F_X 15, w ∈ lw_tbl := in_pl [72, 74, 76, 78, 80, 82, 84, 86, 88, 90, 92, 94, 96, 98, 100] rfl
set_option maxRecDepth 100000 in
set_option maxHeartbeats 4000000 in
theorem tM0 : ∀ w ∈ wM0, w ∈ lw_tbl := in_pl [40, 471, 472, 473, 474, 475, 476, 477, 478, 479, 480, 481, 483, 468, 469, 470, 482, 526, 528, 27, 529, 530, 532, 28, 533, 550, 552, 33, 553, 558, 560, 34, 561, 562, 564, 35, 565, 574, 576, 36, 577, 582, 584, 37, 585, 546, 548, 32, 549, 598, 599, 600, 534, 536, 29, 537, 538, 540, 30, 541, 542, 544, 31, 545] rfl
set_option maxRecDepth 100000 in
set_option maxHeartbeats 4000000 in
theorem tMu : ∀ w ∈ u_ws R_M F_M 16, w ∈ lw_tbl := in_pl [484, 486, 488, 490, 492, 494, 496, 498, 500, 502, 504, 506, 508, 510, 512, 514] rfl
set_option maxRecDepth 100000 in
set_option maxHeartbeats 4000000 in
theorem tL0 : ∀ w ∈ wL0, w ∈ lw_tbl := in_pl [38, 293, 186, 383, 187, 451, 452, 453, 454, 458, 459, 460, 461, 419, 420, 421, 422, 337, 338, 339, 340, 365, 366, 367, 368, 384, 385, 386, 387, 294, 295, 296, 297, 407, 408, 409, 410, 426, 427, 428, 429, 372, 373, 374, 375, 344, 345, 346, 347, 188, 189, 190, 191, 435, 436, 437, 438] rfl
set_option maxRecDepth 100000 in
theorem tT_IllegalArgumentException : ∀ w ∈ wT_IllegalArgumentException, goodWord w = true → w ∈ lw_tbl := by
  have h : (wT_IllegalArgumentException.all fun w => !goodWord w || decide (w ∈ lw_tbl)) = true := by decide +kernel
  intro w hw hg
  have h1 := List.all_eq_true.mp h w hw
  rw [hg] at h1
  exact of_decide_eq_true (by simpa using h1)
set_option maxRecDepth 100000 in
theorem tT_IllegalStateException : ∀ w ∈ wT_IllegalStateException, goodWord w = true → w ∈ lw_tbl := by
  have h : (wT_IllegalStateException.all fun w => !goodWord w || decide (w ∈ lw_tbl)) = true := by decide +kernel
  intro w hw hg
  have h1 := List.all_eq_true.mp h w hw
  rw [hg] at h1
  exact of_decide_eq_true (by simpa using h1)
set_option maxRecDepth 100000 in
theorem tT_IndexOutOfBoundsException : ∀ w ∈ wT_IndexOutOfBoundsException, goodWord w = true → w ∈ lw_tbl := by
  have h : (wT_IndexOutOfBoundsException.all fun w => !goodWord w || decide (w ∈ lw_tbl)) = true := by decide +kernel
  intro w hw hg
  have h1 := List.all_eq_true.mp h w hw
  rw [hg] at h1
  exact of_decide_eq_true (by simpa using h1)
set_option maxRecDepth 100000 in
theorem tT_NoSuchElementException : ∀ w ∈ wT_NoSuchElementException, goodWord w = true → w ∈ lw_tbl := by
  have h : (wT_NoSuchElementException.all fun w => !goodWord w || decide (w ∈ lw_tbl)) = true := by decide +kernel
  intro w hw hg
  have h1 := List.all_eq_true.mp h w hw
  rw [hg] at h1
  exact of_decide_eq_true (by simpa using h1)
theorem tX : ∀ w ∈ wX, w ∈ lw_tbl := by
  intro w hw
  rcases List.mem_append.mp hw with h | h
  · exact tX0 w h
  · rcases List.mem_append.mp h with h | h
    · exact tXu w h
    · obtain ⟨h1, hg⟩ := List.mem_filter.mp h
      rcases List.mem_append.mp h1 with h1 | h1
      rotate_left
      · exact tT_NoSuchElementException w h1 hg
      rcases List.mem_append.mp h1 with h1 | h1
      rotate_left
      · exact tT_IndexOutOfBoundsException w h1 hg
      rcases List.mem_append.mp h1 with h1 | h1
      rotate_left
      · exact tT_IllegalStateException w h1 hg
      exact tT_IllegalArgumentException w h1 hg
theorem tWM : ∀ w ∈ wM, w ∈ lw_tbl := fun w hw => (List.mem_append.mp hw).elim (tM0 w) (tMu w)
def wI : List Cond := [.methodLink R_X 1 Lib.objectInit, .methodLink R_M 1 Lib.objectInit, .instanceMethod Lib.objectInit, .code Lib.objectInit ⟨#[0xb1]⟩ 1 none, .arrayClass .int, .arrayClass .boolean]
theorem tI : ∀ w ∈ wI, w ∈ lw_tbl := in_all (by decide +kernel)
theorem gI : ∀ w ∈ wI, goodWord w = true := List.all_eq_true.mp (by decide +kernel)
theorem tL : ∀ w ∈ wL, w ∈ lw_tbl := fun w hw => (List.mem_append.mp hw).elim (tL0 w) (tX w)
theorem goodT {A : List Cond} (h : ∀ w ∈ A, w ∈ lw_tbl ∧ goodWord w = true) : GoodIn lw_tbl A := fun w hw => ⟨(h w hw).1, good_of_word (h w hw).2⟩
theorem inS {w : Cond} (i : Nat) (h : (k2_sels lw_privs)[i]? = some w) : w ∈ lw_tbl := List.mem_append_left _ (List.mem_of_getElem? h)
theorem in1 {w : Cond} (i : Nat) (h : tables_1_1[i]? = some w) : w ∈ lw_tbl := List.mem_append_right _ (List.mem_append_left _ (List.mem_of_getElem? h))
theorem in2 {w : Cond} (i : Nat) (h : tables_1_2[i]? = some w) : w ∈ lw_tbl := List.mem_append_right _ (List.mem_append_right _ (List.mem_append_left _ (List.mem_of_getElem? h)))
theorem in3 {w : Cond} (i : Nat) (h : tables_1_3[i]? = some w) : w ∈ lw_tbl := List.mem_append_right _ (List.mem_append_right _ (List.mem_append_right _ (List.mem_of_getElem? h)))
set_option maxRecDepth 100000 in
theorem consT {w : Cond} {A : List Cond} (h1 : w ∈ lw_tbl ∧ goodWord w = true) (h2 : ∀ v ∈ A, v ∈ lw_tbl ∧ goodWord v = true) : ∀ v ∈ w :: A, v ∈ lw_tbl ∧ goodWord v = true := List.forall_mem_cons.mpr ⟨h1, h2⟩
theorem nilT : ∀ v ∈ ([] : List Cond), v ∈ lw_tbl ∧ goodWord v = true := fun v h => absurd h List.not_mem_nil
theorem allX : ∀ v ∈ wX, v ∈ lw_tbl ∧ goodWord v = true := fun v h => ⟨tX v h, good_X v h⟩
theorem allM : ∀ v ∈ wM, v ∈ lw_tbl ∧ goodWord v = true := fun v h => ⟨tWM v h, good_M v h⟩
theorem allL : ∀ v ∈ wL, v ∈ lw_tbl ∧ goodWord v = true := fun v h => ⟨tL v h, good_L v h⟩
theorem oneI {w : Cond} (i : Nat) (h : wI[i]? = some w) : w ∈ lw_tbl ∧ goodWord w = true := ⟨tI w (List.mem_of_getElem? h), gI w (List.mem_of_getElem? h)⟩
set_option maxRecDepth 100000 in
theorem oq_0 : (Cond.initialized R_L) ∈ lw_tbl ∧ goodWord (.initialized R_L) = true := ⟨in1 0 rfl, by decide +kernel⟩
set_option maxRecDepth 100000 in
theorem oq_1 : (Cond.initialized R_X) ∈ lw_tbl ∧ goodWord (.initialized R_X) = true := ⟨in1 1 rfl, by decide +kernel⟩
set_option maxRecDepth 100000 in
theorem oq_2 : (Cond.initialized R_M) ∈ lw_tbl ∧ goodWord (.initialized R_M) = true := ⟨in1 2 rfl, by decide +kernel⟩
set_option maxRecDepth 100000 in
theorem oq_3 : (Cond.classLink R_L 8 R_X) ∈ lw_tbl ∧ goodWord (.classLink R_L 8 R_X) = true := ⟨in1 11 rfl, by decide +kernel⟩
set_option maxRecDepth 100000 in
theorem oq_4 : (Cond.classLink R_L 64 R_M) ∈ lw_tbl ∧ goodWord (.classLink R_L 64 R_M) = true := ⟨in2 184 rfl, by decide +kernel⟩
set_option maxRecDepth 100000 in
theorem oq_5 : (Cond.instantiable R_X 15) ∈ lw_tbl ∧ goodWord (.instantiable R_X 15) = true := ⟨in1 12 rfl, by decide +kernel⟩
set_option maxRecDepth 100000 in
theorem oq_6 : (Cond.instantiable R_M 16) ∈ lw_tbl ∧ goodWord (.instantiable R_M 16) = true := ⟨in2 185 rfl, by decide +kernel⟩
set_option maxRecDepth 100000 in
theorem oq_7 : (Cond.arrayClass .int) ∈ lw_tbl ∧ goodWord (.arrayClass .int) = true := ⟨in1 65 rfl, by decide +kernel⟩
set_option maxRecDepth 100000 in
theorem oq_8 : (Cond.arrayClass .boolean) ∈ lw_tbl ∧ goodWord (.arrayClass .boolean) = true := ⟨in2 239 rfl, by decide +kernel⟩
set_option maxRecDepth 100000 in
theorem oq_9 : (Cond.arrayClass .long) ∈ lw_tbl ∧ goodWord (.arrayClass .long) = true := ⟨in3 119 rfl, by decide +kernel⟩
set_option maxRecDepth 100000 in
theorem oq_10 : (Cond.methodLink R_L 63 y_init) ∈ lw_tbl ∧ goodWord (.methodLink R_L 63 y_init) = true := ⟨in1 13 rfl, by decide +kernel⟩
set_option maxRecDepth 100000 in
theorem oq_11 : (Cond.instanceMethod y_init) ∈ lw_tbl ∧ goodWord (.instanceMethod y_init) = true := ⟨in1 14 rfl, by decide +kernel⟩
set_option maxRecDepth 100000 in
theorem oq_12 : (Cond.code y_init b_init 2 none) ∈ lw_tbl ∧ goodWord (.code y_init b_init 2 none) = true := ⟨in1 15 rfl, by decide +kernel⟩
set_option maxRecDepth 100000 in
theorem oq_13 : (Cond.methodLink R_L 66 y_m_init) ∈ lw_tbl ∧ goodWord (.methodLink R_L 66 y_m_init) = true := ⟨in2 186 rfl, by decide +kernel⟩
set_option maxRecDepth 100000 in
theorem oq_14 : (Cond.instanceMethod y_m_init) ∈ lw_tbl ∧ goodWord (.instanceMethod y_m_init) = true := ⟨in2 187 rfl, by decide +kernel⟩
set_option maxRecDepth 100000 in
theorem oq_15 : (Cond.code y_m_init b_m_init 2 none) ∈ lw_tbl ∧ goodWord (.code y_m_init b_m_init 2 none) = true := ⟨in2 188 rfl, by decide +kernel⟩
set_option maxRecDepth 100000 in
theorem oq_16 : (Cond.methodLink R_L 123 y_l_kind) ∈ lw_tbl ∧ goodWord (.methodLink R_L 123 y_l_kind) = true := ⟨in2 170 rfl, by decide +kernel⟩
set_option maxRecDepth 100000 in
theorem oq_17 : (Cond.static y_l_kind) ∈ lw_tbl ∧ goodWord (.static y_l_kind) = true := ⟨in2 171 rfl, by decide +kernel⟩
set_option maxRecDepth 100000 in
theorem oq_18 : (Cond.codeWith y_l_kind b_l_kind 4 (some .int) [(0, 9, 12, 21)]) ∈ lw_tbl ∧ goodWord (.codeWith y_l_kind b_l_kind 4 (some .int) [(0, 9, 12, 21)]) = true := ⟨in2 172 rfl, by decide +kernel⟩
set_option maxRecDepth 100000 in
theorem oq_19 : (Cond.methodLink R_L 126 y_l_serial) ∈ lw_tbl ∧ goodWord (.methodLink R_L 126 y_l_serial) = true := ⟨in2 177 rfl, by decide +kernel⟩
set_option maxRecDepth 100000 in
theorem oq_20 : (Cond.static y_l_serial) ∈ lw_tbl ∧ goodWord (.static y_l_serial) = true := ⟨in2 178 rfl, by decide +kernel⟩
set_option maxRecDepth 100000 in
theorem oq_21 : (Cond.codeWith y_l_serial b_l_serial 4 (some .int) [(0, 9, 12, 21)]) ∈ lw_tbl ∧ goodWord (.codeWith y_l_serial b_l_serial 4 (some .int) [(0, 9, 12, 21)]) = true := ⟨in2 179 rfl, by decide +kernel⟩
set_option maxRecDepth 100000 in
theorem oq_22 : (Cond.methodLink R_L 101 y_l_rootAt) ∈ lw_tbl ∧ goodWord (.methodLink R_L 101 y_l_rootAt) = true := ⟨in2 138 rfl, by decide +kernel⟩
set_option maxRecDepth 100000 in
theorem oq_23 : (Cond.static y_l_rootAt) ∈ lw_tbl ∧ goodWord (.static y_l_rootAt) = true := ⟨in2 139 rfl, by decide +kernel⟩
set_option maxRecDepth 100000 in
theorem oq_24 : (Cond.codeWith y_l_rootAt b_l_rootAt 4 (some .int) [(0, 9, 12, 41)]) ∈ lw_tbl ∧ goodWord (.codeWith y_l_rootAt b_l_rootAt 4 (some .int) [(0, 9, 12, 41)]) = true := ⟨in2 140 rfl, by decide +kernel⟩
set_option maxRecDepth 100000 in
theorem oq_25 : (Cond.methodLink R_L 80 y_l_get) ∈ lw_tbl ∧ goodWord (.methodLink R_L 80 y_l_get) = true := ⟨in2 56 rfl, by decide +kernel⟩
set_option maxRecDepth 100000 in
theorem oq_26 : (Cond.static y_l_get) ∈ lw_tbl ∧ goodWord (.static y_l_get) = true := ⟨in2 57 rfl, by decide +kernel⟩
set_option maxRecDepth 100000 in
theorem oq_27 : (Cond.codeWith y_l_get b_l_get 5 (some .int) [(0, 10, 13, 21), (0, 10, 17, 13)]) ∈ lw_tbl ∧ goodWord (.codeWith y_l_get b_l_get 5 (some .int) [(0, 10, 13, 21), (0, 10, 17, 13)]) = true := ⟨in2 58 rfl, by decide +kernel⟩
set_option maxRecDepth 100000 in
theorem oq_28 : (Cond.methodLink R_L 88 y_l_find) ∈ lw_tbl ∧ goodWord (.methodLink R_L 88 y_l_find) = true := ⟨in2 84 rfl, by decide +kernel⟩
set_option maxRecDepth 100000 in
theorem oq_29 : (Cond.static y_l_find) ∈ lw_tbl ∧ goodWord (.static y_l_find) = true := ⟨in2 85 rfl, by decide +kernel⟩
set_option maxRecDepth 100000 in
theorem oq_30 : (Cond.codeWith y_l_find b_l_find 5 (some .int) [(0, 10, 13, 21), (0, 10, 17, 13)]) ∈ lw_tbl ∧ goodWord (.codeWith y_l_find b_l_find 5 (some .int) [(0, 10, 13, 21), (0, 10, 17, 13)]) = true := ⟨in2 86 rfl, by decide +kernel⟩
set_option maxRecDepth 100000 in
theorem oq_31 : (Cond.methodLink R_L 94 y_l_key) ∈ lw_tbl ∧ goodWord (.methodLink R_L 94 y_l_key) = true := ⟨in2 102 rfl, by decide +kernel⟩
set_option maxRecDepth 100000 in
theorem oq_32 : (Cond.static y_l_key) ∈ lw_tbl ∧ goodWord (.static y_l_key) = true := ⟨in2 103 rfl, by decide +kernel⟩
set_option maxRecDepth 100000 in
theorem oq_33 : (Cond.codeWith y_l_key b_l_key 5 (some .int) [(0, 10, 13, 21), (0, 10, 17, 13), (0, 10, 21, 41)]) ∈ lw_tbl ∧ goodWord (.codeWith y_l_key b_l_key 5 (some .int) [(0, 10, 13, 21), (0, 10, 17, 13), (0, 10, 21, 41)]) = true := ⟨in2 104 rfl, by decide +kernel⟩
set_option maxRecDepth 100000 in
theorem oq_34 : (Cond.methodLink R_L 76 y_l_set) ∈ lw_tbl ∧ goodWord (.methodLink R_L 76 y_l_set) = true := ⟨in2 12 rfl, by decide +kernel⟩
set_option maxRecDepth 100000 in
theorem oq_35 : (Cond.static y_l_set) ∈ lw_tbl ∧ goodWord (.static y_l_set) = true := ⟨in2 13 rfl, by decide +kernel⟩
set_option maxRecDepth 100000 in
theorem oq_36 : (Cond.codeWith y_l_set b_l_set 5 (some .int) [(0, 7, 10, 21), (0, 7, 14, 13)]) ∈ lw_tbl ∧ goodWord (.codeWith y_l_set b_l_set 5 (some .int) [(0, 7, 10, 21), (0, 7, 14, 13)]) = true := ⟨in2 14 rfl, by decide +kernel⟩
set_option maxRecDepth 100000 in
theorem oq_37 : (Cond.methodLink R_L 97 y_l_root) ∈ lw_tbl ∧ goodWord (.methodLink R_L 97 y_l_root) = true := ⟨in2 126 rfl, by decide +kernel⟩
set_option maxRecDepth 100000 in
theorem oq_38 : (Cond.static y_l_root) ∈ lw_tbl ∧ goodWord (.static y_l_root) = true := ⟨in2 127 rfl, by decide +kernel⟩
set_option maxRecDepth 100000 in
theorem oq_39 : (Cond.codeWith y_l_root b_l_root 4 (some .int) [(0, 6, 9, 41), (0, 6, 12, 21)]) ∈ lw_tbl ∧ goodWord (.codeWith y_l_root b_l_root 4 (some .int) [(0, 6, 9, 41), (0, 6, 12, 21)]) = true := ⟨in2 128 rfl, by decide +kernel⟩
set_option maxRecDepth 100000 in
theorem oq_40 : (Cond.methodLink R_L 104 y_l_guard) ∈ lw_tbl ∧ goodWord (.methodLink R_L 104 y_l_guard) = true := ⟨in2 145 rfl, by decide +kernel⟩
set_option maxRecDepth 100000 in
theorem oq_41 : (Cond.static y_l_guard) ∈ lw_tbl ∧ goodWord (.static y_l_guard) = true := ⟨in2 146 rfl, by decide +kernel⟩
set_option maxRecDepth 100000 in
theorem oq_42 : (Cond.codeWith y_l_guard b_l_guard 5 (some .int) [(0, 7, 10, 21), (0, 7, 14, 13), (0, 7, 18, 41), (0, 7, 22, 15)]) ∈ lw_tbl ∧ goodWord (.codeWith y_l_guard b_l_guard 5 (some .int) [(0, 7, 10, 21), (0, 7, 14, 13), (0, 7, 18, 41), (0, 7, 22, 15)]) = true := ⟨in2 147 rfl, by decide +kernel⟩
set_option maxRecDepth 100000 in
theorem oq_43 : (Cond.methodLink R_L 91 y_l_remove) ∈ lw_tbl ∧ goodWord (.methodLink R_L 91 y_l_remove) = true := ⟨in2 91 rfl, by decide +kernel⟩
set_option maxRecDepth 100000 in
theorem oq_44 : (Cond.static y_l_remove) ∈ lw_tbl ∧ goodWord (.static y_l_remove) = true := ⟨in2 92 rfl, by decide +kernel⟩
set_option maxRecDepth 100000 in
theorem oq_45 : (Cond.codeWith y_l_remove b_l_remove 5 (some .int) [(0, 17, 20, 21), (0, 17, 24, 13)]) ∈ lw_tbl ∧ goodWord (.codeWith y_l_remove b_l_remove 5 (some .int) [(0, 17, 20, 21), (0, 17, 24, 13)]) = true := ⟨in2 93 rfl, by decide +kernel⟩
set_option maxRecDepth 100000 in
theorem oq_46 : (Cond.methodLink R_L 84 y_l_put) ∈ lw_tbl ∧ goodWord (.methodLink R_L 84 y_l_put) = true := ⟨in2 63 rfl, by decide +kernel⟩
set_option maxRecDepth 100000 in
theorem oq_47 : (Cond.static y_l_put) ∈ lw_tbl ∧ goodWord (.static y_l_put) = true := ⟨in2 64 rfl, by decide +kernel⟩
set_option maxRecDepth 100000 in
theorem oq_48 : (Cond.codeWith y_l_put b_l_put 6 (some .int) [(0, 19, 22, 21), (0, 19, 26, 13), (0, 19, 30, 15)]) ∈ lw_tbl ∧ goodWord (.codeWith y_l_put b_l_put 6 (some .int) [(0, 19, 22, 21), (0, 19, 26, 13), (0, 19, 30, 15)]) = true := ⟨in2 65 rfl, by decide +kernel⟩
set_option maxRecDepth 100000 in
theorem oq_49 : (Cond.methodLink R_L 67 y_l_make) ∈ lw_tbl ∧ goodWord (.methodLink R_L 67 y_l_make) = true := ⟨in1 145 rfl, by decide +kernel⟩
set_option maxRecDepth 100000 in
theorem oq_50 : (Cond.static y_l_make) ∈ lw_tbl ∧ goodWord (.static y_l_make) = true := ⟨in1 146 rfl, by decide +kernel⟩
set_option maxRecDepth 100000 in
theorem oq_51 : (Cond.codeWith y_l_make b_l_make 4 (some .int) [(0, 9, 12, 13), (0, 9, 15, 15)]) ∈ lw_tbl ∧ goodWord (.codeWith y_l_make b_l_make 4 (some .int) [(0, 9, 12, 13), (0, 9, 15, 15)]) = true := ⟨in1 147 rfl, by decide +kernel⟩
set_option maxRecDepth 100000 in
theorem oq_52 : (Cond.methodLink R_L 111 y_l_run) ∈ lw_tbl ∧ goodWord (.methodLink R_L 111 y_l_run) = true := ⟨in2 154 rfl, by decide +kernel⟩
set_option maxRecDepth 100000 in
theorem oq_53 : (Cond.static y_l_run) ∈ lw_tbl ∧ goodWord (.static y_l_run) = true := ⟨in2 155 rfl, by decide +kernel⟩
set_option maxRecDepth 100000 in
theorem oq_54 : (Cond.codeWith y_l_run b_l_run 3 (some .int) [(0, 8, 11, 21)]) ∈ lw_tbl ∧ goodWord (.codeWith y_l_run b_l_run 3 (some .int) [(0, 8, 11, 21)]) = true := ⟨in2 156 rfl, by decide +kernel⟩
set_option maxRecDepth 100000 in
theorem oq_55 : (Cond.methodLink R_L 125 y_m_kind) ∈ lw_tbl ∧ goodWord (.methodLink R_L 125 y_m_kind) = true := ⟨in3 107 rfl, by decide +kernel⟩
set_option maxRecDepth 100000 in
theorem oq_56 : (Cond.instanceMethod y_m_kind) ∈ lw_tbl ∧ goodWord (.instanceMethod y_m_kind) = true := ⟨in3 108 rfl, by decide +kernel⟩
set_option maxRecDepth 100000 in
theorem oq_57 : (Cond.selects R_M y_m_kind y_m_kind) ∈ lw_tbl ∧ goodWord (.selects R_M y_m_kind y_m_kind) = true := ⟨in3 109 rfl, by decide +kernel⟩
set_option maxRecDepth 100000 in
theorem oq_58 : (Cond.code y_m_kind b_m_kind 2 (some .int)) ∈ lw_tbl ∧ goodWord (.code y_m_kind b_m_kind 2 (some .int)) = true := ⟨in3 110 rfl, by decide +kernel⟩
set_option maxRecDepth 100000 in
theorem oq_59 : (Cond.methodLink R_L 128 y_m_serial) ∈ lw_tbl ∧ goodWord (.methodLink R_L 128 y_m_serial) = true := ⟨in3 111 rfl, by decide +kernel⟩
set_option maxRecDepth 100000 in
theorem oq_60 : (Cond.instanceMethod y_m_serial) ∈ lw_tbl ∧ goodWord (.instanceMethod y_m_serial) = true := ⟨in3 112 rfl, by decide +kernel⟩
set_option maxRecDepth 100000 in
theorem oq_61 : (Cond.selects R_M y_m_serial y_m_serial) ∈ lw_tbl ∧ goodWord (.selects R_M y_m_serial y_m_serial) = true := ⟨in3 113 rfl, by decide +kernel⟩
set_option maxRecDepth 100000 in
theorem oq_62 : (Cond.code y_m_serial b_m_serial 2 (some .int)) ∈ lw_tbl ∧ goodWord (.code y_m_serial b_m_serial 2 (some .int)) = true := ⟨in3 114 rfl, by decide +kernel⟩
set_option maxRecDepth 100000 in
theorem oq_63 : (Cond.methodLink R_L 103 y_m_rootAt) ∈ lw_tbl ∧ goodWord (.methodLink R_L 103 y_m_rootAt) = true := ⟨in3 83 rfl, by decide +kernel⟩
set_option maxRecDepth 100000 in
theorem oq_64 : (Cond.instanceMethod y_m_rootAt) ∈ lw_tbl ∧ goodWord (.instanceMethod y_m_rootAt) = true := ⟨in3 84 rfl, by decide +kernel⟩
set_option maxRecDepth 100000 in
theorem oq_65 : (Cond.selects R_M y_m_rootAt y_m_rootAt) ∈ lw_tbl ∧ goodWord (.selects R_M y_m_rootAt y_m_rootAt) = true := ⟨in3 85 rfl, by decide +kernel⟩
set_option maxRecDepth 100000 in
theorem oq_66 : (Cond.code y_m_rootAt b_m_rootAt 2 (some .int)) ∈ lw_tbl ∧ goodWord (.code y_m_rootAt b_m_rootAt 2 (some .int)) = true := ⟨in3 86 rfl, by decide +kernel⟩
set_option maxRecDepth 100000 in
theorem oq_67 : (Cond.methodLink R_L 83 y_m_get) ∈ lw_tbl ∧ goodWord (.methodLink R_L 83 y_m_get) = true := ⟨in3 48 rfl, by decide +kernel⟩
set_option maxRecDepth 100000 in
theorem oq_68 : (Cond.instanceMethod y_m_get) ∈ lw_tbl ∧ goodWord (.instanceMethod y_m_get) = true := ⟨in3 49 rfl, by decide +kernel⟩
set_option maxRecDepth 100000 in
theorem oq_69 : (Cond.selects R_M y_m_get y_m_get) ∈ lw_tbl ∧ goodWord (.selects R_M y_m_get y_m_get) = true := ⟨in3 50 rfl, by decide +kernel⟩
set_option maxRecDepth 100000 in
theorem oq_70 : (Cond.code y_m_get b_m_get 3 (some .int)) ∈ lw_tbl ∧ goodWord (.code y_m_get b_m_get 3 (some .int)) = true := ⟨in3 51 rfl, by decide +kernel⟩
set_option maxRecDepth 100000 in
theorem oq_71 : (Cond.methodLink R_L 90 y_m_find) ∈ lw_tbl ∧ goodWord (.methodLink R_L 90 y_m_find) = true := ⟨in3 60 rfl, by decide +kernel⟩
set_option maxRecDepth 100000 in
theorem oq_72 : (Cond.instanceMethod y_m_find) ∈ lw_tbl ∧ goodWord (.instanceMethod y_m_find) = true := ⟨in3 61 rfl, by decide +kernel⟩
set_option maxRecDepth 100000 in
theorem oq_73 : (Cond.selects R_M y_m_find y_m_find) ∈ lw_tbl ∧ goodWord (.selects R_M y_m_find y_m_find) = true := ⟨in3 62 rfl, by decide +kernel⟩
set_option maxRecDepth 100000 in
theorem oq_74 : (Cond.code y_m_find b_m_find 4 (some .int)) ∈ lw_tbl ∧ goodWord (.code y_m_find b_m_find 4 (some .int)) = true := ⟨in3 63 rfl, by decide +kernel⟩
set_option maxRecDepth 100000 in
theorem oq_75 : (Cond.methodLink R_L 96 y_m_key) ∈ lw_tbl ∧ goodWord (.methodLink R_L 96 y_m_key) = true := ⟨in3 72 rfl, by decide +kernel⟩
set_option maxRecDepth 100000 in
theorem oq_76 : (Cond.instanceMethod y_m_key) ∈ lw_tbl ∧ goodWord (.instanceMethod y_m_key) = true := ⟨in3 73 rfl, by decide +kernel⟩
set_option maxRecDepth 100000 in
theorem oq_77 : (Cond.selects R_M y_m_key y_m_key) ∈ lw_tbl ∧ goodWord (.selects R_M y_m_key y_m_key) = true := ⟨in3 74 rfl, by decide +kernel⟩
set_option maxRecDepth 100000 in
theorem oq_78 : (Cond.code y_m_key b_m_key 3 (some .int)) ∈ lw_tbl ∧ goodWord (.code y_m_key b_m_key 3 (some .int)) = true := ⟨in3 75 rfl, by decide +kernel⟩
set_option maxRecDepth 100000 in
theorem oq_79 : (Cond.methodLink R_L 79 y_m_set) ∈ lw_tbl ∧ goodWord (.methodLink R_L 79 y_m_set) = true := ⟨in3 36 rfl, by decide +kernel⟩
set_option maxRecDepth 100000 in
theorem oq_80 : (Cond.instanceMethod y_m_set) ∈ lw_tbl ∧ goodWord (.instanceMethod y_m_set) = true := ⟨in3 37 rfl, by decide +kernel⟩
set_option maxRecDepth 100000 in
theorem oq_81 : (Cond.selects R_M y_m_set y_m_set) ∈ lw_tbl ∧ goodWord (.selects R_M y_m_set y_m_set) = true := ⟨in3 38 rfl, by decide +kernel⟩
set_option maxRecDepth 100000 in
theorem oq_82 : (Cond.code y_m_set b_m_set 4 none) ∈ lw_tbl ∧ goodWord (.code y_m_set b_m_set 4 none) = true := ⟨in3 39 rfl, by decide +kernel⟩
set_option maxRecDepth 100000 in
theorem oq_83 : (Cond.methodLink R_L 100 y_m_root) ∈ lw_tbl ∧ goodWord (.methodLink R_L 100 y_m_root) = true := ⟨in3 76 rfl, by decide +kernel⟩
set_option maxRecDepth 100000 in
theorem oq_84 : (Cond.instanceMethod y_m_root) ∈ lw_tbl ∧ goodWord (.instanceMethod y_m_root) = true := ⟨in3 77 rfl, by decide +kernel⟩
set_option maxRecDepth 100000 in
theorem oq_85 : (Cond.selects R_M y_m_root y_m_root) ∈ lw_tbl ∧ goodWord (.selects R_M y_m_root y_m_root) = true := ⟨in3 78 rfl, by decide +kernel⟩
set_option maxRecDepth 100000 in
theorem oq_86 : (Cond.code y_m_root b_m_root 3 none) ∈ lw_tbl ∧ goodWord (.code y_m_root b_m_root 3 none) = true := ⟨in3 79 rfl, by decide +kernel⟩
set_option maxRecDepth 100000 in
theorem oq_87 : (Cond.methodLink R_L 106 y_m_guard) ∈ lw_tbl ∧ goodWord (.methodLink R_L 106 y_m_guard) = true := ⟨in3 87 rfl, by decide +kernel⟩
set_option maxRecDepth 100000 in
theorem oq_88 : (Cond.instanceMethod y_m_guard) ∈ lw_tbl ∧ goodWord (.instanceMethod y_m_guard) = true := ⟨in3 88 rfl, by decide +kernel⟩
set_option maxRecDepth 100000 in
theorem oq_89 : (Cond.selects R_M y_m_guard y_m_guard) ∈ lw_tbl ∧ goodWord (.selects R_M y_m_guard y_m_guard) = true := ⟨in3 89 rfl, by decide +kernel⟩
set_option maxRecDepth 100000 in
theorem oq_90 : (Cond.code y_m_guard b_m_guard 4 none) ∈ lw_tbl ∧ goodWord (.code y_m_guard b_m_guard 4 none) = true := ⟨in3 90 rfl, by decide +kernel⟩
set_option maxRecDepth 100000 in
theorem oq_91 : (Cond.methodLink R_L 93 y_m_remove) ∈ lw_tbl ∧ goodWord (.methodLink R_L 93 y_m_remove) = true := ⟨in3 68 rfl, by decide +kernel⟩
set_option maxRecDepth 100000 in
theorem oq_92 : (Cond.instanceMethod y_m_remove) ∈ lw_tbl ∧ goodWord (.instanceMethod y_m_remove) = true := ⟨in3 69 rfl, by decide +kernel⟩
set_option maxRecDepth 100000 in
theorem oq_93 : (Cond.selects R_M y_m_remove y_m_remove) ∈ lw_tbl ∧ goodWord (.selects R_M y_m_remove y_m_remove) = true := ⟨in3 70 rfl, by decide +kernel⟩
set_option maxRecDepth 100000 in
theorem oq_94 : (Cond.code y_m_remove b_m_remove 4 (some .boolean)) ∈ lw_tbl ∧ goodWord (.code y_m_remove b_m_remove 4 (some .boolean)) = true := ⟨in3 71 rfl, by decide +kernel⟩
set_option maxRecDepth 100000 in
theorem oq_95 : (Cond.methodLink R_L 87 y_m_put) ∈ lw_tbl ∧ goodWord (.methodLink R_L 87 y_m_put) = true := ⟨in3 52 rfl, by decide +kernel⟩
set_option maxRecDepth 100000 in
theorem oq_96 : (Cond.instanceMethod y_m_put) ∈ lw_tbl ∧ goodWord (.instanceMethod y_m_put) = true := ⟨in3 53 rfl, by decide +kernel⟩
set_option maxRecDepth 100000 in
theorem oq_97 : (Cond.selects R_M y_m_put y_m_put) ∈ lw_tbl ∧ goodWord (.selects R_M y_m_put y_m_put) = true := ⟨in3 54 rfl, by decide +kernel⟩
set_option maxRecDepth 100000 in
theorem oq_98 : (Cond.code y_m_put b_m_put 6 (some .boolean)) ∈ lw_tbl ∧ goodWord (.code y_m_put b_m_put 6 (some .boolean)) = true := ⟨in3 55 rfl, by decide +kernel⟩
set_option maxRecDepth 100000 in
theorem oq_99 : (Cond.methodLink R_L 72 y_m_make) ∈ lw_tbl ∧ goodWord (.methodLink R_L 72 y_m_make) = true := ⟨in3 4 rfl, by decide +kernel⟩
set_option maxRecDepth 100000 in
theorem oq_100 : (Cond.instanceMethod y_m_make) ∈ lw_tbl ∧ goodWord (.instanceMethod y_m_make) = true := ⟨in3 5 rfl, by decide +kernel⟩
set_option maxRecDepth 100000 in
theorem oq_101 : (Cond.selects R_M y_m_make y_m_make) ∈ lw_tbl ∧ goodWord (.selects R_M y_m_make y_m_make) = true := ⟨in3 6 rfl, by decide +kernel⟩
set_option maxRecDepth 100000 in
theorem oq_102 : (Cond.code y_m_make b_m_make 3 (some .int)) ∈ lw_tbl ∧ goodWord (.code y_m_make b_m_make 3 (some .int)) = true := ⟨in3 7 rfl, by decide +kernel⟩
set_option maxRecDepth 100000 in
theorem oq_103 : (Cond.methodLink R_L 114 y_m_run) ∈ lw_tbl ∧ goodWord (.methodLink R_L 114 y_m_run) = true := ⟨in3 95 rfl, by decide +kernel⟩
set_option maxRecDepth 100000 in
theorem oq_104 : (Cond.instanceMethod y_m_run) ∈ lw_tbl ∧ goodWord (.instanceMethod y_m_run) = true := ⟨in3 96 rfl, by decide +kernel⟩
set_option maxRecDepth 100000 in
theorem oq_105 : (Cond.selects R_M y_m_run y_m_run) ∈ lw_tbl ∧ goodWord (.selects R_M y_m_run y_m_run) = true := ⟨in3 97 rfl, by decide +kernel⟩
set_option maxRecDepth 100000 in
theorem oq_106 : (Cond.code y_m_run b_m_run 3 (some .int)) ∈ lw_tbl ∧ goodWord (.code y_m_run b_m_run 3 (some .int)) = true := ⟨in3 98 rfl, by decide +kernel⟩
set_option maxRecDepth 100000 in
theorem oq_107 : (Cond.methodLink R_L 73 y_m_thrown) ∈ lw_tbl ∧ goodWord (.methodLink R_L 73 y_m_thrown) = true := ⟨in3 0 rfl, by decide +kernel⟩
set_option maxRecDepth 100000 in
theorem oq_108 : (Cond.instanceMethod y_m_thrown) ∈ lw_tbl ∧ goodWord (.instanceMethod y_m_thrown) = true := ⟨in3 1 rfl, by decide +kernel⟩
set_option maxRecDepth 100000 in
theorem oq_109 : (Cond.selects R_M y_m_thrown y_m_thrown) ∈ lw_tbl ∧ goodWord (.selects R_M y_m_thrown y_m_thrown) = true := ⟨in3 2 rfl, by decide +kernel⟩
set_option maxRecDepth 100000 in
theorem oq_110 : (Cond.code y_m_thrown b_m_thrown 1 (some .int)) ∈ lw_tbl ∧ goodWord (.code y_m_thrown b_m_thrown 1 (some .int)) = true := ⟨in3 3 rfl, by decide +kernel⟩
set_option maxRecDepth 100000 in
theorem oq_111 : (Cond.methodLink R_L 110 y_m_collect) ∈ lw_tbl ∧ goodWord (.methodLink R_L 110 y_m_collect) = true := ⟨in3 91 rfl, by decide +kernel⟩
set_option maxRecDepth 100000 in
theorem oq_112 : (Cond.instanceMethod y_m_collect) ∈ lw_tbl ∧ goodWord (.instanceMethod y_m_collect) = true := ⟨in3 92 rfl, by decide +kernel⟩
set_option maxRecDepth 100000 in
theorem oq_113 : (Cond.selects R_M y_m_collect y_m_collect) ∈ lw_tbl ∧ goodWord (.selects R_M y_m_collect y_m_collect) = true := ⟨in3 93 rfl, by decide +kernel⟩
set_option maxRecDepth 100000 in
theorem oq_114 : (Cond.code y_m_collect b_m_collect 1 (some .int)) ∈ lw_tbl ∧ goodWord (.code y_m_collect b_m_collect 1 (some .int)) = true := ⟨in3 94 rfl, by decide +kernel⟩
set_option maxRecDepth 100000 in
theorem oq_115 : (Cond.methodLink R_L 118 y_m_queued) ∈ lw_tbl ∧ goodWord (.methodLink R_L 118 y_m_queued) = true := ⟨in3 99 rfl, by decide +kernel⟩
set_option maxRecDepth 100000 in
theorem oq_116 : (Cond.instanceMethod y_m_queued) ∈ lw_tbl ∧ goodWord (.instanceMethod y_m_queued) = true := ⟨in3 100 rfl, by decide +kernel⟩
set_option maxRecDepth 100000 in
theorem oq_117 : (Cond.selects R_M y_m_queued y_m_queued) ∈ lw_tbl ∧ goodWord (.selects R_M y_m_queued y_m_queued) = true := ⟨in3 101 rfl, by decide +kernel⟩
set_option maxRecDepth 100000 in
theorem oq_118 : (Cond.code y_m_queued b_m_queued 1 (some .int)) ∈ lw_tbl ∧ goodWord (.code y_m_queued b_m_queued 1 (some .int)) = true := ⟨in3 102 rfl, by decide +kernel⟩
set_option maxRecDepth 100000 in
theorem oq_119 : (Cond.methodLink R_L 122 y_m_used) ∈ lw_tbl ∧ goodWord (.methodLink R_L 122 y_m_used) = true := ⟨in3 103 rfl, by decide +kernel⟩
set_option maxRecDepth 100000 in
theorem oq_120 : (Cond.instanceMethod y_m_used) ∈ lw_tbl ∧ goodWord (.instanceMethod y_m_used) = true := ⟨in3 104 rfl, by decide +kernel⟩
set_option maxRecDepth 100000 in
theorem oq_121 : (Cond.selects R_M y_m_used y_m_used) ∈ lw_tbl ∧ goodWord (.selects R_M y_m_used y_m_used) = true := ⟨in3 105 rfl, by decide +kernel⟩
set_option maxRecDepth 100000 in
theorem oq_122 : (Cond.code y_m_used b_m_used 3 (some .int)) ∈ lw_tbl ∧ goodWord (.code y_m_used b_m_used 3 (some .int)) = true := ⟨in3 106 rfl, by decide +kernel⟩
set_option maxRecDepth 100000 in
theorem oq_123 : (Cond.methodLink R_L 132 y_m_collections) ∈ lw_tbl ∧ goodWord (.methodLink R_L 132 y_m_collections) = true := ⟨in3 115 rfl, by decide +kernel⟩
set_option maxRecDepth 100000 in
theorem oq_124 : (Cond.instanceMethod y_m_collections) ∈ lw_tbl ∧ goodWord (.instanceMethod y_m_collections) = true := ⟨in3 116 rfl, by decide +kernel⟩
set_option maxRecDepth 100000 in
theorem oq_125 : (Cond.selects R_M y_m_collections y_m_collections) ∈ lw_tbl ∧ goodWord (.selects R_M y_m_collections y_m_collections) = true := ⟨in3 117 rfl, by decide +kernel⟩
set_option maxRecDepth 100000 in
theorem oq_126 : (Cond.code y_m_collections b_m_collections 1 (some .int)) ∈ lw_tbl ∧ goodWord (.code y_m_collections b_m_collections 1 (some .int)) = true := ⟨in3 118 rfl, by decide +kernel⟩
set_option maxRecDepth 100000 in
theorem oq_127 : (Cond.methodLink R_L 107 y_collect) ∈ lw_tbl ∧ goodWord (.methodLink R_L 107 y_collect) = true := ⟨in1 66 rfl, by decide +kernel⟩
set_option maxRecDepth 100000 in
theorem oq_128 : (Cond.instanceMethod y_collect) ∈ lw_tbl ∧ goodWord (.instanceMethod y_collect) = true := ⟨in1 67 rfl, by decide +kernel⟩
set_option maxRecDepth 100000 in
theorem oq_129 : (Cond.selects R_X y_collect y_collect) ∈ lw_tbl ∧ goodWord (.selects R_X y_collect y_collect) = true := ⟨in1 68 rfl, by decide +kernel⟩
set_option maxRecDepth 100000 in
theorem oq_130 : (Cond.code y_collect b_collect 4 (some .int)) ∈ lw_tbl ∧ goodWord (.code y_collect b_collect 4 (some .int)) = true := ⟨in1 69 rfl, by decide +kernel⟩
set_option maxRecDepth 100000 in
theorem oq_131 : (Cond.methodLink R_L 115 y_queued) ∈ lw_tbl ∧ goodWord (.methodLink R_L 115 y_queued) = true := ⟨in1 133 rfl, by decide +kernel⟩
set_option maxRecDepth 100000 in
theorem oq_132 : (Cond.instanceMethod y_queued) ∈ lw_tbl ∧ goodWord (.instanceMethod y_queued) = true := ⟨in1 134 rfl, by decide +kernel⟩
set_option maxRecDepth 100000 in
theorem oq_133 : (Cond.selects R_X y_queued y_queued) ∈ lw_tbl ∧ goodWord (.selects R_X y_queued y_queued) = true := ⟨in1 135 rfl, by decide +kernel⟩
set_option maxRecDepth 100000 in
theorem oq_134 : (Cond.code y_queued b_queued 1 (some .int)) ∈ lw_tbl ∧ goodWord (.code y_queued b_queued 1 (some .int)) = true := ⟨in1 136 rfl, by decide +kernel⟩
set_option maxRecDepth 100000 in
theorem oq_135 : (Cond.methodLink R_L 119 y_used) ∈ lw_tbl ∧ goodWord (.methodLink R_L 119 y_used) = true := ⟨in1 137 rfl, by decide +kernel⟩
set_option maxRecDepth 100000 in
theorem oq_136 : (Cond.instanceMethod y_used) ∈ lw_tbl ∧ goodWord (.instanceMethod y_used) = true := ⟨in1 138 rfl, by decide +kernel⟩
set_option maxRecDepth 100000 in
theorem oq_137 : (Cond.selects R_X y_used y_used) ∈ lw_tbl ∧ goodWord (.selects R_X y_used y_used) = true := ⟨in1 139 rfl, by decide +kernel⟩
set_option maxRecDepth 100000 in
theorem oq_138 : (Cond.code y_used b_used 1 (some .int)) ∈ lw_tbl ∧ goodWord (.code y_used b_used 1 (some .int)) = true := ⟨in1 140 rfl, by decide +kernel⟩
set_option maxRecDepth 100000 in
theorem oq_139 : (Cond.methodLink R_L 129 y_collections) ∈ lw_tbl ∧ goodWord (.methodLink R_L 129 y_collections) = true := ⟨in1 141 rfl, by decide +kernel⟩
set_option maxRecDepth 100000 in
theorem oq_140 : (Cond.instanceMethod y_collections) ∈ lw_tbl ∧ goodWord (.instanceMethod y_collections) = true := ⟨in1 142 rfl, by decide +kernel⟩
set_option maxRecDepth 100000 in
theorem oq_141 : (Cond.selects R_X y_collections y_collections) ∈ lw_tbl ∧ goodWord (.selects R_X y_collections y_collections) = true := ⟨in1 143 rfl, by decide +kernel⟩
set_option maxRecDepth 100000 in
theorem oq_142 : (Cond.code y_collections b_collections 1 (some .int)) ∈ lw_tbl ∧ goodWord (.code y_collections b_collections 1 (some .int)) = true := ⟨in1 144 rfl, by decide +kernel⟩
theorem gd_init : GoodIn lw_tbl w_init := goodT (consT oq_12 (List.forall_mem_append.mpr ⟨allX, consT (oneI 0 rfl) (consT (oneI 2 rfl) (consT (oneI 3 rfl) (consT (oneI 4 rfl) nilT)))⟩))
theorem gd_m_init : GoodIn lw_tbl w_m_init := goodT (consT oq_15 (List.forall_mem_append.mpr ⟨allM, consT (oneI 1 rfl) (consT (oneI 2 rfl) (consT (oneI 3 rfl) (consT (oneI 4 rfl) (consT (oneI 5 rfl) nilT))))⟩))
theorem ok_s_kind : okS lw_tbl R_L 123 y_l_kind 4 w_l_kind 3 := ⟨goodT (consT oq_18 allL), z_codeW rfl, oq_16.1, oq_17.1, oq_0.1, by decide, by decide, by decide +kernel⟩
theorem ok_s_serial : okS lw_tbl R_L 126 y_l_serial 4 w_l_serial 3 := ⟨goodT (consT oq_21 allL), z_codeW rfl, oq_19.1, oq_20.1, oq_0.1, by decide, by decide, by decide +kernel⟩
theorem ok_s_rootAt : okS lw_tbl R_L 101 y_l_rootAt 4 w_l_rootAt 3 := ⟨goodT (consT oq_24 allL), z_codeW rfl, oq_22.1, oq_23.1, oq_0.1, by decide, by decide, by decide +kernel⟩
theorem ok_s_get : okS lw_tbl R_L 80 y_l_get 5 w_l_get 4 := ⟨goodT (consT oq_27 allL), z_codeW rfl, oq_25.1, oq_26.1, oq_0.1, by decide, by decide, by decide +kernel⟩
theorem ok_s_find : okS lw_tbl R_L 88 y_l_find 5 w_l_find 4 := ⟨goodT (consT oq_30 allL), z_codeW rfl, oq_28.1, oq_29.1, oq_0.1, by decide, by decide, by decide +kernel⟩
theorem ok_s_key : okS lw_tbl R_L 94 y_l_key 5 w_l_key 4 := ⟨goodT (consT oq_33 allL), z_codeW rfl, oq_31.1, oq_32.1, oq_0.1, by decide, by decide, by decide +kernel⟩
theorem ok_s_set : okS lw_tbl R_L 76 y_l_set 5 w_l_set 4 := ⟨goodT (consT oq_36 allL), z_codeW rfl, oq_34.1, oq_35.1, oq_0.1, by decide, by decide, by decide +kernel⟩
theorem ok_s_root : okS lw_tbl R_L 97 y_l_root 4 w_l_root 3 := ⟨goodT (consT oq_39 allL), z_codeW rfl, oq_37.1, oq_38.1, oq_0.1, by decide, by decide, by decide +kernel⟩
theorem ok_s_guard : okS lw_tbl R_L 104 y_l_guard 5 w_l_guard 4 := ⟨goodT (consT oq_42 allL), z_codeW rfl, oq_40.1, oq_41.1, oq_0.1, by decide, by decide, by decide +kernel⟩
theorem ok_s_remove : okS lw_tbl R_L 91 y_l_remove 5 w_l_remove 4 := ⟨goodT (consT oq_45 allL), z_codeW rfl, oq_43.1, oq_44.1, oq_0.1, by decide, by decide, by decide +kernel⟩
theorem ok_s_put : okS lw_tbl R_L 84 y_l_put 6 w_l_put 5 := ⟨goodT (consT oq_48 allL), z_codeW rfl, oq_46.1, oq_47.1, oq_0.1, by decide, by decide, by decide +kernel⟩
theorem ok_s_make : okS lw_tbl R_L 67 y_l_make 4 w_l_make 3 := ⟨goodT (consT oq_51 allL), z_codeW rfl, oq_49.1, oq_50.1, oq_0.1, by decide, by decide, by decide +kernel⟩
theorem ok_s_run : okS lw_tbl R_L 111 y_l_run 3 w_l_run 2 := ⟨goodT (consT oq_54 allL), z_codeW rfl, oq_52.1, oq_53.1, oq_0.1, by decide, by decide, by decide +kernel⟩
theorem ok_t_kind : okV lw_tbl R_L 125 R_M y_m_kind b_m_kind 2 (some .int) w_m_kind 1 := ⟨goodT (List.forall_mem_append.mpr ⟨consT oq_55 (consT oq_56 (consT oq_57 (consT oq_2 nilT))), consT oq_58 allM⟩), ⟨_, rfl⟩, by decide, by decide, by decide, by decide +kernel⟩
theorem ok_t_serial : okV lw_tbl R_L 128 R_M y_m_serial b_m_serial 2 (some .int) w_m_serial 1 := ⟨goodT (List.forall_mem_append.mpr ⟨consT oq_59 (consT oq_60 (consT oq_61 (consT oq_2 nilT))), consT oq_62 allM⟩), ⟨_, rfl⟩, by decide, by decide, by decide, by decide +kernel⟩
theorem ok_t_rootAt : okV lw_tbl R_L 103 R_M y_m_rootAt b_m_rootAt 2 (some .int) w_m_rootAt 1 := ⟨goodT (List.forall_mem_append.mpr ⟨consT oq_63 (consT oq_64 (consT oq_65 (consT oq_2 nilT))), consT oq_66 allM⟩), ⟨_, rfl⟩, by decide, by decide, by decide, by decide +kernel⟩
theorem ok_t_get : okV lw_tbl R_L 83 R_M y_m_get b_m_get 3 (some .int) w_m_get 2 := ⟨goodT (List.forall_mem_append.mpr ⟨consT oq_67 (consT oq_68 (consT oq_69 (consT oq_2 nilT))), consT oq_70 allM⟩), ⟨_, rfl⟩, by decide, by decide, by decide, by decide +kernel⟩
theorem ok_t_find : okV lw_tbl R_L 90 R_M y_m_find b_m_find 4 (some .int) w_m_find 2 := ⟨goodT (List.forall_mem_append.mpr ⟨consT oq_71 (consT oq_72 (consT oq_73 (consT oq_2 nilT))), consT oq_74 allM⟩), ⟨_, rfl⟩, by decide, by decide, by decide, by decide +kernel⟩
theorem ok_t_key : okV lw_tbl R_L 96 R_M y_m_key b_m_key 3 (some .int) w_m_key 2 := ⟨goodT (List.forall_mem_append.mpr ⟨consT oq_75 (consT oq_76 (consT oq_77 (consT oq_2 nilT))), consT oq_78 allM⟩), ⟨_, rfl⟩, by decide, by decide, by decide, by decide +kernel⟩
theorem ok_t_set : okV lw_tbl R_L 79 R_M y_m_set b_m_set 4 none w_m_set 3 := ⟨goodT (List.forall_mem_append.mpr ⟨consT oq_79 (consT oq_80 (consT oq_81 (consT oq_2 nilT))), consT oq_82 allM⟩), ⟨_, rfl⟩, by decide, by decide, by decide, by decide +kernel⟩
theorem ok_t_root : okV lw_tbl R_L 100 R_M y_m_root b_m_root 3 none w_m_root 2 := ⟨goodT (List.forall_mem_append.mpr ⟨consT oq_83 (consT oq_84 (consT oq_85 (consT oq_2 nilT))), consT oq_86 allM⟩), ⟨_, rfl⟩, by decide, by decide, by decide, by decide +kernel⟩
theorem ok_t_guard : okV lw_tbl R_L 106 R_M y_m_guard b_m_guard 4 none w_m_guard 3 := ⟨goodT (List.forall_mem_append.mpr ⟨consT oq_87 (consT oq_88 (consT oq_89 (consT oq_2 nilT))), consT oq_90 allM⟩), ⟨_, rfl⟩, by decide, by decide, by decide, by decide +kernel⟩
theorem ok_t_remove : okV lw_tbl R_L 93 R_M y_m_remove b_m_remove 4 (some .boolean) w_m_remove 2 := ⟨goodT (List.forall_mem_append.mpr ⟨consT oq_91 (consT oq_92 (consT oq_93 (consT oq_2 nilT))), consT oq_94 allM⟩), ⟨_, rfl⟩, by decide, by decide, by decide, by decide +kernel⟩
theorem ok_t_put : okV lw_tbl R_L 87 R_M y_m_put b_m_put 6 (some .boolean) w_m_put 3 := ⟨goodT (List.forall_mem_append.mpr ⟨consT oq_95 (consT oq_96 (consT oq_97 (consT oq_2 nilT))), consT oq_98 allM⟩), ⟨_, rfl⟩, by decide, by decide, by decide, by decide +kernel⟩
theorem ok_t_make : okV lw_tbl R_L 72 R_M y_m_make b_m_make 3 (some .int) w_m_make 1 := ⟨goodT (List.forall_mem_append.mpr ⟨consT oq_99 (consT oq_100 (consT oq_101 (consT oq_2 nilT))), consT oq_102 allM⟩), ⟨_, rfl⟩, by decide, by decide, by decide, by decide +kernel⟩
theorem ok_t_run : okV lw_tbl R_L 114 R_M y_m_run b_m_run 3 (some .int) w_m_run 0 := ⟨goodT (List.forall_mem_append.mpr ⟨consT oq_103 (consT oq_104 (consT oq_105 (consT oq_2 nilT))), consT oq_106 allM⟩), ⟨_, rfl⟩, by decide, by decide, by decide, by decide +kernel⟩
theorem ok_t_thrown : okV lw_tbl R_L 73 R_M y_m_thrown b_m_thrown 1 (some .int) w_m_thrown 0 := ⟨goodT (List.forall_mem_append.mpr ⟨consT oq_107 (consT oq_108 (consT oq_109 (consT oq_2 nilT))), consT oq_110 allM⟩), ⟨_, rfl⟩, by decide, by decide, by decide, by decide +kernel⟩
theorem ok_t_collect : okV lw_tbl R_L 110 R_M y_m_collect b_m_collect 1 (some .int) w_m_collect 0 := ⟨goodT (List.forall_mem_append.mpr ⟨consT oq_111 (consT oq_112 (consT oq_113 (consT oq_2 nilT))), consT oq_114 allM⟩), ⟨_, rfl⟩, by decide, by decide, by decide, by decide +kernel⟩
theorem ok_t_queued : okV lw_tbl R_L 118 R_M y_m_queued b_m_queued 1 (some .int) w_m_queued 0 := ⟨goodT (List.forall_mem_append.mpr ⟨consT oq_115 (consT oq_116 (consT oq_117 (consT oq_2 nilT))), consT oq_118 allM⟩), ⟨_, rfl⟩, by decide, by decide, by decide, by decide +kernel⟩
theorem ok_t_used : okV lw_tbl R_L 122 R_M y_m_used b_m_used 3 (some .int) w_m_used 0 := ⟨goodT (List.forall_mem_append.mpr ⟨consT oq_119 (consT oq_120 (consT oq_121 (consT oq_2 nilT))), consT oq_122 allM⟩), ⟨_, rfl⟩, by decide, by decide, by decide, by decide +kernel⟩
theorem ok_t_collections : okV lw_tbl R_L 132 R_M y_m_collections b_m_collections 1 (some .int) w_m_collections 0 := ⟨goodT (List.forall_mem_append.mpr ⟨consT oq_123 (consT oq_124 (consT oq_125 (consT oq_2 nilT))), consT oq_126 allM⟩), ⟨_, rfl⟩, by decide, by decide, by decide, by decide +kernel⟩
theorem ok_u_collect : okV lw_tbl R_L 107 R_X y_collect b_collect 4 (some .int) w_collect 0 := ⟨goodT (List.forall_mem_append.mpr ⟨consT oq_127 (consT oq_128 (consT oq_129 (consT oq_1 nilT))), consT oq_130 allX⟩), ⟨_, rfl⟩, by decide, by decide, by decide, by decide +kernel⟩
theorem ok_u_queued : okV lw_tbl R_L 115 R_X y_queued b_queued 1 (some .int) w_queued 0 := ⟨goodT (List.forall_mem_append.mpr ⟨consT oq_131 (consT oq_132 (consT oq_133 (consT oq_1 nilT))), consT oq_134 allX⟩), ⟨_, rfl⟩, by decide, by decide, by decide, by decide +kernel⟩
theorem ok_u_used : okV lw_tbl R_L 119 R_X y_used b_used 1 (some .int) w_used 0 := ⟨goodT (List.forall_mem_append.mpr ⟨consT oq_135 (consT oq_136 (consT oq_137 (consT oq_1 nilT))), consT oq_138 allX⟩), ⟨_, rfl⟩, by decide, by decide, by decide, by decide +kernel⟩
theorem ok_u_collections : okV lw_tbl R_L 129 R_X y_collections b_collections 1 (some .int) w_collections 0 := ⟨goodT (List.forall_mem_append.mpr ⟨consT oq_139 (consT oq_140 (consT oq_141 (consT oq_1 nilT))), consT oq_142 allX⟩), ⟨_, rfl⟩, by decide, by decide, by decide, by decide +kernel⟩
theorem at_cX : (Cond.classLink R_L 8 R_X) ∈ lw_tbl := oq_3.1
theorem at_cM : (Cond.classLink R_L 64 R_M) ∈ lw_tbl := oq_4.1
theorem at_iX : (Cond.instantiable R_X 15) ∈ lw_tbl := oq_5.1
theorem at_iM : (Cond.instantiable R_M 16) ∈ lw_tbl := oq_6.1
theorem at_nX : (Cond.initialized R_X) ∈ lw_tbl := oq_1.1
theorem at_nM : (Cond.initialized R_M) ∈ lw_tbl := oq_2.1
theorem at_aI : (Cond.arrayClass .int) ∈ lw_tbl := oq_7.1
theorem at_aZ : (Cond.arrayClass .boolean) ∈ lw_tbl := oq_8.1
theorem at_aL : (Cond.arrayClass .long) ∈ lw_tbl := oq_9.1
theorem at_lX : (Cond.methodLink R_L 63 y_init) ∈ lw_tbl := oq_10.1
theorem at_mX : (Cond.instanceMethod y_init) ∈ lw_tbl := oq_11.1
theorem at_lM : (Cond.methodLink R_L 66 y_m_init) ∈ lw_tbl := oq_13.1
theorem at_mM : (Cond.instanceMethod y_m_init) ∈ lw_tbl := oq_14.1
