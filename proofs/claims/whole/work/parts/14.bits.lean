/-! Integer.bitCount counts bits -/
theorem zand {u v a b : Nat} (hu : u < 256) (ha : a < 256) : (u + 256 * v) &&& (a + 256 * b) = (u &&& a) + 256 * (v &&& b) := by
  have hua : u &&& a < 2 ^ 8 := Nat.and_lt_two_pow u (by omega)
  apply Nat.eq_of_testBit_eq
  intro j
  rw [Nat.testBit_and, show u + 256 * v = 2 ^ 8 * v + u by omega, show a + 256 * b = 2 ^ 8 * b + a by omega, show (u &&& a) + 256 * (v &&& b) = 2 ^ 8 * (v &&& b) + (u &&& a) by omega,
    Nat.testBit_two_pow_mul_add _ (show u < 2 ^ 8 by omega), Nat.testBit_two_pow_mul_add _ (show a < 2 ^ 8 by omega), Nat.testBit_two_pow_mul_add _ hua]
  split
  · rw [Nat.testBit_and]
  · rw [Nat.testBit_and]
theorem zc_1 : ∀ a, a < 256 → ∀ b, b < 2 → (a / 2 + 128 * b) &&& 85 = a / 2 &&& 85 := by decide +kernel
theorem zc_2 : ∀ a, a < 256 → ∀ b, b < 4 → (a / 4 + 64 * b) &&& 51 = a / 4 &&& 51 := by decide +kernel
theorem zc_3 : ∀ a, a < 256 → ∀ b, b < 8 → (a + 16 * b) &&& 15 = a &&& 15 := by decide +kernel
def q1 (a : Nat) : Nat := a - (a / 2 &&& 85)
def q2 (a : Nat) : Nat := (q1 a &&& 51) + (q1 a / 4 &&& 51)
def q3 (a : Nat) : Nat := (q2 a + q2 a / 16) &&& 15
theorem zq : ∀ a, a < 256 → (a / 2 &&& 85) ≤ a ∧ q1 a < 256 ∧ q2 a ≤ 68 ∧ q2 a % 16 ≤ 4 ∧ q3 a = num (fun i => a.testBit i) 8 := by decide +kernel
/-- a number of four bytes -/
def by4 (a b c d : Nat) : Nat := a + 256 * (b + 256 * (c + 256 * d))
theorem by4_of {n : Nat} (h : n < 2 ^ 32) : ∃ a b c d, a < 256 ∧ b < 256 ∧ c < 256 ∧ d < 256 ∧ n = by4 a b c d :=
  ⟨n % 256, n / 256 % 256, n / 65536 % 256, n / 16777216, by omega, by omega, by omega, by omega, by unfold by4; omega⟩
theorem by4_and {a b c d x y z w : Nat} (ha : a < 256) (hb : b < 256) (hc : c < 256) (hx : x < 256) (hy : y < 256) (hz : z < 256) : by4 a b c d &&& by4 x y z w = by4 (a &&& x) (b &&& y) (c &&& z) (d &&& w) := by
  unfold by4
  rw [zand ha hx, zand hb hy, zand hc hz]
theorem bc_1 {a b c d : Nat} (ha : a < 256) (hb : b < 256) (hc : c < 256) (hd : d < 256) : by4 a b c d / 2 &&& 1431655765 = by4 (a / 2 &&& 85) (b / 2 &&& 85) (c / 2 &&& 85) (d / 2 &&& 85) := by
  rw [show by4 a b c d / 2 = by4 (a / 2 + 128 * (b % 2)) (b / 2 + 128 * (c % 2)) (c / 2 + 128 * (d % 2)) (d / 2) by unfold by4; omega, show (1431655765 : Nat) = by4 85 85 85 85 by decide,
    by4_and (by omega) (by omega) (by omega) (by omega) (by omega) (by omega), zc_1 a ha _ (by omega), zc_1 b hb _ (by omega), zc_1 c hc _ (by omega)]
theorem bc_2 {a b c d : Nat} (ha : a < 256) (hb : b < 256) (hc : c < 256) (hd : d < 256) : by4 a b c d / 4 &&& 858993459 = by4 (a / 4 &&& 51) (b / 4 &&& 51) (c / 4 &&& 51) (d / 4 &&& 51) := by
  rw [show by4 a b c d / 4 = by4 (a / 4 + 64 * (b % 4)) (b / 4 + 64 * (c % 4)) (c / 4 + 64 * (d % 4)) (d / 4) by unfold by4; omega, show (858993459 : Nat) = by4 51 51 51 51 by decide,
    by4_and (by omega) (by omega) (by omega) (by omega) (by omega) (by omega), zc_2 a ha _ (by omega), zc_2 b hb _ (by omega), zc_2 c hc _ (by omega)]
theorem num_add (S : Nat → Bool) (a b : Nat) : num S (a + b) = num S a + num (fun c => S (a + c)) b := by
  induction b with
  | zero => rfl
  | succ b ih =>
    show num S (a + b) + (if S (a + b) = true then 1 else 0) = num S a + (num (fun c => S (a + c)) b + (if S (a + b) = true then 1 else 0))
    rw [ih, Nat.add_assoc]
theorem num_congr {S S' : Nat → Bool} {n : Nat} (h : ∀ c, c < n → S c = S' c) : num S n = num S' n := by
  induction n with
  | zero => rfl
  | succ n ih =>
    unfold num
    rw [ih (fun c hc => h c (by omega)), h n (by omega)]
theorem by4_bit {a b c d : Nat} (ha : a < 256) (hb : b < 256) (hc : c < 256) : num (fun i => (by4 a b c d).testBit i) 32 = num (fun i => a.testBit i) 8 + (num (fun i => b.testBit i) 8 + (num (fun i => c.testBit i) 8 + num (fun i => d.testBit i) 8)) := by
  have h1 : ∀ {u v : Nat}, u < 256 → ∀ n, num (fun i => (u + 256 * v).testBit i) (8 + n) = num (fun i => u.testBit i) 8 + num (fun i => v.testBit i) n := by
    intro u v hu n
    rw [num_add]
    have e : ∀ j, (u + 256 * v).testBit j = if j < 8 then u.testBit j else v.testBit (j - 8) := fun j => by
      rw [show u + 256 * v = 2 ^ 8 * v + u by omega, Nat.testBit_two_pow_mul_add _ (show u < 2 ^ 8 by omega)]
    congr 1
    · exact num_congr (fun c hc => by rw [e, if_pos hc])
    · exact num_congr (fun c hc => by rw [e, if_neg (by omega), Nat.add_sub_cancel_left])
  unfold by4
  rw [h1 ha 24, h1 hb 16, h1 hc 8]
theorem bc_sum {a b c d : Nat} (ha : a ≤ 8) (hb : b ≤ 8) (hc : c ≤ 8) (hd : d ≤ 8) : ((by4 a b c d + by4 a b c d / 256) + (by4 a b c d + by4 a b c d / 256) / 65536) % 64 = a + (b + (c + d)) := by
  have f1 : by4 a b c d / 256 = b + 256 * (c + 256 * d) := by unfold by4; omega
  have f2 : (by4 a b c d + (b + 256 * (c + 256 * d))) / 65536 = c + d + 256 * d := by unfold by4; omega
  rw [f1, f2]; unfold by4; omega
/-- the method's own sum -/
theorem bc_all {n : Nat} (h : n < 2 ^ 32) : (n / 2 &&& 1431655765) ≤ n ∧ ∃ i1 i2 i3 : Nat, i1 = n - (n / 2 &&& 1431655765) ∧ i2 = (i1 &&& 858993459) + (i1 / 4 &&& 858993459) ∧ i3 = (i2 + i2 / 16) &&& 252645135 ∧ i1 < 2 ^ 32 ∧ i2 < 2 ^ 31 ∧ i3 < 2 ^ 28 ∧
    ((i3 + i3 / 256) + (i3 + i3 / 256) / 65536) &&& 63 = num (fun i => n.testBit i) 32 := by
  obtain ⟨a, b, c, d, ha, hb, hc, hd, rfl⟩ := by4_of h
  obtain ⟨a1, a2, a3, a4, a5⟩ := zq a ha
  obtain ⟨b1, b2, b3, b4, b5⟩ := zq b hb
  obtain ⟨c1, c2, c3, c4, c5⟩ := zq c hc
  obtain ⟨d1, d2, d3, d4, d5⟩ := zq d hd
  have e0 := bc_1 ha hb hc hd
  have e1 : by4 a b c d - (by4 a b c d / 2 &&& 1431655765) = by4 (q1 a) (q1 b) (q1 c) (q1 d) := by
    rw [e0]; unfold by4 q1; omega
  have e2 : (by4 (q1 a) (q1 b) (q1 c) (q1 d) &&& 858993459) + (by4 (q1 a) (q1 b) (q1 c) (q1 d) / 4 &&& 858993459) = by4 (q2 a) (q2 b) (q2 c) (q2 d) := by
    rw [bc_2 a2 b2 c2 d2, show (858993459 : Nat) = by4 51 51 51 51 by decide, by4_and a2 b2 c2 (by omega) (by omega) (by omega)]
    unfold by4 q2; omega
  have e3 : (by4 (q2 a) (q2 b) (q2 c) (q2 d) + by4 (q2 a) (q2 b) (q2 c) (q2 d) / 16) &&& 252645135 = by4 (q3 a) (q3 b) (q3 c) (q3 d) := by
    rw [show by4 (q2 a) (q2 b) (q2 c) (q2 d) + by4 (q2 a) (q2 b) (q2 c) (q2 d) / 16 = by4 (q2 a + q2 a / 16 + 16 * (q2 b % 16)) (q2 b + q2 b / 16 + 16 * (q2 c % 16)) (q2 c + q2 c / 16 + 16 * (q2 d % 16)) (q2 d + q2 d / 16) by unfold by4; omega,
      show (252645135 : Nat) = by4 15 15 15 15 by decide, by4_and (by omega) (by omega) (by omega) (by omega) (by omega) (by omega), zc_3 _ (by omega) _ (by omega), zc_3 _ (by omega) _ (by omega), zc_3 _ (by omega) _ (by omega)]
    rfl
  refine ⟨by rw [e0]; unfold by4; omega, _, _, _, e1.symm, e2.symm, e3.symm, by unfold by4; omega, by unfold by4; omega, ?_, ?_⟩
  · have := num_le (fun i => a.testBit i) 8
    have := num_le (fun i => b.testBit i) 8
    have := num_le (fun i => c.testBit i) 8
    have := num_le (fun i => d.testBit i) 8
    rw [a5, b5, c5, d5]; unfold by4; omega
  · rw [by4_bit ha hb hc, ← a5, ← b5, ← c5, ← d5]
    have := num_le (fun i => a.testBit i) 8
    have := num_le (fun i => b.testBit i) 8
    have := num_le (fun i => c.testBit i) 8
    have := num_le (fun i => d.testBit i) 8
    rw [show (63 : Nat) = 2 ^ 6 - 1 by decide, Nat.and_two_pow_sub_one_eq_mod]
    exact bc_sum (by omega) (by omega) (by omega) (by omega)
theorem bt_nI {n : Nat} (i : Nat) (hi : i < 32) : bt (nI n) i = n.testBit i := by
  show (BitVec.ofNat 32 n).getLsbD i = _
  rw [BitVec.getLsbD_ofNat]; simp [hi]
theorem nI_all (x : Int32) : ∃ n, n < 2 ^ 32 ∧ x = nI n := ⟨x.toBitVec.toNat, x.toBitVec.isLt, Int32.toBitVec_inj.mp (by show x.toBitVec = BitVec.ofNat 32 x.toBitVec.toNat; simp)⟩
theorem d_bitCount_0 : decode b_bitCount 0 = .ok (.iload_n 0, 1) := by decide +kernel
theorem d_bitCount_1 : decode b_bitCount 1 = .ok (.iload_n 0, 1) := by decide +kernel
theorem d_bitCount_2 : decode b_bitCount 2 = .ok (.iconst 1, 1) := by decide +kernel
theorem d_bitCount_3 : decode b_bitCount 3 = .ok (.iushr, 1) := by decide +kernel
theorem d_bitCount_4 : decode b_bitCount 4 = .ok (.ldc_w 265, 3) := by decide +kernel
theorem d_bitCount_7 : decode b_bitCount 7 = .ok (.iand, 1) := by decide +kernel
theorem d_bitCount_8 : decode b_bitCount 8 = .ok (.isub, 1) := by decide +kernel
theorem d_bitCount_9 : decode b_bitCount 9 = .ok (.istore_n 0, 1) := by decide +kernel
theorem d_bitCount_10 : decode b_bitCount 10 = .ok (.iload_n 0, 1) := by decide +kernel
theorem d_bitCount_11 : decode b_bitCount 11 = .ok (.ldc_w 266, 3) := by decide +kernel
theorem d_bitCount_14 : decode b_bitCount 14 = .ok (.iand, 1) := by decide +kernel
theorem d_bitCount_15 : decode b_bitCount 15 = .ok (.iload_n 0, 1) := by decide +kernel
theorem d_bitCount_16 : decode b_bitCount 16 = .ok (.iconst 2, 1) := by decide +kernel
theorem d_bitCount_17 : decode b_bitCount 17 = .ok (.iushr, 1) := by decide +kernel
theorem d_bitCount_18 : decode b_bitCount 18 = .ok (.ldc_w 266, 3) := by decide +kernel
theorem d_bitCount_21 : decode b_bitCount 21 = .ok (.iand, 1) := by decide +kernel
theorem d_bitCount_22 : decode b_bitCount 22 = .ok (.iadd, 1) := by decide +kernel
theorem d_bitCount_23 : decode b_bitCount 23 = .ok (.istore_n 0, 1) := by decide +kernel
theorem d_bitCount_24 : decode b_bitCount 24 = .ok (.iload_n 0, 1) := by decide +kernel
theorem d_bitCount_25 : decode b_bitCount 25 = .ok (.iload_n 0, 1) := by decide +kernel
theorem d_bitCount_26 : decode b_bitCount 26 = .ok (.iconst 4, 1) := by decide +kernel
theorem d_bitCount_27 : decode b_bitCount 27 = .ok (.iushr, 1) := by decide +kernel
theorem d_bitCount_28 : decode b_bitCount 28 = .ok (.iadd, 1) := by decide +kernel
theorem d_bitCount_29 : decode b_bitCount 29 = .ok (.ldc_w 267, 3) := by decide +kernel
theorem d_bitCount_32 : decode b_bitCount 32 = .ok (.iand, 1) := by decide +kernel
theorem d_bitCount_33 : decode b_bitCount 33 = .ok (.istore_n 0, 1) := by decide +kernel
theorem d_bitCount_34 : decode b_bitCount 34 = .ok (.iload_n 0, 1) := by decide +kernel
theorem d_bitCount_35 : decode b_bitCount 35 = .ok (.iload_n 0, 1) := by decide +kernel
theorem d_bitCount_36 : decode b_bitCount 36 = .ok (.bipush 8, 2) := by decide +kernel
theorem d_bitCount_38 : decode b_bitCount 38 = .ok (.iushr, 1) := by decide +kernel
theorem d_bitCount_39 : decode b_bitCount 39 = .ok (.iadd, 1) := by decide +kernel
theorem d_bitCount_40 : decode b_bitCount 40 = .ok (.istore_n 0, 1) := by decide +kernel
theorem d_bitCount_41 : decode b_bitCount 41 = .ok (.iload_n 0, 1) := by decide +kernel
theorem d_bitCount_42 : decode b_bitCount 42 = .ok (.iload_n 0, 1) := by decide +kernel
theorem d_bitCount_43 : decode b_bitCount 43 = .ok (.bipush 16, 2) := by decide +kernel
theorem d_bitCount_45 : decode b_bitCount 45 = .ok (.iushr, 1) := by decide +kernel
theorem d_bitCount_46 : decode b_bitCount 46 = .ok (.iadd, 1) := by decide +kernel
theorem d_bitCount_47 : decode b_bitCount 47 = .ok (.istore_n 0, 1) := by decide +kernel
theorem d_bitCount_48 : decode b_bitCount 48 = .ok (.iload_n 0, 1) := by decide +kernel
theorem d_bitCount_49 : decode b_bitCount 49 = .ok (.bipush 63, 2) := by decide +kernel
theorem d_bitCount_51 : decode b_bitCount 51 = .ok (.iand, 1) := by decide +kernel
theorem d_bitCount_52 : decode b_bitCount 52 = .ok (.ireturn, 1) := by decide +kernel
theorem kc_265 {c0 : Cond} : Cond.constant "java/lang/Integer" 265 1431655765 ∈ c0 :: wX := List.mem_cons_of_mem _ (inX_0 (by decide +kernel))
theorem kc_266 {c0 : Cond} : Cond.constant "java/lang/Integer" 266 858993459 ∈ c0 :: wX := List.mem_cons_of_mem _ (inX_0 (by decide +kernel))
theorem kc_267 {c0 : Cond} : Cond.constant "java/lang/Integer" 267 252645135 ∈ c0 :: wX := List.mem_cons_of_mem _ (inX_0 (by decide +kernel))
set_option maxHeartbeats 4000000 in
set_option maxRecDepth 100000 in
theorem c_bitCount {l : Launch} {D : va_G} {cI cB cL : ClassId} {x : Int32} : zMet l y_bitCount w_bitCount rm_bitCount D zCl (zTy cI cB cL) [] [.int x] (qi0 [] (fun v => v = nI (num (fun i => bt x i) 32)) noX) 0 0 0 0 := by
  obtain ⟨n, hn, rfl⟩ := nI_all x
  obtain ⟨hle, i1, i2, i3, h1, h2, h3, l1, l2, l3, hall⟩ := bc_all hn
  refine z_meth (by decide) rfl (Nat.le_of_ble_eq_true rfl) (fun p e s mm as bl me cd Z hr hnm ht => ?_)
  refine z_iload_n Z 0 d_bitCount_0 rfl rfl ?_
  refine z_iload_n Z 0 d_bitCount_1 rfl rfl ?_
  refine z_iconst Z (nI 1) d_bitCount_2 zi_1 ?_
  refine z_iushrN Z d_bitCount_3 hn (by decide) ?_
  refine z_ldcw Z kc_265 d_bitCount_4 ?_
  refine z_eqi (y := nI 1431655765) rfl ?_
  refine z_iandN Z d_bitCount_7 ?_
  refine z_isubN Z d_bitCount_8 hle ?_
  refine z_eqi (y := nI i1) (by rw [h1]) ?_
  refine z_istore_n Z 0 d_bitCount_9 rfl (by decide) rfl ?_
  refine z_iload_n Z 0 d_bitCount_10 rfl rfl ?_
  refine z_ldcw Z kc_266 d_bitCount_11 ?_
  refine z_eqi (y := nI 858993459) rfl ?_
  refine z_iandN Z d_bitCount_14 ?_
  refine z_iload_n Z 0 d_bitCount_15 rfl rfl ?_
  refine z_iconst Z (nI 2) d_bitCount_16 zi_2 ?_
  refine z_iushrN Z d_bitCount_17 l1 (by decide) ?_
  refine z_ldcw Z kc_266 d_bitCount_18 ?_
  refine z_eqi (y := nI 858993459) rfl ?_
  refine z_iandN Z d_bitCount_21 ?_
  refine z_iaddN Z d_bitCount_22 ?_
  refine z_eqi (y := nI i2) (by rw [h2]) ?_
  refine z_istore_n Z 0 d_bitCount_23 rfl (by decide) rfl ?_
  refine z_iload_n Z 0 d_bitCount_24 rfl rfl ?_
  refine z_iload_n Z 0 d_bitCount_25 rfl rfl ?_
  refine z_iconst Z (nI 4) d_bitCount_26 zi_4 ?_
  refine z_iushrN Z d_bitCount_27 (by omega) (by decide) ?_
  refine z_iaddN Z d_bitCount_28 ?_
  refine z_ldcw Z kc_267 d_bitCount_29 ?_
  refine z_eqi (y := nI 252645135) rfl ?_
  refine z_iandN Z d_bitCount_32 ?_
  refine z_eqi (y := nI i3) (by rw [h3]) ?_
  refine z_istore_n Z 0 d_bitCount_33 rfl (by decide) rfl ?_
  refine z_iload_n Z 0 d_bitCount_34 rfl rfl ?_
  refine z_iload_n Z 0 d_bitCount_35 rfl rfl ?_
  refine z_bipush Z (nI 8) d_bitCount_36 (by decide) ?_
  refine z_iushrN Z d_bitCount_38 (by omega) (by decide) ?_
  refine z_iaddN Z d_bitCount_39 ?_
  refine z_istore_n Z 0 d_bitCount_40 rfl (by decide) rfl ?_
  refine z_iload_n Z 0 d_bitCount_41 rfl rfl ?_
  refine z_iload_n Z 0 d_bitCount_42 rfl rfl ?_
  refine z_bipush Z (nI 16) d_bitCount_43 (by decide) ?_
  refine z_iushrN Z d_bitCount_45 (by omega) (by decide) ?_
  refine z_iaddN Z d_bitCount_46 ?_
  refine z_istore_n Z 0 d_bitCount_47 rfl (by decide) rfl ?_
  refine z_iload_n Z 0 d_bitCount_48 rfl rfl ?_
  refine z_bipush Z (nI 63) d_bitCount_49 (by decide) ?_
  refine z_iandN Z d_bitCount_51 ?_
  refine z_ri0 Z hr rfl d_bitCount_52 (by decide) (by decide) ?_
  rw [num_congr (fun i hi => bt_nI i hi), ← hall]
