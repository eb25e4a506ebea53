/-! the reference: a thing is a cell whose kind isn't -1 -/
def th (σ : St) (k : Nat) : St := va_up σ 0 (upd (σ 0) 0 (nI k))
theorem wf_th {σ : St} {k : Nat} (h : wf σ) : wf (th σ k) := h
def tM (σ : St) (x : Int32) : Prop := ∃ c, c < 24 ∧ x = nI c ∧ ¬ σ 1 c < 0
theorem tM_nI {σ : St} {c : Nat} (hc : c < 24) : tM σ (nI c) ↔ ¬ σ 1 c < 0 := by
  constructor
  · rintro ⟨d, hd, e, h⟩
    rw [(nI_eq (by omega) (by omega)).mp e]; exact h
  · intro h; exact ⟨c, hc, rfl, h⟩
theorem tM_neg {σ : St} {x : Int32} (h : x < 0) : ¬ tM σ x := by
  rintro ⟨c, hc, rfl, -⟩
  exact nI_pos (by omega) h
theorem tM_big {σ : St} {x : Int32} (h : nI 24 ≤ x) : ¬ tM σ x := by
  rintro ⟨c, hc, rfl, -⟩
  exact nI_ge hc (by decide) h
theorem inNg {x : Int32} {n : Nat} (h0 : ¬ x < 0) (h : ¬ nI n ≤ x) (hn : n < 2 ^ 31 := by decide) : ∃ j, j < n ∧ x = nI j := by
  obtain ⟨j, hj, rfl⟩ := nI_of h0
  exact ⟨j, Nat.not_le.mp (fun q => h ((nI_leI hn hj).mpr q)), rfl⟩
theorem le0 {x : Int32} (h : ¬ x < 0) : 0 ≤ x := Int32.not_lt.mp h
theorem lt0 {x : Int32} (h : x < 0) : ¬ 0 ≤ x := Int32.not_le.mpr h
/-- where the reference finds a key among the first n entries: the last place -/
def eoM (σ : St) (c : Nat) (k : Int32) (n : Nat) (v : Int32) : Prop := (∃ i, i < n ∧ v = nI (c * 4 + i) ∧ σ 4 (c * 4 + i) = k ∧ ∀ j, i < j → j < n → σ 4 (c * 4 + j) ≠ k) ∨ (v = -1 ∧ ∀ j, j < n → σ 4 (c * 4 + j) ≠ k)
theorem eoM_no {σ : St} {c n : Nat} {k v : Int32} (h : eoM σ c k n v) (hk : ¬ σ 4 (c * 4 + n) = k) : eoM σ c k (n + 1) v := by
  rcases h with ⟨i, h1, h2, h3, h4⟩ | ⟨h1, h2⟩
  · refine Or.inl ⟨i, by omega, h2, h3, fun j ha hb => ?_⟩
    by_cases e : j = n
    · rw [e]; exact hk
    · exact h4 j ha (by omega)
  · refine Or.inr ⟨h1, fun j hj => ?_⟩
    by_cases e : j = n
    · rw [e]; exact hk
    · exact h2 j (by omega)
theorem eoM_yes {σ : St} {c n : Nat} {k : Int32} (hk : σ 4 (c * 4 + n) = k) : eoM σ c k (n + 1) (nI (c * 4 + n)) := Or.inl ⟨n, by omega, rfl, hk, fun j h1 h2 => by omega⟩
theorem eoM_ge {σ : St} {c n : Nat} {k v : Int32} (h : eoM σ c k n v) (h0 : 0 ≤ v) : ∃ i, i < n ∧ v = nI (c * 4 + i) ∧ σ 4 (c * 4 + i) = k ∧ ∀ j, i < j → j < n → σ 4 (c * 4 + j) ≠ k :=
  h.resolve_right (fun q => by rw [q.1] at h0; exact absurd h0 (by decide))
theorem eoM_lt {σ : St} {c n : Nat} {k v : Int32} (h : eoM σ c k n v) (h0 : ¬ 0 ≤ v) (hn : n ≤ 4) (hc : c < 24) : ∀ j, j < n → σ 4 (c * 4 + j) ≠ k := by
  rcases h with ⟨i, h1, h2, -⟩ | h
  · exact absurd (by rw [h2]; exact nI_pos' (by omega)) h0
  · exact h.2
theorem eo_in {c i n : Nat} (hn : n ≤ 4) (hc : c < 24) (hi : i < n) : c * 4 + i < 96 := by omega
theorem tab_yes {σ : St} {x k : Int32} {v : Int32} {u : St} (h : (v = nI 1 ∧ tM σ x ∧ tM σ k ∧ isTab σ x ∧ u = th σ 0) ∨ (v = nI 0 ∧ (tM σ x ∧ tM σ k) ∧ ¬ isTab σ x ∧ u = th σ 2) ∨ (v = nI 0 ∧ ¬ (tM σ x ∧ tM σ k) ∧ u = th σ 1)) (e : ¬ v = 0) : tM σ x ∧ tM σ k ∧ isTab σ x ∧ u = th σ 0 := by
  rcases h with h | h | h
  · exact h.2
  · exact absurd h.1 e
  · exact absurd h.1 e
theorem tab_no {σ : St} {x k : Int32} {v : Int32} {u : St} (h : (v = nI 1 ∧ tM σ x ∧ tM σ k ∧ isTab σ x ∧ u = th σ 0) ∨ (v = nI 0 ∧ (tM σ x ∧ tM σ k) ∧ ¬ isTab σ x ∧ u = th σ 2) ∨ (v = nI 0 ∧ ¬ (tM σ x ∧ tM σ k) ∧ u = th σ 1)) (e : v = 0) : ((tM σ x ∧ tM σ k) ∧ ¬ isTab σ x ∧ u = th σ 2) ∨ (¬ (tM σ x ∧ tM σ k) ∧ u = th σ 1) := by
  rcases h with h | h | h
  · rw [h.1] at e; exact absurd e (by decide)
  · exact Or.inl h.2
  · exact Or.inr h.2
def fndM (σ : St) (x k v : Int32) (u : St) : Prop := (∃ c, c < 24 ∧ x = nI c ∧ tM σ x ∧ tM σ k ∧ σ 1 c = nI 2 ∧ u = th σ 0 ∧ ((∃ i, i < cnt σ c ∧ σ 4 (c * 4 + i) = k ∧ v = σ 5 (c * 4 + i)) ∨ ((∀ j, j < cnt σ c → σ 4 (c * 4 + j) ≠ k) ∧ v = -1))) ∨ ((tM σ x ∧ tM σ k) ∧ ¬ isTab σ x ∧ u = th σ 2) ∨ (¬ (tM σ x ∧ tM σ k) ∧ u = th σ 1)
theorem fnd_no {σ : St} {x k : Int32} {v : Int32} {u : St} {r : Int32} (h : (v = nI 1 ∧ tM σ x ∧ tM σ k ∧ isTab σ x ∧ u = th σ 0) ∨ (v = nI 0 ∧ (tM σ x ∧ tM σ k) ∧ ¬ isTab σ x ∧ u = th σ 2) ∨ (v = nI 0 ∧ ¬ (tM σ x ∧ tM σ k) ∧ u = th σ 1)) (e : v = 0) : fndM σ x k r u := Or.inr (tab_no h e)
def remM (σ : St) (x k v : Int32) (u : St) : Prop := (∃ c, c < 24 ∧ x = nI c ∧ tM σ x ∧ tM σ k ∧ σ 1 c = nI 2 ∧ ((∃ i, i < cnt σ c ∧ σ 4 (c * 4 + i) = k ∧ v = nI 1 ∧ u = drp (th σ 0) c i) ∨ ((∀ j, j < cnt σ c → σ 4 (c * 4 + j) ≠ k) ∧ v = nI 0 ∧ u = th σ 0))) ∨ ((tM σ x ∧ tM σ k) ∧ ¬ isTab σ x ∧ u = th σ 2) ∨ (¬ (tM σ x ∧ tM σ k) ∧ u = th σ 1)
theorem rem_no {σ : St} {x k : Int32} {v : Int32} {u : St} {r : Int32} (h : (v = nI 1 ∧ tM σ x ∧ tM σ k ∧ isTab σ x ∧ u = th σ 0) ∨ (v = nI 0 ∧ (tM σ x ∧ tM σ k) ∧ ¬ isTab σ x ∧ u = th σ 2) ∨ (v = nI 0 ∧ ¬ (tM σ x ∧ tM σ k) ∧ u = th σ 1)) (e : v = 0) : remM σ x k r u := Or.inr (tab_no h e)
set_option maxHeartbeats 4000000 in
set_option maxRecDepth 100000 in
theorem c_m_thrown {l : Launch} {D : va_G} {cI cB cL : ClassId} {h : Nat → Nat} {σ : St}  : zMet l y_m_thrown w_m_thrown rm_m_thrown D zCl (zTy cI cB cL) (wm h cI cB σ) [.ref (h 0)] (qi0 (wm h cI cB σ) (fun v => v = σ 0 0) noX) 0 0 0 0 := by
  refine z_meth (by decide) rfl (Nat.le_of_ble_eq_true rfl) (fun p e s mm as bl me cd Z hr hnm ht => ?_)
  refine z_aload_n Z 0 d_m_thrown_0 rfl rfl ?_
  refine mn_0 Z d_m_thrown_1 ?_
  refine z_ri0 Z hr rfl d_m_thrown_4 (by decide) (by decide) ?_
  rfl
set_option maxHeartbeats 4000000 in
set_option maxRecDepth 100000 in
theorem c_m_isThing {l : Launch} {D : va_G} {cI cB cL : ClassId} {h : Nat → Nat} {σ : St} {x : Int32} : zMet l y_m_isThing w_m_isThing rm_m_isThing D zCl (zTy cI cB cL) (wm h cI cB σ) [.ref (h 0), .int x] (qi0 (wm h cI cB σ) (fun v => (v = nI 1 ∧ tM σ x) ∨ (v = nI 0 ∧ ¬ tM σ x)) noX) 0 0 0 0 := by
  refine z_meth (by decide) rfl (Nat.le_of_ble_eq_true rfl) (fun p e s mm as bl me cd Z hr hnm ht => ?_)
  refine z_iload_n Z 1 d_m_isThing_0 rfl rfl ?_
  refine z_if_lt Z 23 d_m_isThing_1 (by decide) (fun h1 => ?_) (fun h1 => ?_)
  · refine z_iconst Z (nI 0) d_m_isThing_23 zi_0 ?_
    refine z_ri0 Z hr rfl d_m_isThing_24 (by decide) (by decide) ?_
    exact Or.inr ⟨rfl, tM_neg h1⟩
  · refine z_iload_n Z 1 d_m_isThing_4 rfl rfl ?_
    refine z_bipush Z (nI 24) d_m_isThing_5 zb_24 ?_
    refine z_icmp_ge Z 23 d_m_isThing_7 (by decide) (fun h7 => ?_) (fun h7 => ?_)
    · refine z_iconst Z (nI 0) d_m_isThing_23 zi_0 ?_
      refine z_ri0 Z hr rfl d_m_isThing_24 (by decide) (by decide) ?_
      exact Or.inr ⟨rfl, tM_big h7⟩
    · obtain ⟨c, hc, rfl⟩ := in24 h1 h7
      refine z_aload_n Z 0 d_m_isThing_10 rfl rfl ?_
      refine mg_1 Z d_m_isThing_11 ?_
      refine z_iload_n Z 1 d_m_isThing_14 rfl rfl ?_
      refine ml_1 Z (by omega) d_m_isThing_15 ?_
      refine z_if_lt Z 23 d_m_isThing_16 (by decide) (fun h16 => ?_) (fun h16 => ?_)
      · refine z_iconst Z (nI 0) d_m_isThing_23 zi_0 ?_
        refine z_ri0 Z hr rfl d_m_isThing_24 (by decide) (by decide) ?_
        exact Or.inr ⟨rfl, fun q => (tM_nI hc).mp q h16⟩
      · refine z_iconst Z (nI 1) d_m_isThing_19 zi_1 ?_
        refine z_goto Z 24 d_m_isThing_20 (by decide) ?_
        refine z_ri0 Z hr rfl d_m_isThing_24 (by decide) (by decide) ?_
        exact Or.inl ⟨rfl, (tM_nI hc).mpr h16⟩
set_option maxHeartbeats 4000000 in
set_option maxRecDepth 100000 in
theorem c_m_isRoot {l : Launch} {D : va_G} {cI cB cL : ClassId} {r : Int32} : zMet l y_m_isRoot w_m_isRoot rm_m_isRoot D zCl (zTy cI cB cL) [] [.int r] (qi0 [] (fun v => (v = nI 1 ∧ isR r) ∨ (v = nI 0 ∧ ¬ isR r)) noX) 0 0 0 0 := by
  refine z_meth (by decide) rfl (Nat.le_of_ble_eq_true rfl) (fun p e s mm as bl me cd Z hr hnm ht => ?_)
  refine z_iload_n Z 0 d_m_isRoot_0 rfl rfl ?_
  refine z_if_lt Z 14 d_m_isRoot_1 (by decide) (fun h1 => ?_) (fun h1 => ?_)
  · refine z_iconst Z (nI 0) d_m_isRoot_14 zi_0 ?_
    refine z_ri0 Z hr rfl d_m_isRoot_15 (by decide) (by decide) ?_
    exact Or.inr ⟨rfl, fun ⟨j, hj, q⟩ => nI_pos (by omega) (q ▸ h1)⟩
  · refine z_iload_n Z 0 d_m_isRoot_4 rfl rfl ?_
    refine z_bipush Z (nI 6) d_m_isRoot_5 zb_6 ?_
    refine z_icmp_ge Z 14 d_m_isRoot_7 (by decide) (fun h7 => ?_) (fun h7 => ?_)
    · refine z_iconst Z (nI 0) d_m_isRoot_14 zi_0 ?_
      refine z_ri0 Z hr rfl d_m_isRoot_15 (by decide) (by decide) ?_
      exact Or.inr ⟨rfl, fun ⟨j, hj, q⟩ => nI_ge hj (by decide) (q ▸ h7)⟩
    · refine z_iconst Z (nI 1) d_m_isRoot_10 zi_1 ?_
      refine z_goto Z 15 d_m_isRoot_11 (by decide) ?_
      refine z_ri0 Z hr rfl d_m_isRoot_15 (by decide) (by decide) ?_
      exact Or.inl ⟨rfl, inNg h1 h7⟩
set_option maxHeartbeats 4000000 in
set_option maxRecDepth 100000 in
theorem c_m_isField {l : Launch} {D : va_G} {cI cB cL : ClassId} {h : Nat → Nat} {σ : St} {c : Nat} (hc : c < 24) {f : Int32} : zMet l y_m_isField w_m_isField rm_m_isField D zCl (zTy cI cB cL) (wm h cI cB σ) [.ref (h 0), .int (nI c), .int f] (qi0 (wm h cI cB σ) (fun v => (v = nI 1 ∧ ∃ j, j < fc (σ 1 c) ∧ f = nI j) ∨ (v = nI 0 ∧ ¬ ∃ j, j < fc (σ 1 c) ∧ f = nI j)) noX) 0 0 0 0 := by
  refine z_meth (by decide) rfl (Nat.le_of_ble_eq_true rfl) (fun p e s mm as bl me cd Z hr hnm ht => ?_)
  refine z_iload_n Z 2 d_m_isField_0 rfl rfl ?_
  refine z_if_lt Z 36 d_m_isField_1 (by decide) (fun h1 => ?_) (fun h1 => ?_)
  · refine z_iconst Z (nI 0) d_m_isField_36 zi_0 ?_
    refine z_ri0 Z hr rfl d_m_isField_37 (by decide) (by decide) ?_
    exact Or.inr ⟨rfl, fun ⟨j, hj, q⟩ => nI_pos (fc_lt hj) (q ▸ h1)⟩
  · refine z_aload_n Z 0 d_m_isField_4 rfl rfl ?_
    refine mg_1 Z d_m_isField_5 ?_
    refine z_iload_n Z 1 d_m_isField_8 rfl rfl ?_
    refine ml_1 Z (by omega) d_m_isField_9 ?_
    refine z_if_ne Z 18 d_m_isField_10 (by decide) (fun h10 => ?_) (fun h10 => ?_)
    · refine z_aload_n Z 0 d_m_isField_18 rfl rfl ?_
      refine mg_1 Z d_m_isField_19 ?_
      refine z_iload_n Z 1 d_m_isField_22 rfl rfl ?_
      refine ml_1 Z (by omega) d_m_isField_23 ?_
      refine z_iconst Z (nI 1) d_m_isField_24 zi_1 ?_
      refine z_icmp_ne Z 36 d_m_isField_25 (by decide) (fun h25 => ?_) (fun h25 => ?_)
      · refine z_iconst Z (nI 0) d_m_isField_36 zi_0 ?_
        refine z_ri0 Z hr rfl d_m_isField_37 (by decide) (by decide) ?_
        rw [show fc (σ 1 c) = 0 by unfold fc; rw [if_neg h10, if_neg (show ¬ σ 1 c = 1 from h25)]]
        exact Or.inr ⟨rfl, fun ⟨j, hj, q⟩ => absurd hj (Nat.not_lt_zero _)⟩
      · refine z_iload_n Z 2 d_m_isField_28 rfl rfl ?_
        refine z_if_ne Z 36 d_m_isField_29 (by decide) (fun h29 => ?_) (fun h29 => ?_)
        · refine z_iconst Z (nI 0) d_m_isField_36 zi_0 ?_
          refine z_ri0 Z hr rfl d_m_isField_37 (by decide) (by decide) ?_
          rw [show fc (σ 1 c) = 1 by unfold fc; rw [if_neg h10, if_pos (show σ 1 c = 1 from h25)]]
          exact Or.inr ⟨rfl, fun ⟨j, hj, q⟩ => h29 (by rw [q, show j = 0 by omega]; rfl)⟩
        · refine z_iconst Z (nI 1) d_m_isField_32 zi_1 ?_
          refine z_goto Z 37 d_m_isField_33 (by decide) ?_
          refine z_ri0 Z hr rfl d_m_isField_37 (by decide) (by decide) ?_
          rw [show fc (σ 1 c) = 1 by unfold fc; rw [if_neg h10, if_pos (show σ 1 c = 1 from h25)]]
          exact Or.inl ⟨rfl, 0, by decide, h29⟩
    · refine z_iload_n Z 2 d_m_isField_13 rfl rfl ?_
      refine z_iconst Z (nI 3) d_m_isField_14 zi_3 ?_
      refine z_icmp_lt Z 32 d_m_isField_15 (by decide) (fun h15 => ?_) (fun h15 => ?_)
      · refine z_iconst Z (nI 1) d_m_isField_32 zi_1 ?_
        refine z_goto Z 37 d_m_isField_33 (by decide) ?_
        refine z_ri0 Z hr rfl d_m_isField_37 (by decide) (by decide) ?_
        rw [show fc (σ 1 c) = 3 by rw [h10]; rfl]
        exact Or.inl ⟨rfl, inN h1 h15⟩
      · refine z_aload_n Z 0 d_m_isField_18 rfl rfl ?_
        refine mg_1 Z d_m_isField_19 ?_
        refine z_iload_n Z 1 d_m_isField_22 rfl rfl ?_
        refine ml_1 Z (by omega) d_m_isField_23 ?_
        refine z_iconst Z (nI 1) d_m_isField_24 zi_1 ?_
        refine z_icmp_ne Z 36 d_m_isField_25 (by decide) (fun h25 => ?_) (fun hx => absurd hx (show ¬ σ 1 c = nI 1 by rw [h10]; decide))
        refine z_iconst Z (nI 0) d_m_isField_36 zi_0 ?_
        refine z_ri0 Z hr rfl d_m_isField_37 (by decide) (by decide) ?_
        rw [show fc (σ 1 c) = 3 by rw [h10]; rfl]
        exact Or.inr ⟨rfl, fun ⟨j, hj, q⟩ => h15 (by rw [q]; exact nI_lt hj (by decide))⟩
set_option maxHeartbeats 4000000 in
set_option maxRecDepth 100000 in
theorem c_m_lose {l : Launch} {D : va_G} {cI cB cL : ClassId} {h : Nat → Nat} {σ : St} {c : Nat} (hc : c < 24) : zMet l y_m_lose w_m_lose rm_m_lose D zCl (zTy cI cB cL) (wm h cI cB σ) [.ref (h 0), .int (nI c)] (qv (wm h cI cB) (fun u => u = emp σ c) noXs) 0 0 0 0 := by
  refine z_meth (by decide) rfl (Nat.le_of_ble_eq_true rfl) (fun p e s mm as bl me cd Z hr hnm ht => ?_)
  refine z_iconst Z (nI 0) d_m_lose_0 zi_0 ?_
  refine z_istore_n Z 2 d_m_lose_1 rfl (by decide) rfl ?_
  refine z_lv (lv' := [(0, .ref (h 0)), (1, .int (nI c)), (2, .int (nI 0))]) rfl ?_
  refine z_ws (ws' := wm h cI cB (va_up σ 3 (empF (σ 3) c 0))) rfl ?_
  refine z_loop (fun i : Nat => i ≤ 3) (fun i : Nat => 3 - i) (fun i : Nat => wm h cI cB (va_up σ 3 (empF (σ 3) c i))) (fun i : Nat => [(0, .ref (h 0)), (1, .int (nI c)), (2, .int (nI i))]) (fun i hi ih => ?_) 0 (by omega)
  refine z_iload_n Z 2 d_m_lose_2 rfl rfl ?_
  refine z_iconst Z (nI 3) d_m_lose_3 zi_3 ?_
  refine z_icmpN_ge Z 24 d_m_lose_4 (by decide) (by omega) (by omega) (fun h4 => ?_) (fun h4 => ?_)
  · obtain rfl : i = 3 := by omega
    refine z_aload_n Z 0 d_m_lose_24 rfl rfl ?_
    refine mg_6 Z d_m_lose_25 ?_
    refine z_iload_n Z 1 d_m_lose_28 rfl rfl ?_
    refine z_iconst Z (nI 0) d_m_lose_29 zi_0 ?_
    refine ms_6 Z (by omega) d_m_lose_30 ?_
    refine z_rv Z _ hr d_m_lose_31 (by decide) (by decide) rfl ?_
    rfl
  · refine z_aload_n Z 0 d_m_lose_7 rfl rfl ?_
    refine mg_3 Z d_m_lose_8 ?_
    refine z_iconst Z (nI 3) d_m_lose_11 zi_3 ?_
    refine z_iload_n Z 1 d_m_lose_12 rfl rfl ?_
    refine z_imulN Z d_m_lose_13 ?_
    refine z_iload_n Z 2 d_m_lose_14 rfl rfl ?_
    refine z_iaddN Z d_m_lose_15 ?_
    refine z_eqi (y := nI (c * 3 + i)) (by rw [Nat.mul_comm]) ?_
    refine z_iconst Z (-1) d_m_lose_16 zi_m1 ?_
    refine ms_3 Z (by omega) d_m_lose_17 ?_
    refine z_iincN Z 2 d_m_lose_18 rfl (by decide) rfl ?_
    refine z_goto Z 2 d_m_lose_21 (by decide) ?_
    exact z_ws rfl (z_lv rfl (ih (i + 1) (by omega) (by omega)))
set_option maxHeartbeats 4000000 in
set_option maxRecDepth 100000 in
theorem c_m_entryOf {l : Launch} {D : va_G} {cI cB cL : ClassId} {h : Nat → Nat} {σ : St} (hw : wf σ) {c : Nat} (hc : c < 24) {k : Int32} : zMet l y_m_entryOf w_m_entryOf rm_m_entryOf D zCl (zTy cI cB cL) (wm h cI cB σ) [.ref (h 0), .int (nI c), .int k] (qi0 (wm h cI cB σ) (fun v => eoM σ c k (cnt σ c) v) noX) 0 0 0 0 := by
  have e6 : σ 6 c = nI (cnt σ c) := (wf_cnt hw hc).2
  have n6 : cnt σ c ≤ 4 := (wf_cnt hw hc).1
  refine z_meth (by decide) rfl (Nat.le_of_ble_eq_true rfl) (fun p e s mm as bl me cd Z hr hnm ht => ?_)
  refine z_iconst Z (-1) d_m_entryOf_0 zi_m1 ?_
  refine z_istore_n Z 3 d_m_entryOf_1 rfl (by decide) rfl ?_
  refine z_iconst Z (nI 0) d_m_entryOf_2 zi_0 ?_
  refine z_istore Z 4 d_m_entryOf_3 (by decide) rfl ?_
  refine z_lv (lv' := [(0, .ref (h 0)), (1, .int (nI c)), (2, .int k), (3, .int (-1)), (4, .int (nI 0))]) rfl ?_
  refine z_loop (fun q : Nat × Int32 => q.1 ≤ cnt σ c ∧ eoM σ c k q.1 q.2) (fun q : Nat × Int32 => cnt σ c - q.1) (fun q : Nat × Int32 => wm h cI cB σ) (fun q : Nat × Int32 => [(0, .ref (h 0)), (1, .int (nI c)), (2, .int k), (3, .int q.2), (4, .int (nI q.1))]) (fun q hi ih => ?_) (0, -1) ⟨by omega, Or.inr ⟨rfl, fun j hj => absurd hj (Nat.not_lt_zero _)⟩⟩
  obtain ⟨i, y⟩ := q
  dsimp only at hi ih ⊢
  refine z_iload Z 4 d_m_entryOf_5 rfl ?_
  refine z_aload_n Z 0 d_m_entryOf_7 rfl rfl ?_
  refine mg_6 Z d_m_entryOf_8 ?_
  refine z_iload_n Z 1 d_m_entryOf_11 rfl rfl ?_
  refine ml_6 Z (by omega) d_m_entryOf_12 ?_
  refine z_eqi e6 ?_
  refine z_icmpN_ge Z 48 d_m_entryOf_13 (by decide) (by omega) (by omega) (fun h13 => ?_) (fun h13 => ?_)
  · refine z_iload_n Z 3 d_m_entryOf_48 rfl rfl ?_
    refine z_ri0 Z hr rfl d_m_entryOf_49 (by decide) (by decide) ?_
    obtain rfl : i = cnt σ c := by omega
    exact hi.2
  · refine z_aload_n Z 0 d_m_entryOf_16 rfl rfl ?_
    refine mg_4 Z d_m_entryOf_17 ?_
    refine z_iconst Z (nI 4) d_m_entryOf_20 zi_4 ?_
    refine z_iload_n Z 1 d_m_entryOf_21 rfl rfl ?_
    refine z_imulN Z d_m_entryOf_22 ?_
    refine z_iload Z 4 d_m_entryOf_23 rfl ?_
    refine z_iaddN Z d_m_entryOf_25 ?_
    refine z_eqi (y := nI (c * 4 + i)) (by rw [Nat.mul_comm]) ?_
    refine ml_4 Z (by omega) d_m_entryOf_26 ?_
    refine z_iload_n Z 2 d_m_entryOf_27 rfl rfl ?_
    refine z_icmp_ne Z 40 d_m_entryOf_28 (by decide) (fun h28 => ?_) (fun h28 => ?_)
    · refine z_iload_n Z 3 d_m_entryOf_40 rfl rfl ?_
      refine z_istore_n Z 3 d_m_entryOf_41 rfl (by decide) rfl ?_
      refine z_iincN Z 4 d_m_entryOf_42 rfl (by decide) rfl ?_
      refine z_goto Z 5 d_m_entryOf_45 (by decide) ?_
      exact z_lv rfl (ih (i + 1, y) ⟨by omega, eoM_no hi.2 h28⟩ (by dsimp only; omega))
    · refine z_iconst Z (nI 4) d_m_entryOf_31 zi_4 ?_
      refine z_iload_n Z 1 d_m_entryOf_32 rfl rfl ?_
      refine z_imulN Z d_m_entryOf_33 ?_
      refine z_iload Z 4 d_m_entryOf_34 rfl ?_
      refine z_iaddN Z d_m_entryOf_36 ?_
      refine z_eqi (y := nI (c * 4 + i)) (by rw [Nat.mul_comm]) ?_
      refine z_goto Z 41 d_m_entryOf_37 (by decide) ?_
      refine z_istore_n Z 3 d_m_entryOf_41 rfl (by decide) rfl ?_
      refine z_iincN Z 4 d_m_entryOf_42 rfl (by decide) rfl ?_
      refine z_goto Z 5 d_m_entryOf_45 (by decide) ?_
      exact z_lv rfl (ih (i + 1, _) ⟨by omega, eoM_yes h28⟩ (by dsimp only; omega))
set_option maxHeartbeats 4000000 in
set_option maxRecDepth 100000 in
theorem c_m_dropEntry {l : Launch} {D : va_G} {cI cB cL : ClassId} {h : Nat → Nat} {σ : St} (hw : wf σ) {c : Nat} (hc : c < 24) {d : Nat} (hd : d < cnt σ c) : zMet l y_m_dropEntry w_m_dropEntry rm_m_dropEntry D zCl (zTy cI cB cL) (wm h cI cB σ) [.ref (h 0), .int (nI c), .int (nI (c * 4 + d))] (qv (wm h cI cB) (fun u => u = drp σ c d) noXs) 0 0 0 0 := by
  have e6 : σ 6 c = nI (cnt σ c) := (wf_cnt hw hc).2
  have n6 : cnt σ c ≤ 4 := (wf_cnt hw hc).1
  refine z_meth (by decide) rfl (Nat.le_of_ble_eq_true rfl) (fun p e s mm as bl me cd Z hr hnm ht => ?_)
  refine z_iload_n Z 2 d_m_dropEntry_0 rfl rfl ?_
  refine z_istore_n Z 3 d_m_dropEntry_1 rfl (by decide) rfl ?_
  refine z_lv (lv' := [(0, .ref (h 0)), (1, .int (nI c)), (2, .int (nI (c * 4 + d))), (3, .int (nI (c * 4 + d)))]) rfl ?_
  refine z_ws (ws' := wm h cI cB (dst σ c d d)) (by rw [dst_0]) ?_
  refine z_loop (fun i : Nat => d ≤ i ∧ i ≤ cnt σ c - 1) (fun i : Nat => cnt σ c - 1 - i) (fun i : Nat => wm h cI cB (dst σ c d i)) (fun i : Nat => [(0, .ref (h 0)), (1, .int (nI c)), (2, .int (nI (c * 4 + d))), (3, .int (nI (c * 4 + i)))]) (fun i hi ih => ?_) d ⟨by omega, by omega⟩
  refine z_iload_n Z 3 d_m_dropEntry_2 rfl rfl ?_
  refine z_iconst Z (nI 1) d_m_dropEntry_3 zi_1 ?_
  refine z_iaddN Z d_m_dropEntry_4 ?_
  refine z_iconst Z (nI 4) d_m_dropEntry_5 zi_4 ?_
  refine z_iload_n Z 1 d_m_dropEntry_6 rfl rfl ?_
  refine z_imulN Z d_m_dropEntry_7 ?_
  refine z_aload_n Z 0 d_m_dropEntry_8 rfl rfl ?_
  refine mg_6 Z d_m_dropEntry_9 ?_
  refine z_iload_n Z 1 d_m_dropEntry_12 rfl rfl ?_
  refine ml_6 Z (by omega) d_m_dropEntry_13 ?_
  refine z_eqi (y := nI (cnt σ c)) e6 ?_
  refine z_eqi2 (y := nI (c * 4)) (by rw [Nat.mul_comm]) ?_
  refine z_iaddN Z d_m_dropEntry_14 ?_
  refine z_icmpN_ge Z 52 d_m_dropEntry_15 (by decide) (by omega) (by omega) (fun h15 => ?_) (fun h15 => ?_)
  · obtain rfl : i = cnt σ c - 1 := by omega
    refine z_aload_n Z 0 d_m_dropEntry_52 rfl rfl ?_
    refine mg_6 Z d_m_dropEntry_53 ?_
    refine z_iload_n Z 1 d_m_dropEntry_56 rfl rfl ?_
    refine z_dup2 Z d_m_dropEntry_57 ?_
    refine ml_6 Z (by omega) d_m_dropEntry_58 ?_
    refine z_eqi (y := nI (cnt σ c)) e6 ?_
    refine z_iconst Z (nI 1) d_m_dropEntry_59 zi_1 ?_
    refine z_isubN Z d_m_dropEntry_60 (by omega) ?_
    refine ms_6 Z (by omega) d_m_dropEntry_61 ?_
    refine z_rv Z _ hr d_m_dropEntry_62 (by decide) (by decide) rfl ?_
    rfl
  · refine z_aload_n Z 0 d_m_dropEntry_18 rfl rfl ?_
    refine mg_4 Z d_m_dropEntry_19 ?_
    refine z_iload_n Z 3 d_m_dropEntry_22 rfl rfl ?_
    refine z_aload_n Z 0 d_m_dropEntry_23 rfl rfl ?_
    refine mg_4 Z d_m_dropEntry_24 ?_
    refine z_iload_n Z 3 d_m_dropEntry_27 rfl rfl ?_
    refine z_iconst Z (nI 1) d_m_dropEntry_28 zi_1 ?_
    refine z_iaddN Z d_m_dropEntry_29 ?_
    refine ml_4 Z (by omega) d_m_dropEntry_30 ?_
    refine ms_4 Z (by omega) d_m_dropEntry_31 ?_
    refine z_aload_n Z 0 d_m_dropEntry_32 rfl rfl ?_
    refine mg_5 Z d_m_dropEntry_33 ?_
    refine z_iload_n Z 3 d_m_dropEntry_36 rfl rfl ?_
    refine z_aload_n Z 0 d_m_dropEntry_37 rfl rfl ?_
    refine mg_5 Z d_m_dropEntry_38 ?_
    refine z_iload_n Z 3 d_m_dropEntry_41 rfl rfl ?_
    refine z_iconst Z (nI 1) d_m_dropEntry_42 zi_1 ?_
    refine z_iaddN Z d_m_dropEntry_43 ?_
    refine ml_5 Z (by omega) d_m_dropEntry_44 ?_
    refine ms_5 Z (by omega) d_m_dropEntry_45 ?_
    refine z_iincN Z 3 d_m_dropEntry_46 rfl (by decide) rfl ?_
    refine z_goto Z 2 d_m_dropEntry_49 (by decide) ?_
    refine z_ws (ws' := wm h cI cB (dst σ c d (i + 1))) (by rw [← dst_step hi.1]; rfl) ?_
    exact z_lv rfl (ih (i + 1) ⟨by omega, by omega⟩ (by omega))
set_option maxHeartbeats 4000000 in
set_option maxRecDepth 100000 in
theorem c_m_isTable {l : Launch} {D : va_G} {cI cB cL : ClassId} {h : Nat → Nat} {σ : St} {x k : Int32} : zMet l y_m_isTable w_m_isTable rm_m_isTable D zCl (zTy cI cB cL) (wm h cI cB σ) [.ref (h 0), .int x, .int k] (qi (wm h cI cB) (fun v u => (v = nI 1 ∧ tM σ x ∧ tM σ k ∧ isTab σ x ∧ u = th σ 0) ∨ (v = nI 0 ∧ (tM σ x ∧ tM σ k) ∧ ¬ isTab σ x ∧ u = th σ 2) ∨ (v = nI 0 ∧ ¬ (tM σ x ∧ tM σ k) ∧ u = th σ 1)) noXs) 0 0 0 0 := by
  refine z_meth (by decide) rfl (Nat.le_of_ble_eq_true rfl) (fun p e s mm as bl me cd Z hr hnm ht => ?_)
  refine z_aload_n Z 0 d_m_isTable_0 rfl rfl ?_
  refine z_aload_n Z 0 d_m_isTable_1 rfl rfl ?_
  refine z_iload_n Z 1 d_m_isTable_2 rfl rfl ?_
  refine z_Wi0 Z (c_m_isThing ) (ok_m_isThing _) rfl rfl ⟨by decide, by decide⟩ rfl rfl rfl rfl (Nat.le_of_ble_eq_true rfl) d_m_isTable_3 ⟨by decide, by decide⟩ (fun E h => h.elim) (fun v3 h3 => ?_)
  refine z_if_eq Z 17 d_m_isTable_6 (by decide) (fun h6 => ?_) (fun h6 => ?_)
  · refine z_iconst Z (nI 1) d_m_isTable_17 zi_1 ?_
    refine z_goto Z 36 d_m_isTable_18 (by decide) ?_
    refine mp_0 Z d_m_isTable_36 ?_
    refine z_aload_n Z 0 d_m_isTable_39 rfl rfl ?_
    refine mn_0 Z d_m_isTable_40 ?_
    refine z_if_ne Z 50 d_m_isTable_43 (by decide) (fun h43 => ?_) (fun hx => absurd hx (show ¬ (nI 1 : Int32) = 0 from by decide))
    refine z_iconst Z (nI 0) d_m_isTable_50 zi_0 ?_
    refine z_ri Z _ hr rfl d_m_isTable_51 (by decide) (by decide) rfl ?_
    exact Or.inr (Or.inr ⟨rfl, fun q => zB0 h3 h6 q.1, rfl⟩)
  · refine z_aload_n Z 0 d_m_isTable_9 rfl rfl ?_
    refine z_iload_n Z 2 d_m_isTable_10 rfl rfl ?_
    refine z_Wi0 Z (c_m_isThing ) (ok_m_isThing _) rfl rfl ⟨by decide, by decide⟩ rfl rfl rfl rfl (Nat.le_of_ble_eq_true rfl) d_m_isTable_11 ⟨by decide, by decide⟩ (fun E h => h.elim) (fun v11 h11 => ?_)
    refine z_if_ne Z 21 d_m_isTable_14 (by decide) (fun h14 => ?_) (fun h14 => ?_)
    · have hx := zB1 h3 h6
      obtain ⟨c, hc, rfl, hk⟩ := id hx
      refine z_aload_n Z 0 d_m_isTable_21 rfl rfl ?_
      refine mg_1 Z d_m_isTable_22 ?_
      refine z_iload_n Z 1 d_m_isTable_25 rfl rfl ?_
      refine ml_1 Z (by omega) d_m_isTable_26 ?_
      refine z_iconst Z (nI 2) d_m_isTable_27 zi_2 ?_
      refine z_icmp_eq Z 35 d_m_isTable_28 (by decide) (fun h28 => ?_) (fun h28 => ?_)
      · refine z_iconst Z (nI 0) d_m_isTable_35 zi_0 ?_
        refine mp_0 Z d_m_isTable_36 ?_
        refine z_aload_n Z 0 d_m_isTable_39 rfl rfl ?_
        refine mn_0 Z d_m_isTable_40 ?_
        refine z_if_ne Z 50 d_m_isTable_43 (by decide) (fun hx => absurd hx (fun q => q rfl)) (fun h43 => ?_)
        refine z_iconst Z (nI 1) d_m_isTable_46 zi_1 ?_
        refine z_goto Z 51 d_m_isTable_47 (by decide) ?_
        refine z_ri Z _ hr rfl d_m_isTable_51 (by decide) (by decide) rfl ?_
        exact Or.inl ⟨rfl, hx, zB1 h11 h14, (isTab_nI hc).mpr h28, rfl⟩
      · refine z_iconst Z (nI 2) d_m_isTable_31 zi_2 ?_
        refine z_goto Z 36 d_m_isTable_32 (by decide) ?_
        refine mp_0 Z d_m_isTable_36 ?_
        refine z_aload_n Z 0 d_m_isTable_39 rfl rfl ?_
        refine mn_0 Z d_m_isTable_40 ?_
        refine z_if_ne Z 50 d_m_isTable_43 (by decide) (fun h43 => ?_) (fun hx => absurd hx (show ¬ (nI 2 : Int32) = 0 from by decide))
        refine z_iconst Z (nI 0) d_m_isTable_50 zi_0 ?_
        refine z_ri Z _ hr rfl d_m_isTable_51 (by decide) (by decide) rfl ?_
        exact Or.inr (Or.inl ⟨rfl, ⟨hx, zB1 h11 h14⟩, fun q => h28 ((isTab_nI hc).mp q), rfl⟩)
    · refine z_iconst Z (nI 1) d_m_isTable_17 zi_1 ?_
      refine z_goto Z 36 d_m_isTable_18 (by decide) ?_
      refine mp_0 Z d_m_isTable_36 ?_
      refine z_aload_n Z 0 d_m_isTable_39 rfl rfl ?_
      refine mn_0 Z d_m_isTable_40 ?_
      refine z_if_ne Z 50 d_m_isTable_43 (by decide) (fun h43 => ?_) (fun hx => absurd hx (show ¬ (nI 1 : Int32) = 0 from by decide))
      refine z_iconst Z (nI 0) d_m_isTable_50 zi_0 ?_
      refine z_ri Z _ hr rfl d_m_isTable_51 (by decide) (by decide) rfl ?_
      exact Or.inr (Or.inr ⟨rfl, fun q => zB0 h11 h14 q.2, rfl⟩)
set_option maxHeartbeats 4000000 in
set_option maxRecDepth 100000 in
theorem c_m_find {l : Launch} {D : va_G} {cI cB cL : ClassId} {h : Nat → Nat} {σ : St} (hw : wf σ) {x k : Int32} : zMet l y_m_find w_m_find rm_m_find D zCl (zTy cI cB cL) (wm h cI cB σ) [.ref (h 0), .int x, .int k] (qi (wm h cI cB) (fun v u => fndM σ x k v u) noXs) 0 0 0 0 := by
  refine z_meth (by decide) rfl (Nat.le_of_ble_eq_true rfl) (fun p e s mm as bl me cd Z hr hnm ht => ?_)
  refine z_aload_n Z 0 d_m_find_0 rfl rfl ?_
  refine z_iload_n Z 1 d_m_find_1 rfl rfl ?_
  refine z_iload_n Z 2 d_m_find_2 rfl rfl ?_
  refine z_Wi Z (c_m_isTable ) (ok_m_isTable _) rfl rfl ⟨by decide, by decide⟩ rfl rfl rfl rfl (Nat.le_of_ble_eq_true rfl) d_m_find_3 ⟨by decide, by decide⟩ (fun E u h => h.elim) (fun v3 u3 h3 => ?_)
  refine z_if_ne Z 11 d_m_find_6 (by decide) (fun h6 => ?_) (fun h6 => ?_)
  · obtain ⟨hx, hk, ⟨c, hc, rfl, h2⟩, rfl⟩ := tab_yes h3 h6
    refine z_aload_n Z 0 d_m_find_11 rfl rfl ?_
    refine z_iload_n Z 1 d_m_find_12 rfl rfl ?_
    refine z_iload_n Z 2 d_m_find_13 rfl rfl ?_
    refine z_Wi0 Z (c_m_entryOf (wf_th hw) hc) (ok_m_entryOf _) rfl rfl ⟨by decide, by decide⟩ rfl rfl rfl rfl (Nat.le_of_ble_eq_true rfl) d_m_find_14 ⟨by decide, by decide⟩ (fun E h => h.elim) (fun v14 h14 => ?_)
    refine z_istore_n Z 3 d_m_find_17 rfl (by decide) rfl ?_
    refine z_iload_n Z 3 d_m_find_18 rfl rfl ?_
    refine z_if_ge Z 26 d_m_find_19 (by decide) (fun h19 => ?_) (fun h19 => ?_)
    · obtain ⟨i, hi, rfl, ek, hl⟩ := eoM_ge h14 h19
      refine z_aload_n Z 0 d_m_find_26 rfl rfl ?_
      refine mg_5 Z d_m_find_27 ?_
      refine z_iload_n Z 3 d_m_find_30 rfl rfl ?_
      refine ml_5 Z (eo_in (wf_cnt hw hc).1 hc hi) d_m_find_31 ?_
      refine z_ri Z _ hr rfl d_m_find_32 (by decide) (by decide) rfl ?_
      exact Or.inl ⟨c, hc, rfl, hx, hk, h2, rfl, Or.inl ⟨i, hi, ek, rfl⟩⟩
    · refine z_iconst Z (-1) d_m_find_22 zi_m1 ?_
      refine z_goto Z 32 d_m_find_23 (by decide) ?_
      refine z_ri Z _ hr rfl d_m_find_32 (by decide) (by decide) rfl ?_
      exact Or.inl ⟨c, hc, rfl, hx, hk, h2, rfl, Or.inr ⟨eoM_lt h14 h19 (wf_cnt hw hc).1 hc, rfl⟩⟩
  · refine z_iconst Z (nI 0) d_m_find_9 zi_0 ?_
    refine z_ri Z _ hr rfl d_m_find_10 (by decide) (by decide) rfl ?_
    exact fnd_no h3 h6
set_option maxHeartbeats 4000000 in
set_option maxRecDepth 100000 in
theorem c_m_remove {l : Launch} {D : va_G} {cI cB cL : ClassId} {h : Nat → Nat} {σ : St} (hw : wf σ) {x k : Int32} : zMet l y_m_remove w_m_remove rm_m_remove D zCl (zTy cI cB cL) (wm h cI cB σ) [.ref (h 0), .int x, .int k] (qi (wm h cI cB) (fun v u => remM σ x k v u) noXs) 0 0 0 0 := by
  refine z_meth (by decide) rfl (Nat.le_of_ble_eq_true rfl) (fun p e s mm as bl me cd Z hr hnm ht => ?_)
  refine z_aload_n Z 0 d_m_remove_0 rfl rfl ?_
  refine z_iload_n Z 1 d_m_remove_1 rfl rfl ?_
  refine z_iload_n Z 2 d_m_remove_2 rfl rfl ?_
  refine z_Wi Z (c_m_isTable ) (ok_m_isTable _) rfl rfl ⟨by decide, by decide⟩ rfl rfl rfl rfl (Nat.le_of_ble_eq_true rfl) d_m_remove_3 ⟨by decide, by decide⟩ (fun E u h => h.elim) (fun v3 u3 h3 => ?_)
  refine z_if_ne Z 11 d_m_remove_6 (by decide) (fun h6 => ?_) (fun h6 => ?_)
  · obtain ⟨hx, hk, ⟨c, hc, rfl, h2⟩, rfl⟩ := tab_yes h3 h6
    refine z_aload_n Z 0 d_m_remove_11 rfl rfl ?_
    refine z_iload_n Z 1 d_m_remove_12 rfl rfl ?_
    refine z_iload_n Z 2 d_m_remove_13 rfl rfl ?_
    refine z_Wi0 Z (c_m_entryOf (wf_th hw) hc) (ok_m_entryOf _) rfl rfl ⟨by decide, by decide⟩ rfl rfl rfl rfl (Nat.le_of_ble_eq_true rfl) d_m_remove_14 ⟨by decide, by decide⟩ (fun E h => h.elim) (fun v14 h14 => ?_)
    refine z_istore_n Z 3 d_m_remove_17 rfl (by decide) rfl ?_
    refine z_iload_n Z 3 d_m_remove_18 rfl rfl ?_
    refine z_if_lt Z 28 d_m_remove_19 (by decide) (fun h19 => ?_) (fun h19 => ?_)
    · refine z_iload_n Z 3 d_m_remove_28 rfl rfl ?_
      refine z_if_lt Z 36 d_m_remove_29 (by decide) (fun h29 => ?_) (fun hx => absurd hx (fun q => q h19))
      refine z_iconst Z (nI 0) d_m_remove_36 zi_0 ?_
      refine z_ri Z _ hr rfl d_m_remove_37 (by decide) (by decide) rfl ?_
      exact Or.inl ⟨c, hc, rfl, hx, hk, h2, Or.inr ⟨eoM_lt h14 (lt0 h19) (wf_cnt hw hc).1 hc, rfl, rfl⟩⟩
    · obtain ⟨i, hi, rfl, ek, hl⟩ := eoM_ge h14 (le0 h19)
      have hi : i < cnt σ c := hi
      refine z_aload_n Z 0 d_m_remove_22 rfl rfl ?_
      refine z_iload_n Z 1 d_m_remove_23 rfl rfl ?_
      refine z_iload_n Z 3 d_m_remove_24 rfl rfl ?_
      refine z_Wv Z (c_m_dropEntry (wf_th hw) hc hi) (ok_m_dropEntry _) rfl rfl ⟨by decide, by decide⟩ rfl rfl rfl rfl (Nat.le_of_ble_eq_true rfl) d_m_remove_25 ⟨by decide, by decide⟩ (fun E u h => h.elim) (fun u25 h25 => ?_)
      subst h25
      refine z_iload_n Z 3 d_m_remove_28 rfl rfl ?_
      refine z_if_lt Z 36 d_m_remove_29 (by decide) (fun hx => absurd hx (nI_pos (by have := (wf_cnt hw hc).1; omega))) (fun h29 => ?_)
      refine z_iconst Z (nI 1) d_m_remove_32 zi_1 ?_
      refine z_goto Z 37 d_m_remove_33 (by decide) ?_
      refine z_ri Z _ hr rfl d_m_remove_37 (by decide) (by decide) rfl ?_
      exact Or.inl ⟨c, hc, rfl, hx, hk, h2, Or.inl ⟨i, hi, ek, rfl, rfl⟩⟩
  · refine z_iconst Z (nI 0) d_m_remove_9 zi_0 ?_
    refine z_ri Z _ hr rfl d_m_remove_10 (by decide) (by decide) rfl ?_
    exact rem_no h3 h6
set_option maxHeartbeats 4000000 in
set_option maxRecDepth 100000 in
theorem c_m_rootAt {l : Launch} {D : va_G} {cI cB cL : ClassId} {h : Nat → Nat} {σ : St} {r : Int32} : zMet l y_m_rootAt w_m_rootAt rm_m_rootAt D zCl (zTy cI cB cL) (wm h cI cB σ) [.ref (h 0), .int r] (qi (wm h cI cB) (fun v u => (¬ isR r ∧ u = th σ 1) ∨ (∃ j, j < 6 ∧ r = nI j ∧ v = σ 10 j ∧ u = th σ 0)) noXs) 0 0 0 0 := by
  refine z_meth (by decide) rfl (Nat.le_of_ble_eq_true rfl) (fun p e s mm as bl me cd Z hr hnm ht => ?_)
  refine z_aload_n Z 0 d_m_rootAt_0 rfl rfl ?_
  refine z_iload_n Z 1 d_m_rootAt_1 rfl rfl ?_
  refine z_S0 Z (c_m_isRoot ) (ok_m_isRoot _) rfl rfl ⟨by decide, by decide⟩ rfl rfl (Nat.le_of_ble_eq_true rfl) d_m_rootAt_2 ⟨by decide, by decide⟩ (fun v2 h2 => ?_)
  refine z_if_eq Z 12 d_m_rootAt_5 (by decide) (fun h5 => ?_) (fun h5 => ?_)
  · refine z_iconst Z (nI 1) d_m_rootAt_12 zi_1 ?_
    refine mp_0 Z d_m_rootAt_13 ?_
    refine z_aload_n Z 0 d_m_rootAt_16 rfl rfl ?_
    refine mn_0 Z d_m_rootAt_17 ?_
    refine z_if_le Z 27 d_m_rootAt_20 (by decide) (fun hx => absurd hx (show ¬ (nI 1 : Int32) ≤ 0 from by decide)) (fun h20 => ?_)
    refine z_iconst Z (nI 0) d_m_rootAt_23 zi_0 ?_
    refine z_goto Z 33 d_m_rootAt_24 (by decide) ?_
    refine z_ri Z _ hr rfl d_m_rootAt_33 (by decide) (by decide) rfl ?_
    exact Or.inl ⟨zB0 h2 h5, rfl⟩
  · obtain ⟨j, hj, rfl⟩ := zB1 h2 h5
    refine z_iconst Z (nI 0) d_m_rootAt_8 zi_0 ?_
    refine z_goto Z 13 d_m_rootAt_9 (by decide) ?_
    refine mp_0 Z d_m_rootAt_13 ?_
    refine z_aload_n Z 0 d_m_rootAt_16 rfl rfl ?_
    refine mn_0 Z d_m_rootAt_17 ?_
    refine z_if_le Z 27 d_m_rootAt_20 (by decide) (fun h20 => ?_) (fun hx => absurd hx (fun q => q (show (nI 0 : Int32) ≤ 0 from by decide)))
    refine z_aload_n Z 0 d_m_rootAt_27 rfl rfl ?_
    refine mg_10 Z d_m_rootAt_28 ?_
    refine z_iload_n Z 1 d_m_rootAt_31 rfl rfl ?_
    refine ml_10 Z (by omega) d_m_rootAt_32 ?_
    refine z_ri Z _ hr rfl d_m_rootAt_33 (by decide) (by decide) rfl ?_
    exact Or.inr ⟨j, hj, rfl, rfl, rfl⟩
set_option maxHeartbeats 4000000 in
set_option maxRecDepth 100000 in
theorem c_m_root {l : Launch} {D : va_G} {cI cB cL : ClassId} {h : Nat → Nat} {σ : St} {r x : Int32} : zMet l y_m_root w_m_root rm_m_root D zCl (zTy cI cB cL) (wm h cI cB σ) [.ref (h 0), .int r, .int x] (qv (wm h cI cB) (fun u => (¬ isR r ∧ u = th σ 1) ∨ (isR r ∧ ¬ (x = -1 ∨ tM σ x) ∧ u = th σ 2) ∨ (∃ j, j < 6 ∧ r = nI j ∧ (x = -1 ∨ tM σ x) ∧ u = va_up (th σ 0) 10 (upd (σ 10) j x))) noXs) 0 0 0 0 := by
  refine z_meth (by decide) rfl (Nat.le_of_ble_eq_true rfl) (fun p e s mm as bl me cd Z hr hnm ht => ?_)
  refine z_aload_n Z 0 d_m_root_0 rfl rfl ?_
  refine z_iload_n Z 1 d_m_root_1 rfl rfl ?_
  refine z_S0 Z (c_m_isRoot ) (ok_m_isRoot _) rfl rfl ⟨by decide, by decide⟩ rfl rfl (Nat.le_of_ble_eq_true rfl) d_m_root_2 ⟨by decide, by decide⟩ (fun v2 h2 => ?_)
  refine z_if_ne Z 12 d_m_root_5 (by decide) (fun h5 => ?_) (fun h5 => ?_)
  · obtain ⟨j, hj, rfl⟩ := zB1 h2 h5
    refine z_iload_n Z 2 d_m_root_12 rfl rfl ?_
    refine z_iconst Z (-1) d_m_root_13 zi_m1 ?_
    refine z_icmp_eq Z 29 d_m_root_14 (by decide) (fun h14 => ?_) (fun h14 => ?_)
    · refine z_iconst Z (nI 0) d_m_root_29 zi_0 ?_
      refine mp_0 Z d_m_root_30 ?_
      refine z_aload_n Z 0 d_m_root_33 rfl rfl ?_
      refine mn_0 Z d_m_root_34 ?_
      refine z_if_ne Z 47 d_m_root_37 (by decide) (fun hx => absurd hx (fun q => q rfl)) (fun h37 => ?_)
      refine z_aload_n Z 0 d_m_root_40 rfl rfl ?_
      refine mg_10 Z d_m_root_41 ?_
      refine z_iload_n Z 1 d_m_root_44 rfl rfl ?_
      refine z_iload_n Z 2 d_m_root_45 rfl rfl ?_
      refine ms_10 Z (by omega) d_m_root_46 ?_
      refine z_rv Z _ hr d_m_root_47 (by decide) (by decide) rfl ?_
      exact Or.inr (Or.inr ⟨j, hj, rfl, Or.inl h14, rfl⟩)
    · refine z_aload_n Z 0 d_m_root_17 rfl rfl ?_
      refine z_iload_n Z 2 d_m_root_18 rfl rfl ?_
      refine z_Wi0 Z (c_m_isThing ) (ok_m_isThing _) rfl rfl ⟨by decide, by decide⟩ rfl rfl rfl rfl (Nat.le_of_ble_eq_true rfl) d_m_root_19 ⟨by decide, by decide⟩ (fun E h => h.elim) (fun v19 h19 => ?_)
      refine z_if_ne Z 29 d_m_root_22 (by decide) (fun h22 => ?_) (fun h22 => ?_)
      · refine z_iconst Z (nI 0) d_m_root_29 zi_0 ?_
        refine mp_0 Z d_m_root_30 ?_
        refine z_aload_n Z 0 d_m_root_33 rfl rfl ?_
        refine mn_0 Z d_m_root_34 ?_
        refine z_if_ne Z 47 d_m_root_37 (by decide) (fun hx => absurd hx (fun q => q rfl)) (fun h37 => ?_)
        refine z_aload_n Z 0 d_m_root_40 rfl rfl ?_
        refine mg_10 Z d_m_root_41 ?_
        refine z_iload_n Z 1 d_m_root_44 rfl rfl ?_
        refine z_iload_n Z 2 d_m_root_45 rfl rfl ?_
        refine ms_10 Z (by omega) d_m_root_46 ?_
        refine z_rv Z _ hr d_m_root_47 (by decide) (by decide) rfl ?_
        exact Or.inr (Or.inr ⟨j, hj, rfl, Or.inr (zB1 h19 h22), rfl⟩)
      · refine z_iconst Z (nI 2) d_m_root_25 zi_2 ?_
        refine z_goto Z 30 d_m_root_26 (by decide) ?_
        refine mp_0 Z d_m_root_30 ?_
        refine z_aload_n Z 0 d_m_root_33 rfl rfl ?_
        refine mn_0 Z d_m_root_34 ?_
        refine z_if_ne Z 47 d_m_root_37 (by decide) (fun h37 => ?_) (fun hx => absurd hx (show ¬ (nI 2 : Int32) = 0 from by decide))
        refine z_rv Z _ hr d_m_root_47 (by decide) (by decide) rfl ?_
        exact Or.inr (Or.inl ⟨⟨j, hj, rfl⟩, fun q => q.elim h14 (zB0 h19 h22), rfl⟩)
  · refine z_iconst Z (nI 1) d_m_root_8 zi_1 ?_
    refine z_goto Z 30 d_m_root_9 (by decide) ?_
    refine mp_0 Z d_m_root_30 ?_
    refine z_aload_n Z 0 d_m_root_33 rfl rfl ?_
    refine mn_0 Z d_m_root_34 ?_
    refine z_if_ne Z 47 d_m_root_37 (by decide) (fun h37 => ?_) (fun hx => absurd hx (show ¬ (nI 1 : Int32) = 0 from by decide))
    refine z_rv Z _ hr d_m_root_47 (by decide) (by decide) rfl ?_
    exact Or.inl ⟨zB0 h2 h5, rfl⟩
set_option maxHeartbeats 4000000 in
set_option maxRecDepth 100000 in
theorem c_m_queued {l : Launch} {D : va_G} {cI cB cL : ClassId} {h : Nat → Nat} {σ : St}  : zMet l y_m_queued w_m_queued rm_m_queued D zCl (zTy cI cB cL) (wm h cI cB σ) [.ref (h 0)] (qi (wm h cI cB) (fun v u => v = σ 0 1 ∧ u = th σ 0) noXs) 0 0 0 0 := by
  refine z_meth (by decide) rfl (Nat.le_of_ble_eq_true rfl) (fun p e s mm as bl me cd Z hr hnm ht => ?_)
  refine z_aload_n Z 0 d_m_queued_0 rfl rfl ?_
  refine z_iconst Z (nI 0) d_m_queued_1 zi_0 ?_
  refine mp_0 Z d_m_queued_2 ?_
  refine z_aload_n Z 0 d_m_queued_5 rfl rfl ?_
  refine mn_1 Z d_m_queued_6 ?_
  refine z_ri Z _ hr rfl d_m_queued_9 (by decide) (by decide) rfl ?_
  exact ⟨rfl, rfl⟩
set_option maxHeartbeats 4000000 in
set_option maxRecDepth 100000 in
theorem c_m_collections {l : Launch} {D : va_G} {cI cB cL : ClassId} {h : Nat → Nat} {σ : St}  : zMet l y_m_collections w_m_collections rm_m_collections D zCl (zTy cI cB cL) (wm h cI cB σ) [.ref (h 0)] (qi (wm h cI cB) (fun v u => v = σ 0 3 ∧ u = th σ 0) noXs) 0 0 0 0 := by
  refine z_meth (by decide) rfl (Nat.le_of_ble_eq_true rfl) (fun p e s mm as bl me cd Z hr hnm ht => ?_)
  refine z_aload_n Z 0 d_m_collections_0 rfl rfl ?_
  refine z_iconst Z (nI 0) d_m_collections_1 zi_0 ?_
  refine mp_0 Z d_m_collections_2 ?_
  refine z_aload_n Z 0 d_m_collections_5 rfl rfl ?_
  refine mn_3 Z d_m_collections_6 ?_
  refine z_ri Z _ hr rfl d_m_collections_9 (by decide) (by decide) rfl ?_
  exact ⟨rfl, rfl⟩
set_option maxHeartbeats 4000000 in
set_option maxRecDepth 100000 in
theorem c_m_serial {l : Launch} {D : va_G} {cI cB cL : ClassId} {h : Nat → Nat} {σ : St} {x : Int32} : zMet l y_m_serial w_m_serial rm_m_serial D zCl (zTy cI cB cL) (wm h cI cB σ) [.ref (h 0), .int x] (qi (wm h cI cB) (fun v u => (¬ tM σ x ∧ u = th σ 1) ∨ (∃ c, c < 24 ∧ x = nI c ∧ tM σ x ∧ v = σ 2 c ∧ u = th σ 0)) noXs) 0 0 0 0 := by
  refine z_meth (by decide) rfl (Nat.le_of_ble_eq_true rfl) (fun p e s mm as bl me cd Z hr hnm ht => ?_)
  refine z_aload_n Z 0 d_m_serial_0 rfl rfl ?_
  refine z_aload_n Z 0 d_m_serial_1 rfl rfl ?_
  refine z_iload_n Z 1 d_m_serial_2 rfl rfl ?_
  refine z_Wi0 Z (c_m_isThing ) (ok_m_isThing _) rfl rfl ⟨by decide, by decide⟩ rfl rfl rfl rfl (Nat.le_of_ble_eq_true rfl) d_m_serial_3 ⟨by decide, by decide⟩ (fun E h => h.elim) (fun v3 h3 => ?_)
  refine z_if_eq Z 13 d_m_serial_6 (by decide) (fun h6 => ?_) (fun h6 => ?_)
  · refine z_iconst Z (nI 1) d_m_serial_13 zi_1 ?_
    refine mp_0 Z d_m_serial_14 ?_
    refine z_aload_n Z 0 d_m_serial_17 rfl rfl ?_
    refine mn_0 Z d_m_serial_18 ?_
    refine z_if_le Z 28 d_m_serial_21 (by decide) (fun hx => absurd hx (show ¬ (nI 1 : Int32) ≤ 0 from by decide)) (fun h21 => ?_)
    refine z_iconst Z (nI 0) d_m_serial_24 zi_0 ?_
    refine z_goto Z 34 d_m_serial_25 (by decide) ?_
    refine z_ri Z _ hr rfl d_m_serial_34 (by decide) (by decide) rfl ?_
    exact Or.inl ⟨zB0 h3 h6, rfl⟩
  · have hx := zB1 h3 h6
    obtain ⟨c, hc, rfl, hk⟩ := id hx
    refine z_iconst Z (nI 0) d_m_serial_9 zi_0 ?_
    refine z_goto Z 14 d_m_serial_10 (by decide) ?_
    refine mp_0 Z d_m_serial_14 ?_
    refine z_aload_n Z 0 d_m_serial_17 rfl rfl ?_
    refine mn_0 Z d_m_serial_18 ?_
    refine z_if_le Z 28 d_m_serial_21 (by decide) (fun h21 => ?_) (fun hx => absurd hx (fun q => q (show (nI 0 : Int32) ≤ 0 from by decide)))
    refine z_aload_n Z 0 d_m_serial_28 rfl rfl ?_
    refine mg_2 Z d_m_serial_29 ?_
    refine z_iload_n Z 1 d_m_serial_32 rfl rfl ?_
    refine ml_2 Z (by omega) d_m_serial_33 ?_
    refine z_ri Z _ hr rfl d_m_serial_34 (by decide) (by decide) rfl ?_
    exact Or.inr ⟨c, hc, rfl, hx, rfl, rfl⟩
set_option maxHeartbeats 4000000 in
set_option maxRecDepth 100000 in
theorem c_m_kind {l : Launch} {D : va_G} {cI cB cL : ClassId} {h : Nat → Nat} {σ : St} {x : Int32} : zMet l y_m_kind w_m_kind rm_m_kind D zCl (zTy cI cB cL) (wm h cI cB σ) [.ref (h 0), .int x] (qi (wm h cI cB) (fun v u => (¬ tM σ x ∧ u = th σ 1) ∨ (∃ c, c < 24 ∧ x = nI c ∧ tM σ x ∧ v = σ 1 c + nI 4 * σ 7 c ∧ u = th σ 0)) noXs) 0 0 0 0 := by
  refine z_meth (by decide) rfl (Nat.le_of_ble_eq_true rfl) (fun p e s mm as bl me cd Z hr hnm ht => ?_)
  refine z_aload_n Z 0 d_m_kind_0 rfl rfl ?_
  refine z_aload_n Z 0 d_m_kind_1 rfl rfl ?_
  refine z_iload_n Z 1 d_m_kind_2 rfl rfl ?_
  refine z_Wi0 Z (c_m_isThing ) (ok_m_isThing _) rfl rfl ⟨by decide, by decide⟩ rfl rfl rfl rfl (Nat.le_of_ble_eq_true rfl) d_m_kind_3 ⟨by decide, by decide⟩ (fun E h => h.elim) (fun v3 h3 => ?_)
  refine z_if_eq Z 13 d_m_kind_6 (by decide) (fun h6 => ?_) (fun h6 => ?_)
  · refine z_iconst Z (nI 1) d_m_kind_13 zi_1 ?_
    refine mp_0 Z d_m_kind_14 ?_
    refine z_aload_n Z 0 d_m_kind_17 rfl rfl ?_
    refine mn_0 Z d_m_kind_18 ?_
    refine z_if_le Z 28 d_m_kind_21 (by decide) (fun hx => absurd hx (show ¬ (nI 1 : Int32) ≤ 0 from by decide)) (fun h21 => ?_)
    refine z_iconst Z (nI 0) d_m_kind_24 zi_0 ?_
    refine z_goto Z 43 d_m_kind_25 (by decide) ?_
    refine z_ri Z _ hr rfl d_m_kind_43 (by decide) (by decide) rfl ?_
    exact Or.inl ⟨zB0 h3 h6, rfl⟩
  · have hx := zB1 h3 h6
    obtain ⟨c, hc, rfl, hk⟩ := id hx
    refine z_iconst Z (nI 0) d_m_kind_9 zi_0 ?_
    refine z_goto Z 14 d_m_kind_10 (by decide) ?_
    refine mp_0 Z d_m_kind_14 ?_
    refine z_aload_n Z 0 d_m_kind_17 rfl rfl ?_
    refine mn_0 Z d_m_kind_18 ?_
    refine z_if_le Z 28 d_m_kind_21 (by decide) (fun h21 => ?_) (fun hx => absurd hx (fun q => q (show (nI 0 : Int32) ≤ 0 from by decide)))
    refine z_aload_n Z 0 d_m_kind_28 rfl rfl ?_
    refine mg_1 Z d_m_kind_29 ?_
    refine z_iload_n Z 1 d_m_kind_32 rfl rfl ?_
    refine ml_1 Z (by omega) d_m_kind_33 ?_
    refine z_iconst Z (nI 4) d_m_kind_34 zi_4 ?_
    refine z_aload_n Z 0 d_m_kind_35 rfl rfl ?_
    refine mg_7 Z d_m_kind_36 ?_
    refine z_iload_n Z 1 d_m_kind_39 rfl rfl ?_
    refine ml_7 Z (by omega) d_m_kind_40 ?_
    refine z_imul Z d_m_kind_41 ?_
    refine z_iadd Z d_m_kind_42 ?_
    refine z_ri Z _ hr rfl d_m_kind_43 (by decide) (by decide) rfl ?_
    exact Or.inr ⟨c, hc, rfl, hx, rfl, rfl⟩
set_option maxHeartbeats 4000000 in
set_option maxRecDepth 100000 in
theorem c_m_get {l : Launch} {D : va_G} {cI cB cL : ClassId} {h : Nat → Nat} {σ : St} {x f : Int32} : zMet l y_m_get w_m_get rm_m_get D zCl (zTy cI cB cL) (wm h cI cB σ) [.ref (h 0), .int x, .int f] (qi (wm h cI cB) (fun v u => (¬ tM σ x ∧ u = th σ 1) ∨ (tM σ x ∧ ¬ isF σ x f ∧ u = th σ 2) ∨ (∃ c j, c < 24 ∧ x = nI c ∧ tM σ x ∧ j < fc (σ 1 c) ∧ f = nI j ∧ v = σ 3 (c * 3 + j) ∧ u = th σ 0)) noXs) 0 0 0 0 := by
  refine z_meth (by decide) rfl (Nat.le_of_ble_eq_true rfl) (fun p e s mm as bl me cd Z hr hnm ht => ?_)
  refine z_aload_n Z 0 d_m_get_0 rfl rfl ?_
  refine z_aload_n Z 0 d_m_get_1 rfl rfl ?_
  refine z_iload_n Z 1 d_m_get_2 rfl rfl ?_
  refine z_Wi0 Z (c_m_isThing ) (ok_m_isThing _) rfl rfl ⟨by decide, by decide⟩ rfl rfl rfl rfl (Nat.le_of_ble_eq_true rfl) d_m_get_3 ⟨by decide, by decide⟩ (fun E h => h.elim) (fun v3 h3 => ?_)
  refine z_if_ne Z 13 d_m_get_6 (by decide) (fun h6 => ?_) (fun h6 => ?_)
  · have hx := zB1 h3 h6
    obtain ⟨c, hc, rfl, hk⟩ := id hx
    refine z_aload_n Z 0 d_m_get_13 rfl rfl ?_
    refine z_iload_n Z 1 d_m_get_14 rfl rfl ?_
    refine z_iload_n Z 2 d_m_get_15 rfl rfl ?_
    refine z_Wi0 Z (c_m_isField hc) (ok_m_isField _) rfl rfl ⟨by decide, by decide⟩ rfl rfl rfl rfl (Nat.le_of_ble_eq_true rfl) d_m_get_16 ⟨by decide, by decide⟩ (fun E h => h.elim) (fun v16 h16 => ?_)
    refine z_if_ne Z 26 d_m_get_19 (by decide) (fun h19 => ?_) (fun h19 => ?_)
    · obtain ⟨j, hj, rfl⟩ := zB1 h16 h19
      have hj3 := fc_le (σ 1 c)
      refine z_iconst Z (nI 0) d_m_get_26 zi_0 ?_
      refine mp_0 Z d_m_get_27 ?_
      refine z_aload_n Z 0 d_m_get_30 rfl rfl ?_
      refine mn_0 Z d_m_get_31 ?_
      refine z_if_le Z 41 d_m_get_34 (by decide) (fun h34 => ?_) (fun hx => absurd hx (fun q => q (show (nI 0 : Int32) ≤ 0 from by decide)))
      refine z_aload_n Z 0 d_m_get_41 rfl rfl ?_
      refine mg_3 Z d_m_get_42 ?_
      refine z_iconst Z (nI 3) d_m_get_45 zi_3 ?_
      refine z_iload_n Z 1 d_m_get_46 rfl rfl ?_
      refine z_imulN Z d_m_get_47 ?_
      refine z_iload_n Z 2 d_m_get_48 rfl rfl ?_
      refine z_iaddN Z d_m_get_49 ?_
      refine z_eqi (y := nI (c * 3 + j)) (by rw [Nat.mul_comm]) ?_
      refine ml_3 Z (by omega) d_m_get_50 ?_
      refine z_ri Z _ hr rfl d_m_get_51 (by decide) (by decide) rfl ?_
      exact Or.inr (Or.inr ⟨c, j, hc, rfl, hx, hj, rfl, rfl, rfl⟩)
    · refine z_iconst Z (nI 2) d_m_get_22 zi_2 ?_
      refine z_goto Z 27 d_m_get_23 (by decide) ?_
      refine mp_0 Z d_m_get_27 ?_
      refine z_aload_n Z 0 d_m_get_30 rfl rfl ?_
      refine mn_0 Z d_m_get_31 ?_
      refine z_if_le Z 41 d_m_get_34 (by decide) (fun hx => absurd hx (show ¬ (nI 2 : Int32) ≤ 0 from by decide)) (fun h34 => ?_)
      refine z_iconst Z (nI 0) d_m_get_37 zi_0 ?_
      refine z_goto Z 51 d_m_get_38 (by decide) ?_
      refine z_ri Z _ hr rfl d_m_get_51 (by decide) (by decide) rfl ?_
      exact Or.inr (Or.inl ⟨hx, fun q => zB0 h16 h19 ((isF_nI hc).mp q), rfl⟩)
  · refine z_iconst Z (nI 1) d_m_get_9 zi_1 ?_
    refine z_goto Z 27 d_m_get_10 (by decide) ?_
    refine mp_0 Z d_m_get_27 ?_
    refine z_aload_n Z 0 d_m_get_30 rfl rfl ?_
    refine mn_0 Z d_m_get_31 ?_
    refine z_if_le Z 41 d_m_get_34 (by decide) (fun hx => absurd hx (show ¬ (nI 1 : Int32) ≤ 0 from by decide)) (fun h34 => ?_)
    refine z_iconst Z (nI 0) d_m_get_37 zi_0 ?_
    refine z_goto Z 51 d_m_get_38 (by decide) ?_
    refine z_ri Z _ hr rfl d_m_get_51 (by decide) (by decide) rfl ?_
    exact Or.inl ⟨zB0 h3 h6, rfl⟩
set_option maxHeartbeats 4000000 in
set_option maxRecDepth 100000 in
theorem c_m_set {l : Launch} {D : va_G} {cI cB cL : ClassId} {h : Nat → Nat} {σ : St} {x f t : Int32} : zMet l y_m_set w_m_set rm_m_set D zCl (zTy cI cB cL) (wm h cI cB σ) [.ref (h 0), .int x, .int f, .int t] (qv (wm h cI cB) (fun u => (¬ (tM σ x ∧ (t = -1 ∨ tM σ t)) ∧ u = th σ 1) ∨ ((tM σ x ∧ (t = -1 ∨ tM σ t)) ∧ ¬ isF σ x f ∧ u = th σ 2) ∨ (∃ c j, c < 24 ∧ x = nI c ∧ tM σ x ∧ (t = -1 ∨ tM σ t) ∧ j < fc (σ 1 c) ∧ f = nI j ∧ u = va_up (th σ 0) 3 (upd (σ 3) (c * 3 + j) t))) noXs) 0 0 0 0 := by
  refine z_meth (by decide) rfl (Nat.le_of_ble_eq_true rfl) (fun p e s mm as bl me cd Z hr hnm ht => ?_)
  refine z_aload_n Z 0 d_m_set_0 rfl rfl ?_
  refine z_aload_n Z 0 d_m_set_1 rfl rfl ?_
  refine z_iload_n Z 1 d_m_set_2 rfl rfl ?_
  refine z_Wi0 Z (c_m_isThing ) (ok_m_isThing _) rfl rfl ⟨by decide, by decide⟩ rfl rfl rfl rfl (Nat.le_of_ble_eq_true rfl) d_m_set_3 ⟨by decide, by decide⟩ (fun E h => h.elim) (fun v3 h3 => ?_)
  refine z_if_eq Z 22 d_m_set_6 (by decide) (fun h6 => ?_) (fun h6 => ?_)
  · refine z_iconst Z (nI 1) d_m_set_22 zi_1 ?_
    refine z_goto Z 40 d_m_set_23 (by decide) ?_
    refine mp_0 Z d_m_set_40 ?_
    refine z_aload_n Z 0 d_m_set_43 rfl rfl ?_
    refine mn_0 Z d_m_set_44 ?_
    refine z_if_ne Z 61 d_m_set_47 (by decide) (fun h47 => ?_) (fun hx => absurd hx (show ¬ (nI 1 : Int32) = 0 from by decide))
    refine z_rv Z _ hr d_m_set_61 (by decide) (by decide) rfl ?_
    exact Or.inl ⟨fun q => zB0 h3 h6 q.1, rfl⟩
  · have hx := zB1 h3 h6
    obtain ⟨c, hc, rfl, hk⟩ := id hx
    refine z_iload_n Z 3 d_m_set_9 rfl rfl ?_
    refine z_iconst Z (-1) d_m_set_10 zi_m1 ?_
    refine z_icmp_eq Z 26 d_m_set_11 (by decide) (fun h11 => ?_) (fun h11 => ?_)
    · have ht1 : t = -1 ∨ tM σ t := Or.inl h11
      refine z_aload_n Z 0 d_m_set_26 rfl rfl ?_
      refine z_iload_n Z 1 d_m_set_27 rfl rfl ?_
      refine z_iload_n Z 2 d_m_set_28 rfl rfl ?_
      refine z_Wi0 Z (c_m_isField hc) (ok_m_isField _) rfl rfl ⟨by decide, by decide⟩ rfl rfl rfl rfl (Nat.le_of_ble_eq_true rfl) d_m_set_29 ⟨by decide, by decide⟩ (fun E h => h.elim) (fun v29 h29 => ?_)
      refine z_if_ne Z 39 d_m_set_32 (by decide) (fun h32 => ?_) (fun h32 => ?_)
      · obtain ⟨j, hj, rfl⟩ := zB1 h29 h32
        have hj3 := fc_le (σ 1 c)
        refine z_iconst Z (nI 0) d_m_set_39 zi_0 ?_
        refine mp_0 Z d_m_set_40 ?_
        refine z_aload_n Z 0 d_m_set_43 rfl rfl ?_
        refine mn_0 Z d_m_set_44 ?_
        refine z_if_ne Z 61 d_m_set_47 (by decide) (fun hx => absurd hx (fun q => q rfl)) (fun h47 => ?_)
        refine z_aload_n Z 0 d_m_set_50 rfl rfl ?_
        refine mg_3 Z d_m_set_51 ?_
        refine z_iconst Z (nI 3) d_m_set_54 zi_3 ?_
        refine z_iload_n Z 1 d_m_set_55 rfl rfl ?_
        refine z_imulN Z d_m_set_56 ?_
        refine z_iload_n Z 2 d_m_set_57 rfl rfl ?_
        refine z_iaddN Z d_m_set_58 ?_
        refine z_eqi (y := nI (c * 3 + j)) (by rw [Nat.mul_comm]) ?_
        refine z_iload_n Z 3 d_m_set_59 rfl rfl ?_
        refine ms_3 Z (by omega) d_m_set_60 ?_
        refine z_rv Z _ hr d_m_set_61 (by decide) (by decide) rfl ?_
        exact Or.inr (Or.inr ⟨c, j, hc, rfl, hx, ht1, hj, rfl, rfl⟩)
      · refine z_iconst Z (nI 2) d_m_set_35 zi_2 ?_
        refine z_goto Z 40 d_m_set_36 (by decide) ?_
        refine mp_0 Z d_m_set_40 ?_
        refine z_aload_n Z 0 d_m_set_43 rfl rfl ?_
        refine mn_0 Z d_m_set_44 ?_
        refine z_if_ne Z 61 d_m_set_47 (by decide) (fun h47 => ?_) (fun hx => absurd hx (show ¬ (nI 2 : Int32) = 0 from by decide))
        refine z_rv Z _ hr d_m_set_61 (by decide) (by decide) rfl ?_
        exact Or.inr (Or.inl ⟨⟨hx, ht1⟩, fun q => zB0 h29 h32 ((isF_nI hc).mp q), rfl⟩)
    · refine z_aload_n Z 0 d_m_set_14 rfl rfl ?_
      refine z_iload_n Z 3 d_m_set_15 rfl rfl ?_
      refine z_Wi0 Z (c_m_isThing ) (ok_m_isThing _) rfl rfl ⟨by decide, by decide⟩ rfl rfl rfl rfl (Nat.le_of_ble_eq_true rfl) d_m_set_16 ⟨by decide, by decide⟩ (fun E h => h.elim) (fun v16 h16 => ?_)
      refine z_if_ne Z 26 d_m_set_19 (by decide) (fun h19 => ?_) (fun h19 => ?_)
      · have ht1 : t = -1 ∨ tM σ t := Or.inr (zB1 h16 h19)
        refine z_aload_n Z 0 d_m_set_26 rfl rfl ?_
        refine z_iload_n Z 1 d_m_set_27 rfl rfl ?_
        refine z_iload_n Z 2 d_m_set_28 rfl rfl ?_
        refine z_Wi0 Z (c_m_isField hc) (ok_m_isField _) rfl rfl ⟨by decide, by decide⟩ rfl rfl rfl rfl (Nat.le_of_ble_eq_true rfl) d_m_set_29 ⟨by decide, by decide⟩ (fun E h => h.elim) (fun v29 h29 => ?_)
        refine z_if_ne Z 39 d_m_set_32 (by decide) (fun h32 => ?_) (fun h32 => ?_)
        · obtain ⟨j, hj, rfl⟩ := zB1 h29 h32
          have hj3 := fc_le (σ 1 c)
          refine z_iconst Z (nI 0) d_m_set_39 zi_0 ?_
          refine mp_0 Z d_m_set_40 ?_
          refine z_aload_n Z 0 d_m_set_43 rfl rfl ?_
          refine mn_0 Z d_m_set_44 ?_
          refine z_if_ne Z 61 d_m_set_47 (by decide) (fun hx => absurd hx (fun q => q rfl)) (fun h47 => ?_)
          refine z_aload_n Z 0 d_m_set_50 rfl rfl ?_
          refine mg_3 Z d_m_set_51 ?_
          refine z_iconst Z (nI 3) d_m_set_54 zi_3 ?_
          refine z_iload_n Z 1 d_m_set_55 rfl rfl ?_
          refine z_imulN Z d_m_set_56 ?_
          refine z_iload_n Z 2 d_m_set_57 rfl rfl ?_
          refine z_iaddN Z d_m_set_58 ?_
          refine z_eqi (y := nI (c * 3 + j)) (by rw [Nat.mul_comm]) ?_
          refine z_iload_n Z 3 d_m_set_59 rfl rfl ?_
          refine ms_3 Z (by omega) d_m_set_60 ?_
          refine z_rv Z _ hr d_m_set_61 (by decide) (by decide) rfl ?_
          exact Or.inr (Or.inr ⟨c, j, hc, rfl, hx, ht1, hj, rfl, rfl⟩)
        · refine z_iconst Z (nI 2) d_m_set_35 zi_2 ?_
          refine z_goto Z 40 d_m_set_36 (by decide) ?_
          refine mp_0 Z d_m_set_40 ?_
          refine z_aload_n Z 0 d_m_set_43 rfl rfl ?_
          refine mn_0 Z d_m_set_44 ?_
          refine z_if_ne Z 61 d_m_set_47 (by decide) (fun h47 => ?_) (fun hx => absurd hx (show ¬ (nI 2 : Int32) = 0 from by decide))
          refine z_rv Z _ hr d_m_set_61 (by decide) (by decide) rfl ?_
          exact Or.inr (Or.inl ⟨⟨hx, ht1⟩, fun q => zB0 h29 h32 ((isF_nI hc).mp q), rfl⟩)
      · refine z_iconst Z (nI 1) d_m_set_22 zi_1 ?_
        refine z_goto Z 40 d_m_set_23 (by decide) ?_
        refine mp_0 Z d_m_set_40 ?_
        refine z_aload_n Z 0 d_m_set_43 rfl rfl ?_
        refine mn_0 Z d_m_set_44 ?_
        refine z_if_ne Z 61 d_m_set_47 (by decide) (fun h47 => ?_) (fun hx => absurd hx (show ¬ (nI 1 : Int32) = 0 from by decide))
        refine z_rv Z _ hr d_m_set_61 (by decide) (by decide) rfl ?_
        exact Or.inl ⟨fun q => q.2.elim h11 (zB0 h16 h19), rfl⟩
set_option maxHeartbeats 4000000 in
set_option maxRecDepth 100000 in
theorem c_m_key {l : Launch} {D : va_G} {cI cB cL : ClassId} {h : Nat → Nat} {σ : St} (hw : wf σ) {x i : Int32} : zMet l y_m_key w_m_key rm_m_key D zCl (zTy cI cB cL) (wm h cI cB σ) [.ref (h 0), .int x, .int i] (qi (wm h cI cB) (fun v u => (¬ tM σ x ∧ u = th σ 1) ∨ (tM σ x ∧ ¬ isTab σ x ∧ u = th σ 2) ∨ (∃ c, c < 24 ∧ x = nI c ∧ tM σ x ∧ σ 1 c = nI 2 ∧ ((¬ (∃ j, j < cnt σ c ∧ i = nI j) ∧ u = th σ 3) ∨ (∃ j, j < cnt σ c ∧ i = nI j ∧ v = σ 4 (c * 4 + j) ∧ u = th σ 0)))) noXs) 0 0 0 0 := by
  refine z_meth (by decide) rfl (Nat.le_of_ble_eq_true rfl) (fun p e s mm as bl me cd Z hr hnm ht => ?_)
  refine z_aload_n Z 0 d_m_key_0 rfl rfl ?_
  refine z_aload_n Z 0 d_m_key_1 rfl rfl ?_
  refine z_iload_n Z 1 d_m_key_2 rfl rfl ?_
  refine z_Wi0 Z (c_m_isThing ) (ok_m_isThing _) rfl rfl ⟨by decide, by decide⟩ rfl rfl rfl rfl (Nat.le_of_ble_eq_true rfl) d_m_key_3 ⟨by decide, by decide⟩ (fun E h => h.elim) (fun v3 h3 => ?_)
  refine z_if_ne Z 13 d_m_key_6 (by decide) (fun h6 => ?_) (fun h6 => ?_)
  · have hx := zB1 h3 h6
    obtain ⟨c, hc, rfl, hk⟩ := id hx
    have e6 : σ 6 c = nI (cnt σ c) := (wf_cnt hw hc).2
    have n6 : cnt σ c ≤ 4 := (wf_cnt hw hc).1
    refine z_aload_n Z 0 d_m_key_13 rfl rfl ?_
    refine mg_1 Z d_m_key_14 ?_
    refine z_iload_n Z 1 d_m_key_17 rfl rfl ?_
    refine ml_1 Z (by omega) d_m_key_18 ?_
    refine z_iconst Z (nI 2) d_m_key_19 zi_2 ?_
    refine z_icmp_eq Z 27 d_m_key_20 (by decide) (fun h20 => ?_) (fun h20 => ?_)
    · refine z_iload_n Z 2 d_m_key_27 rfl rfl ?_
      refine z_if_lt Z 41 d_m_key_28 (by decide) (fun h28 => ?_) (fun h28 => ?_)
      · refine z_iconst Z (nI 3) d_m_key_41 zi_3 ?_
        refine z_goto Z 46 d_m_key_42 (by decide) ?_
        refine mp_0 Z d_m_key_46 ?_
        refine z_aload_n Z 0 d_m_key_49 rfl rfl ?_
        refine mn_0 Z d_m_key_50 ?_
        refine z_if_le Z 60 d_m_key_53 (by decide) (fun hx => absurd hx (show ¬ (nI 3 : Int32) ≤ 0 from by decide)) (fun h53 => ?_)
        refine z_iconst Z (nI 0) d_m_key_56 zi_0 ?_
        refine z_goto Z 70 d_m_key_57 (by decide) ?_
        refine z_ri Z _ hr rfl d_m_key_70 (by decide) (by decide) rfl ?_
        exact Or.inr (Or.inr ⟨c, hc, rfl, hx, h20, Or.inl ⟨fun ⟨j, hj, q⟩ => nI_pos (by omega) (q ▸ h28), rfl⟩⟩)
      · refine z_iload_n Z 2 d_m_key_31 rfl rfl ?_
        refine z_aload_n Z 0 d_m_key_32 rfl rfl ?_
        refine mg_6 Z d_m_key_33 ?_
        refine z_iload_n Z 1 d_m_key_36 rfl rfl ?_
        refine ml_6 Z (by omega) d_m_key_37 ?_
        refine z_eqi e6 ?_
        refine z_icmp_lt Z 45 d_m_key_38 (by decide) (fun h38 => ?_) (fun h38 => ?_)
        · obtain ⟨j, hj, rfl⟩ := inN h28 h38 (by omega)
          refine z_iconst Z (nI 0) d_m_key_45 zi_0 ?_
          refine mp_0 Z d_m_key_46 ?_
          refine z_aload_n Z 0 d_m_key_49 rfl rfl ?_
          refine mn_0 Z d_m_key_50 ?_
          refine z_if_le Z 60 d_m_key_53 (by decide) (fun h53 => ?_) (fun hx => absurd hx (fun q => q (show (nI 0 : Int32) ≤ 0 from by decide)))
          refine z_aload_n Z 0 d_m_key_60 rfl rfl ?_
          refine mg_4 Z d_m_key_61 ?_
          refine z_iconst Z (nI 4) d_m_key_64 zi_4 ?_
          refine z_iload_n Z 1 d_m_key_65 rfl rfl ?_
          refine z_imulN Z d_m_key_66 ?_
          refine z_iload_n Z 2 d_m_key_67 rfl rfl ?_
          refine z_iaddN Z d_m_key_68 ?_
          refine z_eqi (y := nI (c * 4 + j)) (by rw [Nat.mul_comm]) ?_
          refine ml_4 Z (by omega) d_m_key_69 ?_
          refine z_ri Z _ hr rfl d_m_key_70 (by decide) (by decide) rfl ?_
          exact Or.inr (Or.inr ⟨c, hc, rfl, hx, h20, Or.inr ⟨j, hj, rfl, rfl, rfl⟩⟩)
        · refine z_iconst Z (nI 3) d_m_key_41 zi_3 ?_
          refine z_goto Z 46 d_m_key_42 (by decide) ?_
          refine mp_0 Z d_m_key_46 ?_
          refine z_aload_n Z 0 d_m_key_49 rfl rfl ?_
          refine mn_0 Z d_m_key_50 ?_
          refine z_if_le Z 60 d_m_key_53 (by decide) (fun hx => absurd hx (show ¬ (nI 3 : Int32) ≤ 0 from by decide)) (fun h53 => ?_)
          refine z_iconst Z (nI 0) d_m_key_56 zi_0 ?_
          refine z_goto Z 70 d_m_key_57 (by decide) ?_
          refine z_ri Z _ hr rfl d_m_key_70 (by decide) (by decide) rfl ?_
          exact Or.inr (Or.inr ⟨c, hc, rfl, hx, h20, Or.inl ⟨fun ⟨j, hj, q⟩ => h38 (by rw [q]; exact nI_lt hj (by omega)), rfl⟩⟩)
    · refine z_iconst Z (nI 2) d_m_key_23 zi_2 ?_
      refine z_goto Z 46 d_m_key_24 (by decide) ?_
      refine mp_0 Z d_m_key_46 ?_
      refine z_aload_n Z 0 d_m_key_49 rfl rfl ?_
      refine mn_0 Z d_m_key_50 ?_
      refine z_if_le Z 60 d_m_key_53 (by decide) (fun hx => absurd hx (show ¬ (nI 2 : Int32) ≤ 0 from by decide)) (fun h53 => ?_)
      refine z_iconst Z (nI 0) d_m_key_56 zi_0 ?_
      refine z_goto Z 70 d_m_key_57 (by decide) ?_
      refine z_ri Z _ hr rfl d_m_key_70 (by decide) (by decide) rfl ?_
      exact Or.inr (Or.inl ⟨hx, fun q => h20 ((isTab_nI hc).mp q), rfl⟩)
  · refine z_iconst Z (nI 1) d_m_key_9 zi_1 ?_
    refine z_goto Z 46 d_m_key_10 (by decide) ?_
    refine mp_0 Z d_m_key_46 ?_
    refine z_aload_n Z 0 d_m_key_49 rfl rfl ?_
    refine mn_0 Z d_m_key_50 ?_
    refine z_if_le Z 60 d_m_key_53 (by decide) (fun hx => absurd hx (show ¬ (nI 1 : Int32) ≤ 0 from by decide)) (fun h53 => ?_)
    refine z_iconst Z (nI 0) d_m_key_56 zi_0 ?_
    refine z_goto Z 70 d_m_key_57 (by decide) ?_
    refine z_ri Z _ hr rfl d_m_key_70 (by decide) (by decide) rfl ?_
    exact Or.inl ⟨zB0 h3 h6, rfl⟩
set_option maxHeartbeats 4000000 in
set_option maxRecDepth 100000 in
theorem c_m_guard {l : Launch} {D : va_G} {cI cB cL : ClassId} {h : Nat → Nat} {σ : St} {x a r : Int32} : zMet l y_m_guard w_m_guard rm_m_guard D zCl (zTy cI cB cL) (wm h cI cB σ) [.ref (h 0), .int x, .int a, .int r] (qv (wm h cI cB) (fun u => (¬ tM σ x ∧ u = th σ 1) ∨ (tM σ x ∧ ¬ isA a ∧ u = th σ 2) ∨ (tM σ x ∧ isA a ∧ ¬ isR r ∧ u = th σ 3) ∨ (∃ c, c < 24 ∧ x = nI c ∧ tM σ x ∧ isA a ∧ isR r ∧ ((¬ σ 7 c ≤ 0 ∧ u = th σ 4) ∨ (σ 7 c ≤ 0 ∧ u = grd (th σ 0) c a r)))) noXs) 0 0 0 0 := by
  refine z_meth (by decide) rfl (Nat.le_of_ble_eq_true rfl) (fun p e s mm as bl me cd Z hr hnm ht => ?_)
  refine z_aload_n Z 0 d_m_guard_0 rfl rfl ?_
  refine z_aload_n Z 0 d_m_guard_1 rfl rfl ?_
  refine z_iload_n Z 1 d_m_guard_2 rfl rfl ?_
  refine z_Wi0 Z (c_m_isThing ) (ok_m_isThing _) rfl rfl ⟨by decide, by decide⟩ rfl rfl rfl rfl (Nat.le_of_ble_eq_true rfl) d_m_guard_3 ⟨by decide, by decide⟩ (fun E h => h.elim) (fun v3 h3 => ?_)
  refine z_if_ne Z 13 d_m_guard_6 (by decide) (fun h6 => ?_) (fun h6 => ?_)
  · have hx := zB1 h3 h6
    obtain ⟨c, hc, rfl, hk⟩ := id hx
    refine z_iload_n Z 2 d_m_guard_13 rfl rfl ?_
    refine z_if_lt Z 22 d_m_guard_14 (by decide) (fun h14 => ?_) (fun h14 => ?_)
    · refine z_iconst Z (nI 2) d_m_guard_22 zi_2 ?_
      refine z_goto Z 51 d_m_guard_23 (by decide) ?_
      refine mp_0 Z d_m_guard_51 ?_
      refine z_aload_n Z 0 d_m_guard_54 rfl rfl ?_
      refine mn_0 Z d_m_guard_55 ?_
      refine z_if_le Z 62 d_m_guard_58 (by decide) (fun hx => absurd hx (show ¬ (nI 2 : Int32) ≤ 0 from by decide)) (fun h58 => ?_)
      refine z_rv Z _ hr d_m_guard_61 (by decide) (by decide) rfl ?_
      exact Or.inr (Or.inl ⟨hx, fun ⟨i, hi, q⟩ => nI_pos (by omega) (q ▸ h14), rfl⟩)
    · refine z_iload_n Z 2 d_m_guard_17 rfl rfl ?_
      refine z_iconst Z (nI 3) d_m_guard_18 zi_3 ?_
      refine z_icmp_le Z 26 d_m_guard_19 (by decide) (fun h19 => ?_) (fun h19 => ?_)
      · have ha : isA a := by obtain ⟨i, hi, e⟩ := inLe h14 h19; exact ⟨i, by omega, e⟩
        refine z_iload_n Z 3 d_m_guard_26 rfl rfl ?_
        refine z_S0 Z (c_m_isRoot ) (ok_m_isRoot _) rfl rfl ⟨by decide, by decide⟩ rfl rfl (Nat.le_of_ble_eq_true rfl) d_m_guard_27 ⟨by decide, by decide⟩ (fun v27 h27 => ?_)
        refine z_if_ne Z 37 d_m_guard_30 (by decide) (fun h30 => ?_) (fun h30 => ?_)
        · refine z_aload_n Z 0 d_m_guard_37 rfl rfl ?_
          refine mg_7 Z d_m_guard_38 ?_
          refine z_iload_n Z 1 d_m_guard_41 rfl rfl ?_
          refine ml_7 Z (by omega) d_m_guard_42 ?_
          refine z_if_le Z 50 d_m_guard_43 (by decide) (fun h43 => ?_) (fun h43 => ?_)
          · refine z_iconst Z (nI 0) d_m_guard_50 zi_0 ?_
            refine mp_0 Z d_m_guard_51 ?_
            refine z_aload_n Z 0 d_m_guard_54 rfl rfl ?_
            refine mn_0 Z d_m_guard_55 ?_
            refine z_if_le Z 62 d_m_guard_58 (by decide) (fun h58 => ?_) (fun hx => absurd hx (fun q => q (show (nI 0 : Int32) ≤ 0 from by decide)))
            refine z_aload_n Z 0 d_m_guard_62 rfl rfl ?_
            refine mg_7 Z d_m_guard_63 ?_
            refine z_iload_n Z 1 d_m_guard_66 rfl rfl ?_
            refine z_iconst Z (nI 1) d_m_guard_67 zi_1 ?_
            refine ms_7 Z (by omega) d_m_guard_68 ?_
            refine z_aload_n Z 0 d_m_guard_69 rfl rfl ?_
            refine mg_8 Z d_m_guard_70 ?_
            refine z_iload_n Z 1 d_m_guard_73 rfl rfl ?_
            refine z_iload_n Z 2 d_m_guard_74 rfl rfl ?_
            refine ms_8 Z (by omega) d_m_guard_75 ?_
            refine z_aload_n Z 0 d_m_guard_76 rfl rfl ?_
            refine mg_9 Z d_m_guard_77 ?_
            refine z_iload_n Z 1 d_m_guard_80 rfl rfl ?_
            refine z_iload_n Z 3 d_m_guard_81 rfl rfl ?_
            refine ms_9 Z (by omega) d_m_guard_82 ?_
            refine z_rv Z _ hr d_m_guard_83 (by decide) (by decide) rfl ?_
            exact Or.inr (Or.inr (Or.inr ⟨c, hc, rfl, hx, ha, zB1 h27 h30, Or.inr ⟨h43, rfl⟩⟩))
          · refine z_iconst Z (nI 4) d_m_guard_46 zi_4 ?_
            refine z_goto Z 51 d_m_guard_47 (by decide) ?_
            refine mp_0 Z d_m_guard_51 ?_
            refine z_aload_n Z 0 d_m_guard_54 rfl rfl ?_
            refine mn_0 Z d_m_guard_55 ?_
            refine z_if_le Z 62 d_m_guard_58 (by decide) (fun hx => absurd hx (show ¬ (nI 4 : Int32) ≤ 0 from by decide)) (fun h58 => ?_)
            refine z_rv Z _ hr d_m_guard_61 (by decide) (by decide) rfl ?_
            exact Or.inr (Or.inr (Or.inr ⟨c, hc, rfl, hx, ha, zB1 h27 h30, Or.inl ⟨h43, rfl⟩⟩))
        · refine z_iconst Z (nI 3) d_m_guard_33 zi_3 ?_
          refine z_goto Z 51 d_m_guard_34 (by decide) ?_
          refine mp_0 Z d_m_guard_51 ?_
          refine z_aload_n Z 0 d_m_guard_54 rfl rfl ?_
          refine mn_0 Z d_m_guard_55 ?_
          refine z_if_le Z 62 d_m_guard_58 (by decide) (fun hx => absurd hx (show ¬ (nI 3 : Int32) ≤ 0 from by decide)) (fun h58 => ?_)
          refine z_rv Z _ hr d_m_guard_61 (by decide) (by decide) rfl ?_
          exact Or.inr (Or.inr (Or.inl ⟨hx, ha, zB0 h27 h30, rfl⟩))
      · refine z_iconst Z (nI 2) d_m_guard_22 zi_2 ?_
        refine z_goto Z 51 d_m_guard_23 (by decide) ?_
        refine mp_0 Z d_m_guard_51 ?_
        refine z_aload_n Z 0 d_m_guard_54 rfl rfl ?_
        refine mn_0 Z d_m_guard_55 ?_
        refine z_if_le Z 62 d_m_guard_58 (by decide) (fun hx => absurd hx (show ¬ (nI 2 : Int32) ≤ 0 from by decide)) (fun h58 => ?_)
        refine z_rv Z _ hr d_m_guard_61 (by decide) (by decide) rfl ?_
        exact Or.inr (Or.inl ⟨hx, fun ⟨i, hi, q⟩ => h19 (by rw [q]; exact nI_le (by omega) (by decide)), rfl⟩)
  · refine z_iconst Z (nI 1) d_m_guard_9 zi_1 ?_
    refine z_goto Z 51 d_m_guard_10 (by decide) ?_
    refine mp_0 Z d_m_guard_51 ?_
    refine z_aload_n Z 0 d_m_guard_54 rfl rfl ?_
    refine mn_0 Z d_m_guard_55 ?_
    refine z_if_le Z 62 d_m_guard_58 (by decide) (fun hx => absurd hx (show ¬ (nI 1 : Int32) ≤ 0 from by decide)) (fun h58 => ?_)
    refine z_rv Z _ hr d_m_guard_61 (by decide) (by decide) rfl ?_
    exact Or.inl ⟨zB0 h3 h6, rfl⟩
