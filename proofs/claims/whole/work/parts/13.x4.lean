/-! the queue -/
def enqW (τ : St) (i w : Nat) : St := va_up (va_up (va_up τ 7 (upd (τ 7) i (nI 2))) 11 (upd (τ 11) w (nI i))) 0 (upd (τ 0) 1 (nI (w + 1)))
def enq (τ : St) (i : Nat) : St := enqW τ i (τ 0 1).toNatClampNeg
def qst (σ : St) (S : Nat → Bool) : Nat → St
  | 0 => σ
  | i + 1 => if S i = true ∧ (qst σ S i) 7 i = nI 1 then enq (qst σ S i) i else qst σ S i
theorem qst_no {σ : St} {S : Nat → Bool} {i : Nat} (h : ¬ (S i = true ∧ (qst σ S i) 7 i = nI 1)) : qst σ S i = qst σ S (i + 1) := by
  show _ = if _ then _ else _
  rw [if_neg h]
theorem qst_yes {σ : St} {S : Nat → Bool} {i : Nat} (h : S i = true ∧ (qst σ S i) 7 i = nI 1) : qst σ S (i + 1) = enq (qst σ S i) i := by
  show (if _ then _ else _) = _
  rw [if_pos h]
/-- what the queue holds are things apart whose state is 2 -/
def qI (τ : St) : Prop := ∃ w, w ≤ 24 ∧ τ 0 1 = nI w ∧ (∀ i, i < w → ∃ d, d < 24 ∧ τ 11 i = nI d ∧ τ 7 d = nI 2) ∧ ∀ i j, i < w → j < w → τ 11 i = τ 11 j → i = j
theorem pigeon : ∀ (m n : Nat) (f : Nat → Nat), (∀ i, i < n → f i < m) → (∀ i j, i < n → j < n → f i = f j → i = j) → n ≤ m := by
  intro m
  induction m with
  | zero => intro n f h1 _; rcases Nat.eq_zero_or_pos n with h | h
            · omega
            · exact absurd (h1 0 h) (Nat.not_lt_zero _)
  | succ m ih =>
    intro n f h1 h2
    by_cases hx : ∃ k, k < n ∧ f k = m
    · obtain ⟨k, hk, ek⟩ := hx
      have h3 := ih (n - 1) (fun i => if i < k then f i else f (i + 1)) (fun i hi => by
          split
          · have := h1 i (by omega)
            have : f i ≠ m := fun e => by have := h2 i k (by omega) hk (e.trans ek.symm); omega
            omega
          · have := h1 (i + 1) (by omega)
            have : f (i + 1) ≠ m := fun e => by have := h2 (i + 1) k (by omega) hk (e.trans ek.symm); omega
            omega) (fun i j hi hj e => by
          split at e <;> split at e
          · exact h2 i j (by omega) (by omega) e
          · have := h2 i (j + 1) (by omega) (by omega) e; omega
          · have := h2 (i + 1) j (by omega) (by omega) e; omega
          · have := h2 (i + 1) (j + 1) (by omega) (by omega) e; omega)
      omega
    · have := ih n f (fun i hi => by
          have := h1 i hi
          have : f i ≠ m := fun e => hx ⟨i, hi, e⟩
          omega) h2
      omega
theorem qI_room {τ : St} {w i : Nat} (h : qI τ) (ew : τ 0 1 = nI w) (hw : w ≤ 24) (hi : i < 24) (h1 : τ 7 i = nI 1) : w < 24 := by
  obtain ⟨w', hw', ew', hq, hd⟩ := h
  have e : w' = w := (nI_eq (by omega) (by omega)).mp (ew'.symm.trans ew)
  subst e
  have := pigeon 24 (w' + 1) (fun j => if j < w' then (τ 11 j).toNatClampNeg else i) (fun j hj => by
      split
      · rename_i hl
        obtain ⟨d, hd24, ed, -⟩ := hq j hl
        rw [ed, nI_clamp (by omega)]; exact hd24
      · exact hi) (fun a b ha hb e => by
      split at e <;> split at e
      · rename_i h3 h4
        obtain ⟨d, hd24, ed, -⟩ := hq a h3
        obtain ⟨d', hd24', ed', -⟩ := hq b h4
        rw [ed, ed', nI_clamp (by omega), nI_clamp (by omega)] at e
        exact hd a b h3 h4 (by rw [ed, ed', e])
      · rename_i h3 h4
        obtain ⟨d, hd24, ed, e2⟩ := hq a h3
        rw [ed, nI_clamp (by omega)] at e
        rw [e, h1] at e2; exact absurd e2 (by decide)
      · rename_i h3 h4
        obtain ⟨d, hd24, ed, e2⟩ := hq b h4
        rw [ed, nI_clamp (by omega)] at e
        rw [← e, h1] at e2; exact absurd e2 (by decide)
      · omega)
  omega
theorem enq_ok {τ : St} {i : Nat} (hw : wf τ) (hq : qI τ) (hi : i < 24) (h1 : τ 7 i = nI 1) : wf (enq τ i) ∧ qI (enq τ i) := by
  obtain ⟨w, hw24, ew, h3, h4⟩ := id hq
  have hl := qI_room hq ew hw24 hi h1
  have ecl : (τ 0 1).toNatClampNeg = w := by rw [ew, nI_clamp (by omega)]
  unfold enq
  rw [ecl]
  have q11 : ∀ j, (enqW τ i w) 11 j = upd (τ 11) w (nI i) j := fun _ => rfl
  have q7 : ∀ j, (enqW τ i w) 7 j = upd (τ 7) i (nI 2) j := fun _ => rfl
  have q0 : (enqW τ i w) 0 1 = nI (w + 1) := rfl
  constructor
  · obtain ⟨a1, a2, a3, a4, a5, a6, a7, a8⟩ := hw
    refine ⟨a1, a2, a3, a4, a5, a6, fun j hj => ?_, w + 1, by omega, q0⟩
    rw [q11]
    by_cases e : j = w
    · rw [e, pk_us]; exact ⟨i, hi, rfl⟩
    · rw [pk_un e]; exact a7 j hj
  · refine ⟨w + 1, by omega, q0, fun j hj => ?_, fun a b ha hb e => ?_⟩
    · rw [q11]
      by_cases e : j = w
      · rw [e, pk_us]; exact ⟨i, hi, rfl, by rw [q7, pk_us]⟩
      · rw [pk_un e]
        obtain ⟨d, hd, ed, sd⟩ := h3 j (by omega)
        refine ⟨d, hd, ed, ?_⟩
        rw [q7]
        by_cases e2 : d = i
        · rw [e2, pk_us]
        · rw [pk_un e2]; exact sd
    · rw [q11, q11] at e
      have ne : ∀ a, a < w → τ 11 a ≠ nI i := fun a ha q => by
        obtain ⟨d, hd, ed, sd⟩ := h3 a ha
        have : d = i := (nI_eq (by omega) (by omega)).mp (ed.symm.trans q)
        rw [this, h1] at sd; exact absurd sd (by decide)
      by_cases ea : a = w
      · by_cases eb : b = w
        · omega
        · rw [ea, pk_us, pk_un eb] at e
          exact absurd e.symm (ne b (by omega))
      · by_cases eb : b = w
        · rw [eb, pk_us, pk_un ea] at e
          exact absurd e (ne a (by omega))
        · rw [pk_un ea, pk_un eb] at e
          exact h4 a b (by omega) (by omega) e
theorem qst_ok {σ : St} (hw : wf σ) (hq : qI σ) (S : Nat → Bool) : ∀ {i : Nat}, i ≤ 24 → wf (qst σ S i) ∧ qI (qst σ S i) := by
  intro i
  induction i with
  | zero => intro _; exact ⟨hw, hq⟩
  | succ i ih =>
    intro hi
    obtain ⟨h1, h2⟩ := ih (by omega)
    by_cases h : S i = true ∧ (qst σ S i) 7 i = nI 1
    · rw [qst_yes h]; exact enq_ok h1 h2 (by omega) h.2
    · rw [← qst_no h]; exact ⟨h1, h2⟩
def shq (f : Nat → Int32) (n : Nat) : Nat → Int32 := fun j => if j < n then f (j + 1) else f j
theorem shq_s (f : Nat → Int32) (i : Nat) : upd (shq f i) i (shq f i (i + 1)) = shq f (i + 1) := by
  funext j
  by_cases e : j = i
  · subst e; rw [pk_us]; unfold shq; rw [if_neg (by omega), if_pos (by omega)]
  · rw [pk_un e]; unfold shq
    by_cases q : j < i
    · rw [if_pos q, if_pos (by omega)]
    · rw [if_neg q, if_neg (by omega)]
theorem shq_0 (f : Nat → Int32) : shq f 0 = f := by funext j; unfold shq; rw [if_neg (by omega)]
def deqN (σ : St) (w i : Nat) : St := va_up (va_up σ 0 (upd (σ 0) 1 (nI w))) 11 (shq (σ 11) i)
def deq (σ : St) (w : Nat) : St := deqN σ w w
theorem deqN_s (σ : St) (w i : Nat) : va_up (deqN σ w i) 11 (upd (shq (σ 11) i) i (shq (σ 11) i (i + 1))) = deqN σ w (i + 1) := by
  rw [shq_s]
  unfold deqN
  funext k
  by_cases e : k = 11
  · rw [e, va_up_self, va_up_self]
  · rw [va_up_ne _ _ e, va_up_ne _ _ e, va_up_ne _ _ e]
def act (σ : St) (c a : Nat) : St := match a with
  | 1 => va_up σ 10 (upd (σ 10) (σ 9 c).toNatClampNeg (nI c))
  | 2 => if σ 1 c = 0 then va_up σ 10 (upd (σ 10) (σ 9 c).toNatClampNeg (σ 3 (c * 3 + 0))) else σ
  | 3 => emp σ c
  | _ => σ
/-- one collection more -/
def col1 (σ : St) : St := va_up σ 0 (upd (σ 0) 3 (σ 0 3 + nI 1))
theorem wf_0 {σ : St} (h : wf σ) : wf (col1 σ) := h
theorem qI_col {σ : St} (h : qI σ) : qI (col1 σ) := h
theorem qI_fgo {σ u : St} {S : Nat → Bool} {i : Nat} (h : fgo σ S i u) (hq : qI σ) : qI u := by
  have e0 := h.1 0 (by decide) (by decide) (by decide) (by decide)
  have e7 := h.1 7 (by decide) (by decide) (by decide) (by decide)
  have e11 := h.1 11 (by decide) (by decide) (by decide) (by decide)
  unfold qI
  rw [e0, e7, e11]; exact hq
/-- what a collection of the class does -/
def colX (σ : St) (v : Int32) (u : St) : Prop := ∃ (x0 L : Int32) (σ2 : St) (q : Int32) (w : Nat) (K : Int32) (σ4 : St),
  (lo24 x0 ∧ ∀ c, c < 24 → (bt x0 c = true ↔ ∃ r, r < 6 ∧ (col1 σ) 10 r = nI c)) ∧ (lo24 L ∧ ∀ c, c < 24 → (bt L c = true ↔ rch (col1 σ) (fun d => bt x0 d = true) c)) ∧ fgo (col1 σ) (fun d => bt L d) 24 σ2 ∧
  w ≤ 24 ∧ (qst σ2 (fun d => bt (σ2 0 0 &&& (L ^^^ -1)) d) 24) 0 1 = nI w ∧ (lo24 q ∧ ∀ c, c < 24 → (bt q c = true ↔ ∃ r, r < w ∧ (qst σ2 (fun d => bt (σ2 0 0 &&& (L ^^^ -1)) d) 24) 11 r = nI c)) ∧
  (lo24 K ∧ ∀ c, c < 24 → (bt K c = true ↔ rch (qst σ2 (fun d => bt (σ2 0 0 &&& (L ^^^ -1)) d) 24) (fun d => bt (L ||| q) d = true) c)) ∧ fgo (qst σ2 (fun d => bt (σ2 0 0 &&& (L ^^^ -1)) d) 24) (fun d => bt K d) 24 σ4 ∧
  v = nI (num (fun c => bt (σ4 0 0 &&& (K ^^^ -1)) c) 32) ∧ u = va_up σ4 0 (upd (σ4 0) 0 K)
set_option maxHeartbeats 4000000 in
set_option maxRecDepth 100000 in
theorem c_queueWaiting {l : Launch} {D : va_G} {cI cB cL : ClassId} {h : Nat → Nat} {σ : St} (hw : wf σ) (hq : qI σ) {x : Int32} : zMet l y_queueWaiting w_queueWaiting rm_queueWaiting D zCl (zTy cI cB cL) (wx h cI σ) [.ref (h 0), .int x] (qv (wx h cI) (fun u => u = qst σ (fun d => bt x d) 24) noXs) 0 0 0 0 := by
  refine z_meth (by decide) rfl (Nat.le_of_ble_eq_true rfl) (fun p e s mm as bl me cd Z hr hnm ht => ?_)
  refine z_iconst Z (nI 0) d_queueWaiting_0 zi_0 ?_
  refine z_istore_n Z 2 d_queueWaiting_1 rfl (by decide) rfl ?_
  refine z_lv (lv' := [(0, .ref (h 0)), (1, .int x), (2, .int (nI 0))]) rfl ?_
  refine z_ws (ws' := wx h cI (qst σ (fun d => bt x d) 0)) rfl ?_
  refine z_loop (fun i : Nat => i ≤ 24) (fun i : Nat => 24 - i) (fun i : Nat => wx h cI (qst σ (fun d => bt x d) i)) (fun i : Nat => [(0, .ref (h 0)), (1, .int x), (2, .int (nI i))]) (fun i hi ih => ?_) 0 (by omega)
  obtain ⟨hwi, hqi⟩ := qst_ok hw hq (fun d => bt x d) hi
  refine z_iload_n Z 2 d_queueWaiting_2 rfl rfl ?_
  refine z_bipush Z (nI 24) d_queueWaiting_3 zb_24 ?_
  refine z_icmpN_ge Z 68 d_queueWaiting_5 (by decide) (by omega) (by omega) (fun h5 => ?_) (fun h5 => ?_)
  · obtain rfl : i = 24 := by omega
    refine z_rv Z _ hr d_queueWaiting_68 (by decide) (by decide) rfl ?_
    rfl
  · refine z_iload_n Z 1 d_queueWaiting_8 rfl rfl ?_
    refine z_iload_n Z 2 d_queueWaiting_9 rfl rfl ?_
    refine z_S0 Z (c_contains (by omega)) (ok_contains _) rfl rfl ⟨by decide, by decide⟩ rfl rfl (Nat.le_of_ble_eq_true rfl) d_queueWaiting_10 ⟨by decide, by decide⟩ (fun v10 h10 => ?_)
    refine z_if_eq Z 62 d_queueWaiting_13 (by decide) (fun h13 => ?_) (fun h13 => ?_)
    · refine z_iincN Z 2 d_queueWaiting_62 rfl (by decide) rfl ?_
      refine z_goto Z 2 d_queueWaiting_65 (by decide) ?_
      exact z_ws (by rw [qst_no (fun q => by have q1 := q.1; rw [zB0 h10 h13] at q1; cases q1)]) (z_lv rfl (ih (i + 1) (by omega) (by omega)))
    · refine z_aload_n Z 0 d_queueWaiting_16 rfl rfl ?_
      refine xg_7 Z d_queueWaiting_17 ?_
      refine z_iload_n Z 2 d_queueWaiting_20 rfl rfl ?_
      refine xl_7 Z (by omega) d_queueWaiting_21 ?_
      refine z_iconst Z (nI 1) d_queueWaiting_22 zi_1 ?_
      refine z_icmp_ne Z 62 d_queueWaiting_23 (by decide) (fun h23 => ?_) (fun h23 => ?_)
      · refine z_iincN Z 2 d_queueWaiting_62 rfl (by decide) rfl ?_
        refine z_goto Z 2 d_queueWaiting_65 (by decide) ?_
        exact z_ws (by rw [qst_no (fun q => h23 q.2)]) (z_lv rfl (ih (i + 1) (by omega) (by omega)))
      · obtain ⟨w, hw24, ew, -, -⟩ := id hqi
        have hwl : w < 24 := qI_room hqi ew hw24 (by omega) h23
        have ecl : ((qst σ (fun d => bt x d) i) 0 1).toNatClampNeg = w := by rw [ew, nI_clamp (by omega)]
        refine z_aload_n Z 0 d_queueWaiting_26 rfl rfl ?_
        refine xn_1 Z d_queueWaiting_27 ?_
        refine z_bipush Z (nI 24) d_queueWaiting_30 zb_24 ?_
        refine z_eqi2 ew ?_
        refine z_icmpN_ge Z 62 d_queueWaiting_32 (by decide) (by omega) (by omega) (fun hx => absurd hx (by omega)) (fun h32 => ?_)
        refine z_aload_n Z 0 d_queueWaiting_35 rfl rfl ?_
        refine xg_7 Z d_queueWaiting_36 ?_
        refine z_iload_n Z 2 d_queueWaiting_39 rfl rfl ?_
        refine z_iconst Z (nI 2) d_queueWaiting_40 zi_2 ?_
        refine xs_7 Z (by omega) d_queueWaiting_41 ?_
        refine z_aload_n Z 0 d_queueWaiting_42 rfl rfl ?_
        refine xg_11 Z d_queueWaiting_43 ?_
        refine z_aload_n Z 0 d_queueWaiting_46 rfl rfl ?_
        refine xn_1 Z d_queueWaiting_47 ?_
        refine z_eqi (y := nI w) ew ?_
        refine z_iload_n Z 2 d_queueWaiting_50 rfl rfl ?_
        refine xs_11 Z (by omega) d_queueWaiting_51 ?_
        refine z_aload_n Z 0 d_queueWaiting_52 rfl rfl ?_
        refine z_dup Z d_queueWaiting_53 ?_
        refine xn_1 Z d_queueWaiting_54 ?_
        refine z_eqi (y := nI w) ew ?_
        refine z_iconst Z (nI 1) d_queueWaiting_57 zi_1 ?_
        refine z_iaddN Z d_queueWaiting_58 ?_
        refine xp_1 Z d_queueWaiting_59 ?_
        refine z_iincN Z 2 d_queueWaiting_62 rfl (by decide) rfl ?_
        refine z_goto Z 2 d_queueWaiting_65 (by decide) ?_
        refine z_ws (ws' := wx h cI (qst σ (fun d => bt x d) (i + 1))) (by rw [qst_yes ⟨zB1 h10 h13, h23⟩, enq, ecl]; rfl) ?_
        exact z_lv rfl (ih (i + 1) (by omega) (by omega))
set_option maxHeartbeats 4000000 in
set_option maxRecDepth 100000 in
theorem c_takeFirstQueued {l : Launch} {D : va_G} {cI cB cL : ClassId} {h : Nat → Nat} {σ : St} (hw : wf σ) {w : Nat} (hl : w < 24) (ew : σ 0 1 = nI (w + 1)) : zMet l y_takeFirstQueued w_takeFirstQueued rm_takeFirstQueued D zCl (zTy cI cB cL) (wx h cI σ) [.ref (h 0)] (qi (wx h cI) (fun v u => v = σ 11 0 ∧ u = deq σ w) noXs) 0 0 0 0 := by
  refine z_meth (by decide) rfl (Nat.le_of_ble_eq_true rfl) (fun p e s mm as bl me cd Z hr hnm ht => ?_)
  refine z_aload_n Z 0 d_takeFirstQueued_0 rfl rfl ?_
  refine xg_11 Z d_takeFirstQueued_1 ?_
  refine z_iconst Z (nI 0) d_takeFirstQueued_4 zi_0 ?_
  refine xl_11 Z (by omega) d_takeFirstQueued_5 ?_
  refine z_istore_n Z 1 d_takeFirstQueued_6 rfl (by decide) rfl ?_
  refine z_aload_n Z 0 d_takeFirstQueued_7 rfl rfl ?_
  refine z_dup Z d_takeFirstQueued_8 ?_
  refine xn_1 Z d_takeFirstQueued_9 ?_
  refine z_eqi ew ?_
  refine z_iconst Z (nI 1) d_takeFirstQueued_12 zi_1 ?_
  refine z_isubN Z d_takeFirstQueued_13 (by omega) ?_
  refine xp_1 Z d_takeFirstQueued_14 ?_
  refine z_iconst Z (nI 0) d_takeFirstQueued_17 zi_0 ?_
  refine z_istore_n Z 2 d_takeFirstQueued_18 rfl (by decide) rfl ?_
  refine z_lv (lv' := [(0, .ref (h 0)), (1, .int (σ 11 0)), (2, .int (nI 0))]) rfl ?_
  refine z_ws (ws' := wx h cI (deqN σ w 0)) rfl ?_
  refine z_loop (fun i : Nat => i ≤ w) (fun i : Nat => w - i) (fun i : Nat => wx h cI (deqN σ w i)) (fun i : Nat => [(0, .ref (h 0)), (1, .int (σ 11 0)), (2, .int (nI i))]) (fun i hi ih => ?_) 0 (by omega)
  refine z_iload_n Z 2 d_takeFirstQueued_19 rfl rfl ?_
  refine z_aload_n Z 0 d_takeFirstQueued_20 rfl rfl ?_
  refine xn_1 Z d_takeFirstQueued_21 ?_
  refine z_eqi (y := nI w) rfl ?_
  refine z_icmpN_ge Z 47 d_takeFirstQueued_24 (by decide) (by omega) (by omega) (fun h24 => ?_) (fun h24 => ?_)
  · obtain rfl : i = w := by omega
    refine z_iload_n Z 1 d_takeFirstQueued_47 rfl rfl ?_
    refine z_ri Z _ hr rfl d_takeFirstQueued_48 (by decide) (by decide) rfl ?_
    exact ⟨rfl, rfl⟩
  · refine z_aload_n Z 0 d_takeFirstQueued_27 rfl rfl ?_
    refine xg_11 Z d_takeFirstQueued_28 ?_
    refine z_iload_n Z 2 d_takeFirstQueued_31 rfl rfl ?_
    refine z_aload_n Z 0 d_takeFirstQueued_32 rfl rfl ?_
    refine xg_11 Z d_takeFirstQueued_33 ?_
    refine z_iload_n Z 2 d_takeFirstQueued_36 rfl rfl ?_
    refine z_iconst Z (nI 1) d_takeFirstQueued_37 zi_1 ?_
    refine z_iaddN Z d_takeFirstQueued_38 ?_
    refine xl_11 Z (by omega) d_takeFirstQueued_39 ?_
    refine xs_11 Z (by omega) d_takeFirstQueued_40 ?_
    refine z_iincN Z 2 d_takeFirstQueued_41 rfl (by decide) rfl ?_
    refine z_goto Z 19 d_takeFirstQueued_44 (by decide) ?_
    refine z_ws (ws' := wx h cI (deqN σ w (i + 1))) (by rw [← deqN_s]; rfl) ?_
    exact z_lv rfl (ih (i + 1) (by omega) (by omega))
set_option maxHeartbeats 4000000 in
set_option maxRecDepth 100000 in
theorem c_performAction {l : Launch} {D : va_G} {cI cB cL : ClassId} {h : Nat → Nat} {σ : St} (hw : wf σ) {c : Nat} (hc : c < 24) {a : Nat} (ea : σ 8 c = nI a) (ha : a < 4) : zMet l y_performAction w_performAction rm_performAction D zCl (zTy cI cB cL) (wx h cI σ) [.ref (h 0), .int (nI c)] (qv (wx h cI) (fun u => u = act σ c a) noXs) 0 0 0 0 := by
  obtain ⟨t, ht6, et⟩ := hw.2.2.2.2.1 c hc
  have ect : (σ 9 c).toNatClampNeg = t := by rw [et, nI_clamp (by omega)]
  refine z_meth (by decide) rfl (Nat.le_of_ble_eq_true rfl) (fun p e s mm as bl me cd Z hr hnm ht => ?_)
  refine z_aload_n Z 0 d_performAction_0 rfl rfl ?_
  refine xg_8 Z d_performAction_1 ?_
  refine z_iload_n Z 1 d_performAction_4 rfl rfl ?_
  refine xl_8 Z (by omega) d_performAction_5 ?_
  refine z_eqi ea ?_
  rcases (show a = 0 ∨ a = 1 ∨ a = 2 ∨ a = 3 by omega) with rfl | rfl | rfl | rfl
  · refine z_tableOut Z 88 d_performAction_6 (Or.inl (by decide)) (by decide) ?_
    refine z_rv Z _ hr d_performAction_88 (by decide) (by decide) rfl ?_
    rfl
  · refine z_tableIn Z 32 (off := 26) d_performAction_6 (by decide) (by decide) (by decide) (by decide) ?_
    refine z_aload_n Z 0 d_performAction_32 rfl rfl ?_
    refine xg_10 Z d_performAction_33 ?_
    refine z_aload_n Z 0 d_performAction_36 rfl rfl ?_
    refine xg_9 Z d_performAction_37 ?_
    refine z_iload_n Z 1 d_performAction_40 rfl rfl ?_
    refine xl_9 Z (by omega) d_performAction_41 ?_
    refine z_eqi et ?_
    refine z_iload_n Z 1 d_performAction_42 rfl rfl ?_
    refine xs_10 Z (by omega) d_performAction_43 ?_
    refine z_goto Z 88 d_performAction_44 (by decide) ?_
    refine z_rv Z _ hr d_performAction_88 (by decide) (by decide) rfl ?_
    show _ = va_up σ 10 (upd (σ 10) (σ 9 c).toNatClampNeg (nI c))
    rw [ect]
  · refine z_tableIn Z 47 (off := 41) d_performAction_6 (by decide) (by decide) (by decide) (by decide) ?_
    refine z_aload_n Z 0 d_performAction_47 rfl rfl ?_
    refine xg_1 Z d_performAction_48 ?_
    refine z_iload_n Z 1 d_performAction_51 rfl rfl ?_
    refine xl_1 Z (by omega) d_performAction_52 ?_
    refine z_if_ne Z 88 d_performAction_53 (by decide) (fun h53 => ?_) (fun h53 => ?_)
    · refine z_rv Z _ hr d_performAction_88 (by decide) (by decide) rfl ?_
      show σ = if _ then _ else _
      rw [if_neg h53]
    · refine z_aload_n Z 0 d_performAction_56 rfl rfl ?_
      refine xg_10 Z d_performAction_57 ?_
      refine z_aload_n Z 0 d_performAction_60 rfl rfl ?_
      refine xg_9 Z d_performAction_61 ?_
      refine z_iload_n Z 1 d_performAction_64 rfl rfl ?_
      refine xl_9 Z (by omega) d_performAction_65 ?_
      refine z_eqi et ?_
      refine z_aload_n Z 0 d_performAction_66 rfl rfl ?_
      refine xg_3 Z d_performAction_67 ?_
      refine z_iload_n Z 1 d_performAction_70 rfl rfl ?_
      refine z_iconst Z (nI 0) d_performAction_71 zi_0 ?_
      refine z_S0 Z (c_fieldSlot ) (ok_fieldSlot _) rfl rfl ⟨by decide, by decide⟩ rfl rfl (Nat.le_of_ble_eq_true rfl) d_performAction_72 ⟨by decide, by decide⟩ (fun v72 h72 => ?_)
      subst h72
      refine xl_3 Z (by omega) d_performAction_75 ?_
      refine xs_10 Z (by omega) d_performAction_76 ?_
      refine z_goto Z 88 d_performAction_77 (by decide) ?_
      refine z_rv Z _ hr d_performAction_88 (by decide) (by decide) rfl ?_
      show _ = if _ then _ else _
      rw [if_pos h53, ect]
  · refine z_tableIn Z 80 (off := 74) d_performAction_6 (by decide) (by decide) (by decide) (by decide) ?_
    refine z_aload_n Z 0 d_performAction_80 rfl rfl ?_
    refine z_iload_n Z 1 d_performAction_81 rfl rfl ?_
    refine z_Wv Z (c_emptyThing hc) (ok_emptyThing _) rfl rfl ⟨by decide, by decide⟩ rfl rfl rfl rfl (Nat.le_of_ble_eq_true rfl) d_performAction_82 ⟨by decide, by decide⟩ (fun E u h => h.elim) (fun u82 h82 => ?_)
    subst h82
    refine z_goto Z 88 d_performAction_85 (by decide) ?_
    refine z_rv Z _ hr d_performAction_88 (by decide) (by decide) rfl ?_
    rfl
