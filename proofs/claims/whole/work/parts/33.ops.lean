/-! call by call: the same answer, the same exception, and the states belong together again -/
theorem c_T {σ : St} {c : Nat} {x : Int32} (hc : c < 24) (e : x = nI c) (hb : bt (σ 0 0) c = true) : isT σ x := ⟨c, hc, e, hb⟩
theorem T_c {σ : St} {c : Nat} (hc : c < 24) (h : isT σ (nI c)) : al σ c := (isT_nI hc).mp h
theorem xx {s t : String} {A : Prop} {B : Prop} (hne : s ≠ t) (h : (s = s ∧ A) ∨ (s = t ∧ B)) : A := by
  rcases h with h | h
  · exact h.2
  · exact absurd h.1 hne
theorem o_kind {σ τ : St} (h : Rel σ τ) {x : Int32} {y : Int32} {τ' : St} (hm : (fun v u => (¬ tM τ x ∧ u = th τ 1) ∨ (∃ c, c < 24 ∧ x = nI c ∧ tM τ x ∧ v = τ 1 c + nI 4 * τ 7 c ∧ u = th τ 0)) y τ') : Rel σ τ' ∧ (∀ z, (fun v => ∃ c, c < 24 ∧ x = nI c ∧ bt (σ 0 0) c = true ∧ v = σ 1 c + nI 4 * σ 7 c) z → τ' 0 0 = nI 0 ∧ z = y) ∧ ((fun E => E = "java/util/NoSuchElementException" ∧ ¬ isT σ x) "java/util/NoSuchElementException" → τ' 0 0 = nI 1) := by
  rcases hm with ⟨q, rfl⟩ | ⟨c, hc, rfl, q, rfl, rfl⟩
  · refine ⟨h, fun z ⟨c, hc, e, hb, _⟩ => absurd ((R_T h _).mp (c_T hc e hb)) q, fun _ => rfl⟩
  · refine ⟨h, fun z ⟨c', hc', e, hb, ez⟩ => ⟨rfl, ?_⟩, fun hX => absurd ((R_T h _).mpr q) hX.2⟩
    obtain rfl := nI_i hc hc' e
    obtain ⟨r1, r2, r3, r4, r7, r8⟩ := (R_C h hc hb).1
    rw [ez, r1, r7]
theorem o_serial {σ τ : St} (h : Rel σ τ) {x : Int32} {y : Int32} {τ' : St} (hm : (fun v u => (¬ tM τ x ∧ u = th τ 1) ∨ (∃ c, c < 24 ∧ x = nI c ∧ tM τ x ∧ v = τ 2 c ∧ u = th τ 0)) y τ') : Rel σ τ' ∧ (∀ z, (fun v => ∃ c, c < 24 ∧ x = nI c ∧ bt (σ 0 0) c = true ∧ v = σ 2 c) z → τ' 0 0 = nI 0 ∧ z = y) ∧ ((fun E => E = "java/util/NoSuchElementException" ∧ ¬ isT σ x) "java/util/NoSuchElementException" → τ' 0 0 = nI 1) := by
  rcases hm with ⟨q, rfl⟩ | ⟨c, hc, rfl, q, rfl, rfl⟩
  · refine ⟨h, fun z ⟨c, hc, e, hb, _⟩ => absurd ((R_T h _).mp (c_T hc e hb)) q, fun _ => rfl⟩
  · refine ⟨h, fun z ⟨c', hc', e, hb, ez⟩ => ⟨rfl, ?_⟩, fun hX => absurd ((R_T h _).mpr q) hX.2⟩
    obtain rfl := nI_i hc hc' e
    obtain ⟨r1, r2, r3, r4, r7, r8⟩ := (R_C h hc hb).1
    rw [ez, r2]
theorem o_rootAt {σ τ : St} (h : Rel σ τ) {r : Int32} {y : Int32} {τ' : St} (hm : (fun v u => (¬ isR r ∧ u = th τ 1) ∨ (∃ j, j < 6 ∧ r = nI j ∧ v = τ 10 j ∧ u = th τ 0)) y τ') : Rel σ τ' ∧ (∀ z, (fun v => ∃ j, j < 6 ∧ r = nI j ∧ v = σ 10 j) z → τ' 0 0 = nI 0 ∧ z = y) ∧ ((fun E => E = "java/lang/IndexOutOfBoundsException" ∧ ¬ isR r) "java/lang/IndexOutOfBoundsException" → τ' 0 0 = nI 1) := by
  rcases hm with ⟨q, rfl⟩ | ⟨j, hj, rfl, rfl, rfl⟩
  · exact ⟨h, fun z ⟨j, hj, e, _⟩ => absurd ⟨j, hj, e⟩ q, fun _ => rfl⟩
  · refine ⟨h, fun z ⟨j', hj', e, ez⟩ => ⟨rfl, ?_⟩, fun hX => absurd ⟨j, hj, rfl⟩ hX.2⟩
    obtain rfl := nI_i (by omega) (by omega) e
    rw [ez, (R_R h j hj).1]
theorem o_get {σ τ : St} (h : Rel σ τ) {x f : Int32} {y : Int32} {τ' : St} (hm : (fun v u => (¬ tM τ x ∧ u = th τ 1) ∨ (tM τ x ∧ ¬ isF τ x f ∧ u = th τ 2) ∨ (∃ c j, c < 24 ∧ x = nI c ∧ tM τ x ∧ j < fc (τ 1 c) ∧ f = nI j ∧ v = τ 3 (c * 3 + j) ∧ u = th τ 0)) y τ') : Rel σ τ' ∧ (∀ z, (fun v => ∃ c j, c < 24 ∧ x = nI c ∧ bt (σ 0 0) c = true ∧ j < fc (σ 1 c) ∧ f = nI j ∧ v = σ 3 (c * 3 + j)) z → τ' 0 0 = nI 0 ∧ z = y) ∧ ((fun E => (E = "java/util/NoSuchElementException" ∧ ¬ isT σ x) ∨ (E = "java/lang/IllegalArgumentException" ∧ isT σ x ∧ ¬ isF σ x f)) "java/util/NoSuchElementException" → τ' 0 0 = nI 1) ∧ ((fun E => (E = "java/util/NoSuchElementException" ∧ ¬ isT σ x) ∨ (E = "java/lang/IllegalArgumentException" ∧ isT σ x ∧ ¬ isF σ x f)) "java/lang/IllegalArgumentException" → τ' 0 0 = nI 2) := by
  rcases hm with ⟨q, rfl⟩ | ⟨q1, q2, rfl⟩ | ⟨c, j, hc, rfl, q, hj, rfl, rfl, rfl⟩
  · refine ⟨h, fun z ⟨c, j, hc, e, hb, _⟩ => absurd ((R_T h _).mp (c_T hc e hb)) q, fun _ => rfl, fun hX => ?_⟩
    rcases hX with ⟨e, -⟩ | ⟨-, hT, -⟩
    · exact absurd e (by decide)
    · exact absurd ((R_T h _).mp hT) q
  · have hT := (R_T h _).mpr q1
    refine ⟨h, fun z ⟨c, j, hc, e, hb, hj, ef, _⟩ => absurd ⟨c, j, hc, e, hj, ef⟩ (fun y => q2 ((R_F h hT).mp y)), fun hX => ?_, fun _ => rfl⟩
    exact absurd hT (xx (by decide) hX)
  · have hT := (R_T h _).mpr q
    have hb := T_c hc hT
    obtain ⟨r1, r2, r3, r4, r7, r8⟩ := (R_C h hc hb).1
    rw [← r1] at hj
    refine ⟨h, fun z ⟨c', j', hc', e, hb', hj', ef, ez⟩ => ⟨rfl, ?_⟩, fun hX => ?_, fun hX => ?_⟩
    · obtain rfl := nI_i hc hc' e
      have f1 := fc_le (σ 1 c)
      obtain rfl := nI_i (a := j) (b := j') (by omega) (by omega) ef
      rw [ez, r3 j hj]
    · exact absurd hT (xx (by decide) hX)
    · rcases hX with ⟨e, -⟩ | ⟨-, -, hn⟩
      · exact absurd e (by decide)
      · exact absurd ⟨c, j, hc, rfl, hj, rfl⟩ hn
theorem o_find {σ τ : St} (h : Rel σ τ) {x k : Int32} {y : Int32} {τ' : St} (hm : (fun v u => fndM τ x k v u) y τ') : Rel σ τ' ∧ (∀ z, (fun v => ∃ c, c < 24 ∧ x = nI c ∧ bt (σ 0 0) c = true ∧ isT σ k ∧ σ 1 c = nI 2 ∧ ((∃ i, i < cnt σ c ∧ σ 4 (c * 4 + i) = k ∧ v = σ 5 (c * 4 + i)) ∨ ((∀ j, j < cnt σ c → σ 4 (c * 4 + j) ≠ k) ∧ v = -1))) z → τ' 0 0 = nI 0 ∧ z = y) ∧ ((fun E => (E = "java/util/NoSuchElementException" ∧ ¬ (isT σ x ∧ isT σ k)) ∨ (E = "java/lang/IllegalArgumentException" ∧ (isT σ x ∧ isT σ k) ∧ ¬ isTab σ x)) "java/util/NoSuchElementException" → τ' 0 0 = nI 1) ∧ ((fun E => (E = "java/util/NoSuchElementException" ∧ ¬ (isT σ x ∧ isT σ k)) ∨ (E = "java/lang/IllegalArgumentException" ∧ (isT σ x ∧ isT σ k) ∧ ¬ isTab σ x)) "java/lang/IllegalArgumentException" → τ' 0 0 = nI 2) := by
  rcases hm with ⟨c, hc, rfl, qx, qk, q2, rfl, hv⟩ | ⟨⟨qx, qk⟩, qt, rfl⟩ | ⟨q, rfl⟩
  · have hT := (R_T h _).mpr qx
    have hK := (R_T h _).mpr qk
    have hb := T_c hc hT
    obtain ⟨⟨r1, r2, r3, r4, r7, r8⟩, -, -, -, i4⟩ := R_C h hc hb
    rw [← r1] at q2
    have eE := r4 q2
    have eC := cnt_of_ent eE
    refine ⟨h, fun z ⟨c', hc', e, hb', _, _, hz⟩ => ⟨rfl, ?_⟩, fun hX => ?_, fun hX => ?_⟩
    · obtain rfl := nI_i hc hc' e
      rcases hz with ⟨i, hi, ek, ez⟩ | ⟨hno, ez⟩ <;> rcases hv with ⟨j, hj, ek', ey⟩ | ⟨hno', ey⟩
      · obtain ⟨a4, a5⟩ := ent_at eE hi
        have : j = i := by
          refine (ent_key (i4 q2).2 (by omega) hi ?_)
          rw [(ent_at eE (show j < cnt σ c by omega)).1, ek', ek]
        subst this
        rw [ez, ey, a5]
      · exact absurd (by rw [← (ent_at eE hi).1]; exact ek) (hno' i (by omega))
      · exact absurd (by rw [(ent_at eE (show j < cnt σ c by omega)).1]; exact ek') (hno j (by omega))
      · rw [ez, ey]
    · exact absurd ⟨hT, hK⟩ (xx (by decide) hX)
    · rcases hX with ⟨e, -⟩ | ⟨-, -, hn⟩
      · exact absurd e (by decide)
      · exact absurd ((isTab_nI hc).mpr q2) hn
  · have hT := (R_T h _).mpr qx
    have hK := (R_T h _).mpr qk
    refine ⟨h, fun z ⟨c', hc', e, hb', _, q2, hz⟩ => absurd ((R_tab h hT).mp (by rw [e]; exact (isTab_nI hc').mpr q2)) qt, fun hX => ?_, fun _ => rfl⟩
    exact absurd ⟨hT, hK⟩ (xx (by decide) hX)
  · refine ⟨h, fun z ⟨c', hc', e, hb', hk, _⟩ => absurd ⟨(R_T h _).mp (c_T hc' e hb'), (R_T h _).mp hk⟩ q, fun _ => rfl, fun hX => ?_⟩
    rcases hX with ⟨e, -⟩ | ⟨-, ⟨a, b⟩, -⟩
    · exact absurd e (by decide)
    · exact absurd ⟨(R_T h _).mp a, (R_T h _).mp b⟩ q
theorem k3 {σ : St} {x i : Int32} {E : String} (hX : (fun E => (E = "java/util/NoSuchElementException" ∧ ¬ isT σ x) ∨ (E = "java/lang/IllegalArgumentException" ∧ isT σ x ∧ ¬ isTab σ x) ∨ (E = "java/lang/IndexOutOfBoundsException" ∧ isT σ x ∧ ∃ c, c < 24 ∧ x = nI c ∧ σ 1 c = nI 2 ∧ ¬ ∃ j, j < cnt σ c ∧ i = nI j)) E) : (E = "java/util/NoSuchElementException" → ¬ isT σ x) ∧ (E = "java/lang/IllegalArgumentException" → ¬ isTab σ x) := by
  rcases hX with ⟨rfl, hX⟩ | ⟨rfl, hX⟩ | ⟨rfl, hX⟩
  · exact ⟨fun _ => hX, fun e => absurd e (by decide)⟩
  · exact ⟨fun e => absurd e (by decide), fun _ => hX.2⟩
  · exact ⟨fun e => absurd e (by decide), fun e => absurd e (by decide)⟩
theorem o_key {σ τ : St} (h : Rel σ τ) {x i : Int32} {y : Int32} {τ' : St} (hm : (fun v u => (¬ tM τ x ∧ u = th τ 1) ∨ (tM τ x ∧ ¬ isTab τ x ∧ u = th τ 2) ∨ (∃ c, c < 24 ∧ x = nI c ∧ tM τ x ∧ τ 1 c = nI 2 ∧ ((¬ (∃ j, j < cnt τ c ∧ i = nI j) ∧ u = th τ 3) ∨ (∃ j, j < cnt τ c ∧ i = nI j ∧ v = τ 4 (c * 4 + j) ∧ u = th τ 0)))) y τ') : Rel σ τ' ∧ (∀ z, (fun v => ∃ c j, c < 24 ∧ x = nI c ∧ bt (σ 0 0) c = true ∧ σ 1 c = nI 2 ∧ j < cnt σ c ∧ i = nI j ∧ v = σ 4 (c * 4 + j)) z → τ' 0 0 = nI 0 ∧ z = y) ∧ ((fun E => (E = "java/util/NoSuchElementException" ∧ ¬ isT σ x) ∨ (E = "java/lang/IllegalArgumentException" ∧ isT σ x ∧ ¬ isTab σ x) ∨ (E = "java/lang/IndexOutOfBoundsException" ∧ isT σ x ∧ ∃ c, c < 24 ∧ x = nI c ∧ σ 1 c = nI 2 ∧ ¬ ∃ j, j < cnt σ c ∧ i = nI j)) "java/util/NoSuchElementException" → τ' 0 0 = nI 1) ∧ ((fun E => (E = "java/util/NoSuchElementException" ∧ ¬ isT σ x) ∨ (E = "java/lang/IllegalArgumentException" ∧ isT σ x ∧ ¬ isTab σ x) ∨ (E = "java/lang/IndexOutOfBoundsException" ∧ isT σ x ∧ ∃ c, c < 24 ∧ x = nI c ∧ σ 1 c = nI 2 ∧ ¬ ∃ j, j < cnt σ c ∧ i = nI j)) "java/lang/IllegalArgumentException" → τ' 0 0 = nI 2) ∧ ((fun E => (E = "java/util/NoSuchElementException" ∧ ¬ isT σ x) ∨ (E = "java/lang/IllegalArgumentException" ∧ isT σ x ∧ ¬ isTab σ x) ∨ (E = "java/lang/IndexOutOfBoundsException" ∧ isT σ x ∧ ∃ c, c < 24 ∧ x = nI c ∧ σ 1 c = nI 2 ∧ ¬ ∃ j, j < cnt σ c ∧ i = nI j)) "java/lang/IndexOutOfBoundsException" → τ' 0 0 = nI 3) := by
  rcases hm with ⟨q, rfl⟩ | ⟨q1, q2, rfl⟩ | ⟨c, hc, rfl, q, q2, hv⟩
  · refine ⟨h, fun z ⟨c, j, hc, e, hb, _⟩ => absurd ((R_T h _).mp (c_T hc e hb)) q, fun _ => rfl, fun hX => ?_, fun hX => ?_⟩
    · rcases hX with ⟨e, -⟩ | ⟨-, hT, -⟩ | ⟨e, -⟩
      · exact absurd e (by decide)
      · exact absurd ((R_T h _).mp hT) q
      · exact absurd e (by decide)
    · rcases hX with ⟨e, -⟩ | ⟨e, -⟩ | ⟨-, hT, -⟩
      · exact absurd e (by decide)
      · exact absurd e (by decide)
      · exact absurd ((R_T h _).mp hT) q
  · have hT := (R_T h _).mpr q1
    refine ⟨h, fun z ⟨c, j, hc, e, hb, h2, _⟩ => absurd ((R_tab h hT).mp (by rw [e]; exact (isTab_nI hc).mpr h2)) q2, fun hX => ?_, fun _ => rfl, fun hX => ?_⟩
    · rcases hX with ⟨-, hn⟩ | ⟨e, -⟩ | ⟨e, -⟩
      · exact absurd hT hn
      · exact absurd e (by decide)
      · exact absurd e (by decide)
    · rcases hX with ⟨e, -⟩ | ⟨e, -⟩ | ⟨-, -, c, hc, e, h2, -⟩
      · exact absurd e (by decide)
      · exact absurd e (by decide)
      · exact absurd ((R_tab h hT).mp (by rw [e]; exact (isTab_nI hc).mpr h2)) q2
  · have hT := (R_T h _).mpr q
    have hb := T_c hc hT
    obtain ⟨r1, r2, r3, r4, r7, r8⟩ := (R_C h hc hb).1
    rw [← r1] at q2
    have eE := r4 q2
    have eC := cnt_of_ent eE
    have n4 := (wf_cnt (R_w1 h) hc).1
    rcases hv with ⟨hno, rfl⟩ | ⟨j, hj, rfl, rfl, rfl⟩
    · refine ⟨h, fun z ⟨c', j, hc', e, hb', _, hj, ei, _⟩ => ?_, fun hX => ((k3 hX).1 rfl hT).elim, fun hX => ((k3 hX).2 rfl ((isTab_nI hc).mpr q2)).elim, fun _ => rfl⟩
      obtain rfl := nI_i hc hc' e
      exact absurd ⟨j, by omega, ei⟩ hno
    · refine ⟨h, fun z ⟨c', j', hc', e, hb', _, hj', ei, ez⟩ => ⟨rfl, ?_⟩, fun hX => ((k3 hX).1 rfl hT).elim, fun hX => ((k3 hX).2 rfl ((isTab_nI hc).mpr q2)).elim, fun hX => ?_⟩
      · obtain rfl := nI_i hc hc' e
        obtain rfl := nI_i (a := j) (b := j') (by omega) (by omega) ei
        rw [ez, (ent_at eE hj').1]
      · rcases hX with ⟨e, -⟩ | ⟨e, -⟩ | ⟨-, -, c', hc', e, -, hno⟩
        · exact absurd e (by decide)
        · exact absurd e (by decide)
        · obtain rfl := nI_i hc hc' e
          exact absurd ⟨j, by omega, rfl⟩ hno
theorem o_set {σ τ : St} (h : Rel σ τ) {x f t : Int32} {τ' : St} (hm : (fun u => (¬ (tM τ x ∧ (t = -1 ∨ tM τ t)) ∧ u = th τ 1) ∨ ((tM τ x ∧ (t = -1 ∨ tM τ t)) ∧ ¬ isF τ x f ∧ u = th τ 2) ∨ (∃ c j, c < 24 ∧ x = nI c ∧ tM τ x ∧ (t = -1 ∨ tM τ t) ∧ j < fc (τ 1 c) ∧ f = nI j ∧ u = va_up (th τ 0) 3 (upd (τ 3) (c * 3 + j) t))) τ') : (∀ s, (fun u => ∃ c j, c < 24 ∧ x = nI c ∧ bt (σ 0 0) c = true ∧ (t = -1 ∨ isT σ t) ∧ j < fc (σ 1 c) ∧ f = nI j ∧ u = va_up σ 3 (upd (σ 3) (c * 3 + j) t)) s → τ' 0 0 = nI 0 ∧ Rel s τ') ∧ (∀ s, (fun E u => u = σ ∧ ((E = "java/util/NoSuchElementException" ∧ ¬ (isT σ x ∧ (t = -1 ∨ isT σ t))) ∨ (E = "java/lang/IllegalArgumentException" ∧ (isT σ x ∧ (t = -1 ∨ isT σ t)) ∧ ¬ isF σ x f))) "java/util/NoSuchElementException" s → τ' 0 0 = nI 1 ∧ Rel s τ') ∧ (∀ s, (fun E u => u = σ ∧ ((E = "java/util/NoSuchElementException" ∧ ¬ (isT σ x ∧ (t = -1 ∨ isT σ t))) ∨ (E = "java/lang/IllegalArgumentException" ∧ (isT σ x ∧ (t = -1 ∨ isT σ t)) ∧ ¬ isF σ x f))) "java/lang/IllegalArgumentException" s → τ' 0 0 = nI 2 ∧ Rel s τ') := by
  rcases hm with ⟨q, rfl⟩ | ⟨⟨qx, qt⟩, qf, rfl⟩ | ⟨c, j, hc, rfl, qx, qt, hj, rfl, rfl⟩
  · have hn : ¬ (isT σ x ∧ (t = -1 ∨ isT σ t)) := fun y => q ⟨(R_T h _).mp y.1, (R_Tn h _).mp y.2⟩
    refine ⟨fun s ⟨c, j, hc, e, hb, ht, _⟩ => absurd ⟨c_T hc e hb, ht⟩ hn, fun s hX => ?_, fun s hX => ?_⟩
    · obtain ⟨rfl, -⟩ := hX
      exact ⟨rfl, h⟩
    · obtain ⟨-, ⟨e, -⟩ | ⟨-, y, -⟩⟩ := hX
      · exact absurd e (by decide)
      · exact absurd y hn
  · have hT := (R_T h _).mpr qx
    refine ⟨fun s ⟨c, j, hc, e, hb, ht, hj, ef, _⟩ => absurd ((R_F h hT).mp ⟨c, j, hc, e, hj, ef⟩) qf, fun s hX => ?_, fun s hX => ?_⟩
    · obtain ⟨-, hX⟩ := hX
      exact absurd ⟨hT, (R_Tn h _).mpr qt⟩ (xx (by decide) hX)
    · obtain ⟨rfl, -⟩ := hX
      exact ⟨rfl, h⟩
  · have hT := (R_T h _).mpr qx
    have ht := (R_Tn h _).mpr qt
    have hb := T_c hc hT
    have r1 := (R_C h hc hb).1.1
    rw [← r1] at hj
    refine ⟨fun s ⟨c', j', hc', e, hb', _, hj', ef, es⟩ => ⟨rfl, ?_⟩, fun s hX => ?_, fun s hX => ?_⟩
    · obtain rfl := nI_i hc hc' e
      have f1 := fc_le (σ 1 c)
      obtain rfl := nI_i (a := j) (b := j') (by omega) (by omega) ef
      rw [es]
      exact Rel_set h hc hb hj ht
    · exact absurd ⟨hT, ht⟩ (xx (by decide) hX.2)
    · obtain ⟨-, ⟨e, -⟩ | ⟨-, -, hn⟩⟩ := hX
      · exact absurd e (by decide)
      · exact absurd ⟨c, j, hc, rfl, hj, rfl⟩ hn
theorem o_root {σ τ : St} (h : Rel σ τ) {r x : Int32} {τ' : St} (hm : (fun u => (¬ isR r ∧ u = th τ 1) ∨ (isR r ∧ ¬ (x = -1 ∨ tM τ x) ∧ u = th τ 2) ∨ (∃ j, j < 6 ∧ r = nI j ∧ (x = -1 ∨ tM τ x) ∧ u = va_up (th τ 0) 10 (upd (τ 10) j x))) τ') : (∀ s, (fun u => ∃ j, j < 6 ∧ r = nI j ∧ (x = -1 ∨ isT σ x) ∧ u = va_up σ 10 (upd (σ 10) j x)) s → τ' 0 0 = nI 0 ∧ Rel s τ') ∧ (∀ s, (fun E u => u = σ ∧ ((E = "java/lang/IndexOutOfBoundsException" ∧ ¬ isR r) ∨ (E = "java/util/NoSuchElementException" ∧ isR r ∧ ¬ (x = -1 ∨ isT σ x)))) "java/lang/IndexOutOfBoundsException" s → τ' 0 0 = nI 1 ∧ Rel s τ') ∧ (∀ s, (fun E u => u = σ ∧ ((E = "java/lang/IndexOutOfBoundsException" ∧ ¬ isR r) ∨ (E = "java/util/NoSuchElementException" ∧ isR r ∧ ¬ (x = -1 ∨ isT σ x)))) "java/util/NoSuchElementException" s → τ' 0 0 = nI 2 ∧ Rel s τ') := by
  rcases hm with ⟨q, rfl⟩ | ⟨qr, q, rfl⟩ | ⟨j, hj, rfl, q, rfl⟩
  · refine ⟨fun s ⟨j, hj, e, _⟩ => absurd ⟨j, hj, e⟩ q, fun s hX => ?_, fun s hX => ?_⟩
    · obtain ⟨rfl, -⟩ := hX
      exact ⟨rfl, h⟩
    · obtain ⟨-, ⟨e, -⟩ | ⟨-, y, -⟩⟩ := hX
      · exact absurd e (by decide)
      · exact absurd y q
  · refine ⟨fun s ⟨j, hj, e, hx, _⟩ => absurd ((R_Tn h _).mp hx) q, fun s hX => ?_, fun s hX => ?_⟩
    · exact absurd qr (xx (by decide) hX.2)
    · obtain ⟨rfl, -⟩ := hX
      exact ⟨rfl, h⟩
  · have hx := (R_Tn h _).mpr q
    refine ⟨fun s ⟨j', hj', e, _, es⟩ => ⟨rfl, ?_⟩, fun s hX => ?_, fun s hX => ?_⟩
    · obtain rfl := nI_i (a := j) (b := j') (by omega) (by omega) e
      rw [es]
      exact Rel_root (τ := th τ 0) h hx
    · exact absurd ⟨j, hj, rfl⟩ (xx (by decide) hX.2)
    · obtain ⟨-, ⟨e, -⟩ | ⟨-, -, hn⟩⟩ := hX
      · exact absurd e (by decide)
      · exact absurd hx hn
theorem g4 {σ : St} {x a r : Int32} {E : String} {s : St} (hX : (fun E u => u = σ ∧ ((E = "java/util/NoSuchElementException" ∧ ¬ isT σ x) ∨ (E = "java/lang/IllegalArgumentException" ∧ isT σ x ∧ ¬ isA a) ∨ (E = "java/lang/IndexOutOfBoundsException" ∧ isT σ x ∧ isA a ∧ ¬ isR r) ∨ (E = "java/lang/IllegalStateException" ∧ isT σ x ∧ isA a ∧ isR r ∧ ∃ c, c < 24 ∧ x = nI c ∧ ¬ σ 7 c = 0))) E s) : s = σ ∧ (E = "java/util/NoSuchElementException" → ¬ isT σ x) ∧ (E = "java/lang/IllegalArgumentException" → isT σ x ∧ ¬ isA a) ∧ (E = "java/lang/IndexOutOfBoundsException" → isT σ x ∧ isA a ∧ ¬ isR r) ∧ (E = "java/lang/IllegalStateException" → isT σ x ∧ isA a ∧ isR r ∧ ∃ c, c < 24 ∧ x = nI c ∧ ¬ σ 7 c = 0) := by
  obtain ⟨rfl, hX⟩ := hX
  rcases hX with ⟨rfl, hX⟩ | ⟨rfl, hX⟩ | ⟨rfl, hX⟩ | ⟨rfl, hX⟩
  · exact ⟨rfl, fun _ => hX, fun e => absurd e (by decide), fun e => absurd e (by decide), fun e => absurd e (by decide)⟩
  · exact ⟨rfl, fun e => absurd e (by decide), fun _ => hX, fun e => absurd e (by decide), fun e => absurd e (by decide)⟩
  · exact ⟨rfl, fun e => absurd e (by decide), fun e => absurd e (by decide), fun _ => hX, fun e => absurd e (by decide)⟩
  · exact ⟨rfl, fun e => absurd e (by decide), fun e => absurd e (by decide), fun e => absurd e (by decide), fun _ => hX⟩
theorem o_guard {σ τ : St} (h : Rel σ τ) {x a r : Int32} {τ' : St} (hm : (fun u => (¬ tM τ x ∧ u = th τ 1) ∨ (tM τ x ∧ ¬ isA a ∧ u = th τ 2) ∨ (tM τ x ∧ isA a ∧ ¬ isR r ∧ u = th τ 3) ∨ (∃ c, c < 24 ∧ x = nI c ∧ tM τ x ∧ isA a ∧ isR r ∧ ((¬ τ 7 c ≤ 0 ∧ u = th τ 4) ∨ (τ 7 c ≤ 0 ∧ u = grd (th τ 0) c a r)))) τ') : (∀ s, (fun u => ∃ c i j, c < 24 ∧ x = nI c ∧ bt (σ 0 0) c = true ∧ i < 4 ∧ a = nI i ∧ j < 6 ∧ r = nI j ∧ σ 7 c = 0 ∧ u = grd σ c a r) s → τ' 0 0 = nI 0 ∧ Rel s τ') ∧ (∀ s, (fun E u => u = σ ∧ ((E = "java/util/NoSuchElementException" ∧ ¬ isT σ x) ∨ (E = "java/lang/IllegalArgumentException" ∧ isT σ x ∧ ¬ isA a) ∨ (E = "java/lang/IndexOutOfBoundsException" ∧ isT σ x ∧ isA a ∧ ¬ isR r) ∨ (E = "java/lang/IllegalStateException" ∧ isT σ x ∧ isA a ∧ isR r ∧ ∃ c, c < 24 ∧ x = nI c ∧ ¬ σ 7 c = 0))) "java/util/NoSuchElementException" s → τ' 0 0 = nI 1 ∧ Rel s τ') ∧ (∀ s, (fun E u => u = σ ∧ ((E = "java/util/NoSuchElementException" ∧ ¬ isT σ x) ∨ (E = "java/lang/IllegalArgumentException" ∧ isT σ x ∧ ¬ isA a) ∨ (E = "java/lang/IndexOutOfBoundsException" ∧ isT σ x ∧ isA a ∧ ¬ isR r) ∨ (E = "java/lang/IllegalStateException" ∧ isT σ x ∧ isA a ∧ isR r ∧ ∃ c, c < 24 ∧ x = nI c ∧ ¬ σ 7 c = 0))) "java/lang/IllegalArgumentException" s → τ' 0 0 = nI 2 ∧ Rel s τ') ∧ (∀ s, (fun E u => u = σ ∧ ((E = "java/util/NoSuchElementException" ∧ ¬ isT σ x) ∨ (E = "java/lang/IllegalArgumentException" ∧ isT σ x ∧ ¬ isA a) ∨ (E = "java/lang/IndexOutOfBoundsException" ∧ isT σ x ∧ isA a ∧ ¬ isR r) ∨ (E = "java/lang/IllegalStateException" ∧ isT σ x ∧ isA a ∧ isR r ∧ ∃ c, c < 24 ∧ x = nI c ∧ ¬ σ 7 c = 0))) "java/lang/IndexOutOfBoundsException" s → τ' 0 0 = nI 3 ∧ Rel s τ') ∧ (∀ s, (fun E u => u = σ ∧ ((E = "java/util/NoSuchElementException" ∧ ¬ isT σ x) ∨ (E = "java/lang/IllegalArgumentException" ∧ isT σ x ∧ ¬ isA a) ∨ (E = "java/lang/IndexOutOfBoundsException" ∧ isT σ x ∧ isA a ∧ ¬ isR r) ∨ (E = "java/lang/IllegalStateException" ∧ isT σ x ∧ isA a ∧ isR r ∧ ∃ c, c < 24 ∧ x = nI c ∧ ¬ σ 7 c = 0))) "java/lang/IllegalStateException" s → τ' 0 0 = nI 4 ∧ Rel s τ') := by
  rcases hm with ⟨q, rfl⟩ | ⟨qx, qa, rfl⟩ | ⟨qx, qa, qr, rfl⟩ | ⟨c, hc, rfl, qx, qa, qr, hv⟩
  · have hn : ¬ isT σ x := fun y => q ((R_T h _).mp y)
    refine ⟨fun s ⟨c, i, j, hc, e, hb, _⟩ => absurd (c_T hc e hb) hn, fun s hX => ?_, fun s hX => ?_, fun s hX => ?_, fun s hX => ?_⟩
    · rw [(g4 hX).1]; exact ⟨rfl, h⟩
    · exact absurd ((g4 hX).2.2.1 rfl).1 hn
    · exact absurd ((g4 hX).2.2.2.1 rfl).1 hn
    · exact absurd ((g4 hX).2.2.2.2 rfl).1 hn
  · have hT := (R_T h _).mpr qx
    refine ⟨fun s ⟨c, i, j, hc, e, hb, hi, ea, _⟩ => absurd ⟨i, hi, ea⟩ qa, fun s hX => ?_, fun s hX => ?_, fun s hX => ?_, fun s hX => ?_⟩
    · exact absurd hT ((g4 hX).2.1 rfl)
    · rw [(g4 hX).1]; exact ⟨rfl, h⟩
    · exact absurd ((g4 hX).2.2.2.1 rfl).2.1 qa
    · exact absurd ((g4 hX).2.2.2.2 rfl).2.1 qa
  · have hT := (R_T h _).mpr qx
    refine ⟨fun s ⟨c, i, j, hc, e, hb, hi, ea, hj, er, _⟩ => absurd ⟨j, hj, er⟩ qr, fun s hX => ?_, fun s hX => ?_, fun s hX => ?_, fun s hX => ?_⟩
    · exact absurd hT ((g4 hX).2.1 rfl)
    · exact absurd qa ((g4 hX).2.2.1 rfl).2
    · rw [(g4 hX).1]; exact ⟨rfl, h⟩
    · exact absurd ((g4 hX).2.2.2.2 rfl).2.2.1 qr
  · have hT := (R_T h _).mpr qx
    have hb := T_c hc hT
    obtain ⟨⟨r1, r2, r3, r4, r7, r8⟩, i1, ⟨t, ht4, et⟩, -⟩ := R_C h hc hb
    rcases hv with ⟨h7, rfl⟩ | ⟨h7, rfl⟩
    · have h0 : ¬ σ 7 c = 0 := fun y => h7 (by rw [← r7, y]; decide)
      refine ⟨fun s ⟨c', i, j, hc', e, _, _, _, _, _, z, _⟩ => ?_, fun s hX => ?_, fun s hX => ?_, fun s hX => ?_, fun s hX => ?_⟩
      · obtain rfl := nI_i hc hc' e
        exact absurd z h0
      · exact absurd hT ((g4 hX).2.1 rfl)
      · exact absurd qa ((g4 hX).2.2.1 rfl).2
      · exact absurd qr ((g4 hX).2.2.2.1 rfl).2.2
      · rw [(g4 hX).1]; exact ⟨rfl, h⟩
    · have h0 : σ 7 c = 0 := by
        rw [← r7, et] at h7
        have : t ≤ 0 := (nI_leI (by omega) (by decide)).mp h7
        rw [et, show t = 0 by omega]; rfl
      refine ⟨fun s ⟨c', i, j, hc', e, _, hi, ea, hj, er, _, es⟩ => ⟨rfl, ?_⟩, fun s hX => ?_, fun s hX => ?_, fun s hX => ?_, fun s hX => ?_⟩
      · obtain rfl := nI_i hc hc' e
        rw [es]; exact Rel_guard h hc hb h0 qa qr
      · exact absurd hT ((g4 hX).2.1 rfl)
      · exact absurd qa ((g4 hX).2.2.1 rfl).2
      · exact absurd qr ((g4 hX).2.2.2.1 rfl).2.2
      · obtain ⟨-, -, -, c', hc', e, z⟩ := (g4 hX).2.2.2.2 rfl
        obtain rfl := nI_i hc hc' e
        exact absurd h0 z
theorem o_remove {σ τ : St} (h : Rel σ τ) {x k : Int32} {y : Int32} {τ' : St} (hm : (fun v u => remM τ x k v u) y τ') : (∀ z s, (fun v u => ∃ c, c < 24 ∧ x = nI c ∧ bt (σ 0 0) c = true ∧ isT σ k ∧ σ 1 c = nI 2 ∧ ((∃ i, i < cnt σ c ∧ σ 4 (c * 4 + i) = k ∧ v = nI 1 ∧ u = drp σ c i) ∨ ((∀ j, j < cnt σ c → σ 4 (c * 4 + j) ≠ k) ∧ v = nI 0 ∧ u = σ))) z s → τ' 0 0 = nI 0 ∧ z = y ∧ Rel s τ') ∧ (∀ s, (fun E u => u = σ ∧ ((E = "java/util/NoSuchElementException" ∧ ¬ (isT σ x ∧ isT σ k)) ∨ (E = "java/lang/IllegalArgumentException" ∧ (isT σ x ∧ isT σ k) ∧ ¬ isTab σ x))) "java/util/NoSuchElementException" s → τ' 0 0 = nI 1 ∧ Rel s τ') ∧ (∀ s, (fun E u => u = σ ∧ ((E = "java/util/NoSuchElementException" ∧ ¬ (isT σ x ∧ isT σ k)) ∨ (E = "java/lang/IllegalArgumentException" ∧ (isT σ x ∧ isT σ k) ∧ ¬ isTab σ x))) "java/lang/IllegalArgumentException" s → τ' 0 0 = nI 2 ∧ Rel s τ') := by
  rcases hm with ⟨c, hc, rfl, qx, qk, q2, hv⟩ | ⟨⟨qx, qk⟩, qt, rfl⟩ | ⟨q, rfl⟩
  · have hT := (R_T h _).mpr qx
    have hK := (R_T h _).mpr qk
    have hb := T_c hc hT
    obtain ⟨⟨r1, r2, r3, r4, r7, r8⟩, -, -, -, i4⟩ := R_C h hc hb
    rw [← r1] at q2
    have eE := r4 q2
    have eC := cnt_of_ent eE
    refine ⟨fun z s ⟨c', hc', e, hb', _, _, hz⟩ => ?_, fun s hX => ?_, fun s hX => ?_⟩
    · obtain rfl := nI_i hc hc' e
      rcases hz with ⟨i, hi, ek, ez, es⟩ | ⟨hno, ez, es⟩ <;> rcases hv with ⟨j, hj, ek', ey, et⟩ | ⟨hno', ey, et⟩
      · have : j = i := by
          refine (ent_key (i4 q2).2 (by omega) hi ?_)
          rw [(ent_at eE (show j < cnt σ c by omega)).1, ek', ek]
        subst this
        rw [et]
        exact ⟨rfl, ez.trans ey.symm, by rw [es]; exact Rel_drp h hc hb q2 hi⟩
      · exact absurd (by rw [← (ent_at eE hi).1]; exact ek) (hno' i (by omega))
      · exact absurd (by rw [(ent_at eE (show j < cnt σ c by omega)).1]; exact ek') (hno j (by omega))
      · rw [et]
        exact ⟨rfl, ez.trans ey.symm, by rw [es]; exact h⟩
    · exact absurd ⟨hT, hK⟩ (xx (by decide) hX.2)
    · obtain ⟨-, ⟨e, -⟩ | ⟨-, -, hn⟩⟩ := hX
      · exact absurd e (by decide)
      · exact absurd ((isTab_nI hc).mpr q2) hn
  · have hT := (R_T h _).mpr qx
    have hK := (R_T h _).mpr qk
    refine ⟨fun z s ⟨c', hc', e, hb', _, q2, hz⟩ => absurd ((R_tab h hT).mp (by rw [e]; exact (isTab_nI hc').mpr q2)) qt, fun s hX => ?_, fun s hX => ?_⟩
    · exact absurd ⟨hT, hK⟩ (xx (by decide) hX.2)
    · obtain ⟨rfl, -⟩ := hX
      exact ⟨rfl, h⟩
  · refine ⟨fun z s ⟨c', hc', e, hb', hk, _⟩ => absurd ⟨(R_T h _).mp (c_T hc' e hb'), (R_T h _).mp hk⟩ q, fun s hX => ?_, fun s hX => ?_⟩
    · obtain ⟨rfl, -⟩ := hX
      exact ⟨rfl, h⟩
    · obtain ⟨-, ⟨e, -⟩ | ⟨-, ⟨a, b⟩, -⟩⟩ := hX
      · exact absurd e (by decide)
      · exact absurd ⟨(R_T h _).mp a, (R_T h _).mp b⟩ q
theorem p3 {σ : St} {x k v : Int32} {E : String} {s : St} (hX : (fun E u => u = σ ∧ ((E = "java/util/NoSuchElementException" ∧ ¬ (isT σ x ∧ isT σ k ∧ isT σ v)) ∨ (E = "java/lang/IllegalArgumentException" ∧ (isT σ x ∧ isT σ k ∧ isT σ v) ∧ ¬ isTab σ x) ∨ (E = "java/lang/IllegalStateException" ∧ (isT σ x ∧ isT σ k ∧ isT σ v) ∧ ∃ c, c < 24 ∧ x = nI c ∧ σ 1 c = nI 2 ∧ cnt σ c = 4 ∧ ∀ j, j < cnt σ c → σ 4 (c * 4 + j) ≠ k))) E s) : s = σ ∧ (E = "java/util/NoSuchElementException" → ¬ (isT σ x ∧ isT σ k ∧ isT σ v)) ∧ (E = "java/lang/IllegalArgumentException" → (isT σ x ∧ isT σ k ∧ isT σ v) ∧ ¬ isTab σ x) ∧ (E = "java/lang/IllegalStateException" → (isT σ x ∧ isT σ k ∧ isT σ v) ∧ ∃ c, c < 24 ∧ x = nI c ∧ σ 1 c = nI 2 ∧ cnt σ c = 4 ∧ ∀ j, j < cnt σ c → σ 4 (c * 4 + j) ≠ k) := by
  obtain ⟨rfl, hX⟩ := hX
  rcases hX with ⟨rfl, hX⟩ | ⟨rfl, hX⟩ | ⟨rfl, hX⟩
  · exact ⟨rfl, fun _ => hX, fun e => absurd e (by decide), fun e => absurd e (by decide)⟩
  · exact ⟨rfl, fun e => absurd e (by decide), fun _ => hX, fun e => absurd e (by decide)⟩
  · exact ⟨rfl, fun e => absurd e (by decide), fun e => absurd e (by decide), fun _ => hX⟩
theorem o_put {σ τ : St} (h : Rel σ τ) {x k v : Int32} {y : Int32} {τ' : St} (hm : (fun r u => putM τ x k v r u) y τ') : (∀ z s, (fun r u => ∃ c, c < 24 ∧ x = nI c ∧ bt (σ 0 0) c = true ∧ isT σ k ∧ isT σ v ∧ σ 1 c = nI 2 ∧ ((∃ i, i < cnt σ c ∧ σ 4 (c * 4 + i) = k ∧ r = nI 0 ∧ u = va_up σ 5 (upd (σ 5) (c * 4 + i) v)) ∨ ((∀ j, j < cnt σ c → σ 4 (c * 4 + j) ≠ k) ∧ cnt σ c < 4 ∧ r = nI 1 ∧ u = apd σ c k v))) z s → τ' 0 0 = nI 0 ∧ z = y ∧ Rel s τ') ∧ (∀ s, (fun E u => u = σ ∧ ((E = "java/util/NoSuchElementException" ∧ ¬ (isT σ x ∧ isT σ k ∧ isT σ v)) ∨ (E = "java/lang/IllegalArgumentException" ∧ (isT σ x ∧ isT σ k ∧ isT σ v) ∧ ¬ isTab σ x) ∨ (E = "java/lang/IllegalStateException" ∧ (isT σ x ∧ isT σ k ∧ isT σ v) ∧ ∃ c, c < 24 ∧ x = nI c ∧ σ 1 c = nI 2 ∧ cnt σ c = 4 ∧ ∀ j, j < cnt σ c → σ 4 (c * 4 + j) ≠ k))) "java/util/NoSuchElementException" s → τ' 0 0 = nI 1 ∧ Rel s τ') ∧ (∀ s, (fun E u => u = σ ∧ ((E = "java/util/NoSuchElementException" ∧ ¬ (isT σ x ∧ isT σ k ∧ isT σ v)) ∨ (E = "java/lang/IllegalArgumentException" ∧ (isT σ x ∧ isT σ k ∧ isT σ v) ∧ ¬ isTab σ x) ∨ (E = "java/lang/IllegalStateException" ∧ (isT σ x ∧ isT σ k ∧ isT σ v) ∧ ∃ c, c < 24 ∧ x = nI c ∧ σ 1 c = nI 2 ∧ cnt σ c = 4 ∧ ∀ j, j < cnt σ c → σ 4 (c * 4 + j) ≠ k))) "java/lang/IllegalArgumentException" s → τ' 0 0 = nI 2 ∧ Rel s τ') ∧ (∀ s, (fun E u => u = σ ∧ ((E = "java/util/NoSuchElementException" ∧ ¬ (isT σ x ∧ isT σ k ∧ isT σ v)) ∨ (E = "java/lang/IllegalArgumentException" ∧ (isT σ x ∧ isT σ k ∧ isT σ v) ∧ ¬ isTab σ x) ∨ (E = "java/lang/IllegalStateException" ∧ (isT σ x ∧ isT σ k ∧ isT σ v) ∧ ∃ c, c < 24 ∧ x = nI c ∧ σ 1 c = nI 2 ∧ cnt σ c = 4 ∧ ∀ j, j < cnt σ c → σ 4 (c * 4 + j) ≠ k))) "java/lang/IllegalStateException" s → τ' 0 0 = nI 3 ∧ Rel s τ') := by
  rcases hm with ⟨q, rfl⟩ | ⟨⟨qx, qk, qv⟩, hm⟩
  · have hn : ¬ (isT σ x ∧ isT σ k ∧ isT σ v) := fun y => q ⟨(R_T h _).mp y.1, (R_T h _).mp y.2.1, (R_T h _).mp y.2.2⟩
    refine ⟨fun z s ⟨c, hc, e, hb, hk, hv, _⟩ => absurd ⟨c_T hc e hb, hk, hv⟩ hn, fun s hX => ?_, fun s hX => ?_, fun s hX => ?_⟩
    · rw [(p3 hX).1]; exact ⟨rfl, h⟩
    · exact absurd ((p3 hX).2.2.1 rfl).1 hn
    · exact absurd ((p3 hX).2.2.2 rfl).1 hn
  · have hT := (R_T h _).mpr qx
    have hK := (R_T h _).mpr qk
    have hV := (R_T h _).mpr qv
    rcases hm with ⟨qt, rfl⟩ | ⟨c, hc, rfl, q2, hm⟩
    · refine ⟨fun z s ⟨c, hc, e, hb, hk, hv, h2, _⟩ => absurd ((R_tab h hT).mp (by rw [e]; exact (isTab_nI hc).mpr h2)) qt, fun s hX => ?_, fun s hX => ?_, fun s hX => ?_⟩
      · exact absurd ⟨hT, hK, hV⟩ ((p3 hX).2.1 rfl)
      · rw [(p3 hX).1]; exact ⟨rfl, h⟩
      · obtain ⟨-, c, hc, e, h2, -⟩ := (p3 hX).2.2.2 rfl
        exact absurd ((R_tab h hT).mp (by rw [e]; exact (isTab_nI hc).mpr h2)) qt
    · have hb := T_c hc hT
      obtain ⟨⟨r1, r2, r3, r4, r7, r8⟩, -, -, -, i4⟩ := R_C h hc hb
      rw [← r1] at q2
      have eE := r4 q2
      have eC := cnt_of_ent eE
      rcases hm with ⟨h4, hno, rfl⟩ | ⟨j, hj, ek', rfl, rfl⟩ | ⟨hno, h4, rfl, rfl⟩
      · refine ⟨fun z s ⟨c', hc', e, _, _, _, _, hz⟩ => ?_, fun s hX => ((p3 hX).2.1 rfl ⟨hT, hK, hV⟩).elim, fun s hX => (((p3 hX).2.2.1 rfl).2 ((isTab_nI hc).mpr q2)).elim, fun s hX => ?_⟩
        · obtain rfl := nI_i hc hc' e
          rcases hz with ⟨i, hi, ek, -⟩ | ⟨-, hl, -⟩
          · exact absurd (by rw [← (ent_at eE hi).1]; exact ek) (hno i (by omega))
          · omega
        · rw [(p3 hX).1]; exact ⟨rfl, h⟩
      · refine ⟨fun z s ⟨c', hc', e, _, _, _, _, hz⟩ => ?_, fun s hX => ((p3 hX).2.1 rfl ⟨hT, hK, hV⟩).elim, fun s hX => (((p3 hX).2.2.1 rfl).2 ((isTab_nI hc).mpr q2)).elim, fun s hX => ?_⟩
        · obtain rfl := nI_i hc hc' e
          rcases hz with ⟨i, hi, ek, ez, es⟩ | ⟨hno, hl, -⟩
          · have : j = i := by
              refine (ent_key (i4 q2).2 (by omega) hi ?_)
              rw [(ent_at eE (show j < cnt σ c by omega)).1, ek', ek]
            subst this
            rw [es, ez]
            exact ⟨rfl, rfl, Rel_put h hc hb q2 hK hV hi ek⟩
          · exact absurd (by rw [(ent_at eE (show j < cnt σ c by omega)).1]; exact ek') (hno j (by omega))
        · obtain ⟨-, c', hc', e, -, -, hno⟩ := (p3 hX).2.2.2 rfl
          obtain rfl := nI_i hc hc' e
          exact absurd (by rw [(ent_at eE (show j < cnt σ c by omega)).1]; exact ek') (hno j (by omega))
      · refine ⟨fun z s ⟨c', hc', e, _, _, _, _, hz⟩ => ?_, fun s hX => ((p3 hX).2.1 rfl ⟨hT, hK, hV⟩).elim, fun s hX => (((p3 hX).2.2.1 rfl).2 ((isTab_nI hc).mpr q2)).elim, fun s hX => ?_⟩
        · obtain rfl := nI_i hc hc' e
          rcases hz with ⟨i, hi, ek, ez, es⟩ | ⟨hno', hl, ez, es⟩
          · exact absurd (by rw [← (ent_at eE hi).1]; exact ek) (hno i (by omega))
          · rw [es, ez]
            exact ⟨rfl, rfl, Rel_apd h hc hb q2 hK hV hno' hl⟩
        · obtain ⟨-, c', hc', e, -, h5, -⟩ := (p3 hX).2.2.2 rfl
          obtain rfl := nI_i hc hc' e
          omega
theorem o_make {σ τ : St} (h : Rel σ τ) {k : Int32} {y : Int32} {τ' : St} (hm : (fun v u => mkM τ k v u) y τ') : (∀ z s, (fun v u => isK k ∧ ((∃ c, lf σ c ∧ v = nI c ∧ u = plc σ c k) ∨ (full σ ∧ ∃ v1 σ1 c, colX σ v1 σ1 ∧ lf σ1 c ∧ v = nI c ∧ u = plc σ1 c k))) z s → τ' 0 0 = nI 0 ∧ z = y ∧ Rel s τ') ∧ (∀ s, (fun E u => (E = "java/lang/IllegalArgumentException" ∧ ¬ isK k ∧ u = σ) ∨ (E = "java/lang/IllegalStateException" ∧ isK k ∧ full σ ∧ ∃ v1, colX σ v1 u ∧ full u)) "java/lang/IllegalArgumentException" s → τ' 0 0 = nI 1 ∧ Rel s τ') ∧ (∀ s, (fun E u => (E = "java/lang/IllegalArgumentException" ∧ ¬ isK k ∧ u = σ) ∨ (E = "java/lang/IllegalStateException" ∧ isK k ∧ full σ ∧ ∃ v1, colX σ v1 u ∧ full u)) "java/lang/IllegalStateException" s → τ' 0 0 = nI 2 ∧ Rel s τ') := by
  rcases hm with ⟨q, rfl⟩ | ⟨hk, hm⟩
  · refine ⟨fun z s hz => absurd hz.1 q, fun s hX => ?_, fun s hX => ?_⟩
    · rcases hX with ⟨-, -, rfl⟩ | ⟨e, -⟩
      · exact ⟨rfl, h⟩
      · exact absurd e (by decide)
    · rcases hX with ⟨e, -⟩ | ⟨-, y, -⟩
      · exact absurd e (by decide)
      · exact absurd y q
  · have x1 : ∀ s, (fun E u => (E = "java/lang/IllegalArgumentException" ∧ ¬ isK k ∧ u = σ) ∨ (E = "java/lang/IllegalStateException" ∧ isK k ∧ full σ ∧ ∃ v1, colX σ v1 u ∧ full u)) "java/lang/IllegalArgumentException" s → False := fun s hX => by
      rcases hX with ⟨-, y, -⟩ | ⟨e, -⟩
      · exact y hk
      · exact absurd e (by decide)
    rcases hm with ⟨c, hl, rfl, rfl⟩ | ⟨hf, v1, σ1, hg, hm⟩
    · refine ⟨fun z s hz => ?_, fun s hX => (x1 s hX).elim, fun s hX => ?_⟩
      · rcases hz.2 with ⟨c', hl', rfl, rfl⟩ | ⟨hf, -⟩
        · obtain rfl := lf_lfM h hl' hl
          exact ⟨rfl, rfl, Rel_plc (τ := th (th τ 0) 0) h hl' hk⟩
        · exact (full_lf h hf hl).elim
      · rcases hX with ⟨e, -⟩ | ⟨-, -, hf, -⟩
        · exact absurd e (by decide)
        · exact (full_lf h hf hl).elim
    · have hh : ∀ v2 s1, colX σ v2 s1 → Rel s1 σ1 := fun v2 s1 hc => (Rel_collect (τ := th τ 0) h hc hg).2
      refine ⟨fun z s hz => ?_, fun s hX => (x1 s hX).elim, fun s hX => ?_⟩
      · rcases hz.2 with ⟨c', hl', -⟩ | ⟨-, v2, s1, c', hc', hl', rfl, rfl⟩
        · exact (lf_full h hl' hf).elim
        · have h1 := hh v2 s1 hc'
          rcases hm with ⟨c, hl, rfl, rfl⟩ | ⟨hf1, -⟩
          · obtain rfl := lf_lfM h1 hl' hl
            exact ⟨rfl, rfl, Rel_plc (τ := th σ1 0) h1 hl' hk⟩
          · exact (lf_full h1 hl' hf1).elim
      · rcases hX with ⟨e, -⟩ | ⟨-, -, -, v2, hc', hf'⟩
        · exact absurd e (by decide)
        · have h1 := hh v2 s hc'
          rcases hm with ⟨c, hl, -⟩ | ⟨hf1, rfl⟩
          · exact (full_lf h1 hf' hl).elim
          · exact ⟨rfl, h1⟩
theorem o_run {σ τ : St} (h : Rel σ τ) {w : Nat} (hw24 : w ≤ 24) (ew : σ 0 1 = nI w) {y : Int32} {τ' : St} (hm : (fun v u => (w = 0 ∧ u = th τ 1) ∨ ∃ w0 c a, w = w0 + 1 ∧ c < 24 ∧ τ 11 0 = nI c ∧ a < 4 ∧ τ 8 c = nI a ∧ v = nI c ∧ u = act (va_up (deq (th τ 0) w0) 7 (upd (τ 7) c (nI 3))) c a) y τ') : (∀ z s, (fun v u => ∃ w0 c a, w = w0 + 1 ∧ c < 24 ∧ σ 11 0 = nI c ∧ a < 4 ∧ σ 8 c = nI a ∧ v = nI c ∧ u = act (va_up (deq σ w0) 7 (upd (σ 7) c (nI 3))) c a) z s → τ' 0 0 = nI 0 ∧ z = y ∧ Rel s τ') ∧ (∀ s, (fun E u => u = σ ∧ E = "java/util/NoSuchElementException" ∧ w = 0) "java/util/NoSuchElementException" s → τ' 0 0 = nI 1 ∧ Rel s τ') := by
  rcases hm with ⟨e0, rfl⟩ | ⟨w0, c, a, e0, hc, ec, ha, ea, rfl, rfl⟩
  · refine ⟨fun z s ⟨w0, c, a, e, _⟩ => by omega, fun s hX => ?_⟩
    rw [hX.1]; exact ⟨rfl, h⟩
  · refine ⟨fun z s ⟨w1, c', a', e, hc', ec', ha', ea', ez, es⟩ => ?_, fun s hX => by have := hX.2.2; omega⟩
    obtain rfl : w1 = w0 := by omega
    subst e0
    obtain ⟨w2, hw2, ew2, hi⟩ := R_Q h
    have e2 : w2 = w1 + 1 := (nI_eq (by omega) (by omega)).mp (ew2.symm.trans ew)
    subst e2
    obtain ⟨q1, q2⟩ := hi 0 (by omega)
    obtain rfl : c' = c := nI_i hc' hc (ec'.symm.trans (q1.trans ec))
    have hb := q2 c' hc ec'
    obtain ⟨d, hd, e3, e4⟩ : ∃ d, d < 24 ∧ σ 11 0 = nI d ∧ σ 7 d = nI 2 := by
      obtain ⟨w3, hw3, ew3, h1, -⟩ := R_q1 h
      have : w3 = w1 + 1 := (nI_eq (by omega) (by omega)).mp (ew3.symm.trans ew)
      exact h1 0 (by omega)
    obtain rfl : d = c' := nI_i hd hc (e3.symm.trans ec')
    have e8 : σ 8 d = τ 8 d := ((R_C h hc hb).1.2.2.2.2.2 (by rw [e4]; decide)).1
    obtain rfl : a' = a := (nI_eq (by omega) (by omega)).mp (ea'.symm.trans (e8.trans ea))
    have h1 := Rel_deq h (by omega) ew hc ec'
    have h7 : ¬ (va_up (deq σ w1) 7 (upd (σ 7) d (nI 3))) 7 d = 0 := fun z => by
      have z : upd (σ 7) d (nI 3) d = 0 := z
      rw [pk_us] at z; exact absurd z (by decide)
    have h2 : Rel (act (va_up (deq σ w1) 7 (upd (σ 7) d (nI 3))) d a') (act (va_up (deq (th τ 0) w1) 7 (upd (τ 7) d (nI 3))) d a') := Rel_act h1 hc hb h7
    refine ⟨?_, ez, by rw [es]; exact h2⟩
    show (act (va_up (deq (th τ 0) w1) 7 (upd (τ 7) d (nI 3))) d a') 0 0 = nI 0
    match a' with
    | 0 => rfl
    | 1 => rfl
    | 2 =>
      show (if _ then _ else _ : St) 0 0 = nI 0
      split <;> rfl
    | 3 => rfl
    | n + 4 => rfl
theorem o_collect {σ τ : St} (h : Rel σ τ) {z y : Int32} {s τ' : St} (hx : colX σ z s) (hm : gatM (th τ 0) y τ') : z = y ∧ Rel s τ' := Rel_collect (τ := th τ 0) h hx hm
theorem o_used {σ τ : St} (h : Rel σ τ) {y : Int32} (hm : lo24 y ∧ ∀ c, c < 24 → (bt y c = true ↔ ¬ τ 1 c < 0)) : σ 0 0 = y := lo24_ext (R_A h).1 hm.1 (fun c hc => boolEq (((R_A h).2 c hc).trans (hm.2 c hc).symm))
theorem Rel_0 : Rel sX0 sM0 := by
  have m1 : ∀ c, c < 24 → sM0 1 c = -1 := fun c hc => fllM_lt _ hc
  have na : ∀ c, ¬ al sX0 c := fun c q => by
    have : bt (0 : Int32) c = true := q
    rw [b_0] at this; cases this
  have r10 : ∀ r, r < 6 → sX0 10 r = -1 := fun r hr => fllM_lt _ hr
  have wz : ∀ ρ : St, (∀ k, k ≠ 1 → k ≠ 10 → ρ k = z0 k) → (∀ r, r < 6 → ρ 10 r = -1) → wf ρ := fun ρ hz hr =>
    ⟨fun c _ => ⟨0, by decide, by rw [hz 6 (by decide) (by decide)]; rfl⟩, fun j _ => Or.inr ⟨0, by decide, by rw [hz 3 (by decide) (by decide)]; rfl⟩, fun j _ => ⟨0, by decide, by rw [hz 4 (by decide) (by decide)]; rfl⟩, fun j _ => ⟨0, by decide, by rw [hz 5 (by decide) (by decide)]; rfl⟩, fun c _ => ⟨0, by decide, by rw [hz 9 (by decide) (by decide)]; rfl⟩, fun r hr' => Or.inl (hr r hr'), fun i _ => ⟨0, by decide, by rw [hz 11 (by decide) (by decide)]; rfl⟩, 0, by decide, by rw [hz 0 (by decide) (by decide)]; rfl⟩
  refine ⟨⟨lo24_0, fun c hc => ⟨fun q => absurd q (na c), fun q => ?_⟩⟩, ⟨rfl, rfl, rfl⟩, fun c _ q => absurd q (na c), fun r hr => ⟨(r10 r hr).trans (fllM_lt _ hr).symm, fun d hd q => ?_⟩, ⟨0, by decide, rfl, fun i hi => absurd hi (Nat.not_lt_zero _)⟩, ⟨wz sX0 (fun k h1 h10 => va_up_ne _ _ h10) r10, wz sM0 (fun k h1 h10 => (va_up_ne _ _ h10).trans (va_up_ne _ _ h1)) (fun r hr => fllM_lt _ hr)⟩, ⟨0, by decide, rfl, fun i hi => absurd hi (Nat.not_lt_zero _), fun i j hi => absurd hi (Nat.not_lt_zero _)⟩, fun c _ => ⟨0, by decide, rfl⟩, fun c _ => ⟨0, by decide, rfl⟩⟩
  · rw [m1 c hc] at q; exact absurd (by decide) q
  · rw [r10 r hr] at q; exact absurd q.symm (nI_m1 (by omega))
