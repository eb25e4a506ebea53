theorem q_kind {σ τ : St} (h : Rel σ τ) {x : Int32} {kk y : Int32} {u : (Nat → Int64) × St} {τ' : St} (hk : (kk = nI 0 ∧ u.2 = σ ∧ ∃ z, (fun v => ∃ c, c < 24 ∧ x = nI c ∧ bt (σ 0 0) c = true ∧ v = σ 1 c + nI 4 * σ 7 c) z ∧ u.1 0 = z.toInt64) ∨ (kk = nI 1 ∧ u.2 = σ ∧ (fun E => E = "java/util/NoSuchElementException" ∧ ¬ isT σ x) "java/util/NoSuchElementException")) (hm : (fun v u => (¬ tM τ x ∧ u = th τ 1) ∨ (∃ c, c < 24 ∧ x = nI c ∧ tM τ x ∧ v = τ 1 c + nI 4 * τ 7 c ∧ u = th τ 0)) y τ') : τ' 0 0 = kk ∧ (kk = 0 → u.1 0 = y.toInt64) ∧ Rel u.2 τ' := by
  obtain ⟨o0, o1, o2⟩ := o_kind h hm
  rcases hk with ⟨rfl, e, z, hP, ez⟩ | ⟨rfl, e, hX⟩
  · obtain ⟨a1, a2⟩ := o1 z hP
    exact ⟨a1, fun _ => by rw [ez, a2], by rw [e]; exact o0⟩
  · exact ⟨o2 hX, fun q => absurd q (by decide), by rw [e]; exact o0⟩
theorem q_serial {σ τ : St} (h : Rel σ τ) {x : Int32} {kk y : Int32} {u : (Nat → Int64) × St} {τ' : St} (hk : (kk = nI 0 ∧ u.2 = σ ∧ ∃ z, (fun v => ∃ c, c < 24 ∧ x = nI c ∧ bt (σ 0 0) c = true ∧ v = σ 2 c) z ∧ u.1 0 = z.toInt64) ∨ (kk = nI 1 ∧ u.2 = σ ∧ (fun E => E = "java/util/NoSuchElementException" ∧ ¬ isT σ x) "java/util/NoSuchElementException")) (hm : (fun v u => (¬ tM τ x ∧ u = th τ 1) ∨ (∃ c, c < 24 ∧ x = nI c ∧ tM τ x ∧ v = τ 2 c ∧ u = th τ 0)) y τ') : τ' 0 0 = kk ∧ (kk = 0 → u.1 0 = y.toInt64) ∧ Rel u.2 τ' := by
  obtain ⟨o0, o1, o2⟩ := o_serial h hm
  rcases hk with ⟨rfl, e, z, hP, ez⟩ | ⟨rfl, e, hX⟩
  · obtain ⟨a1, a2⟩ := o1 z hP
    exact ⟨a1, fun _ => by rw [ez, a2], by rw [e]; exact o0⟩
  · exact ⟨o2 hX, fun q => absurd q (by decide), by rw [e]; exact o0⟩
theorem q_rootAt {σ τ : St} (h : Rel σ τ) {r : Int32} {kk y : Int32} {u : (Nat → Int64) × St} {τ' : St} (hk : (kk = nI 0 ∧ u.2 = σ ∧ ∃ z, (fun v => ∃ j, j < 6 ∧ r = nI j ∧ v = σ 10 j) z ∧ u.1 0 = z.toInt64) ∨ (kk = nI 1 ∧ u.2 = σ ∧ (fun E => E = "java/lang/IndexOutOfBoundsException" ∧ ¬ isR r) "java/lang/IndexOutOfBoundsException")) (hm : (fun v u => (¬ isR r ∧ u = th τ 1) ∨ (∃ j, j < 6 ∧ r = nI j ∧ v = τ 10 j ∧ u = th τ 0)) y τ') : τ' 0 0 = kk ∧ (kk = 0 → u.1 0 = y.toInt64) ∧ Rel u.2 τ' := by
  obtain ⟨o0, o1, o2⟩ := o_rootAt h hm
  rcases hk with ⟨rfl, e, z, hP, ez⟩ | ⟨rfl, e, hX⟩
  · obtain ⟨a1, a2⟩ := o1 z hP
    exact ⟨a1, fun _ => by rw [ez, a2], by rw [e]; exact o0⟩
  · exact ⟨o2 hX, fun q => absurd q (by decide), by rw [e]; exact o0⟩
theorem q_get {σ τ : St} (h : Rel σ τ) {x f : Int32} {kk y : Int32} {u : (Nat → Int64) × St} {τ' : St} (hk : (kk = nI 0 ∧ u.2 = σ ∧ ∃ z, (fun v => ∃ c j, c < 24 ∧ x = nI c ∧ bt (σ 0 0) c = true ∧ j < fc (σ 1 c) ∧ f = nI j ∧ v = σ 3 (c * 3 + j)) z ∧ u.1 0 = z.toInt64) ∨ (kk = nI 1 ∧ u.2 = σ ∧ (fun E => (E = "java/util/NoSuchElementException" ∧ ¬ isT σ x) ∨ (E = "java/lang/IllegalArgumentException" ∧ isT σ x ∧ ¬ isF σ x f)) "java/util/NoSuchElementException") ∨ (kk = nI 2 ∧ u.2 = σ ∧ (fun E => (E = "java/util/NoSuchElementException" ∧ ¬ isT σ x) ∨ (E = "java/lang/IllegalArgumentException" ∧ isT σ x ∧ ¬ isF σ x f)) "java/lang/IllegalArgumentException")) (hm : (fun v u => (¬ tM τ x ∧ u = th τ 1) ∨ (tM τ x ∧ ¬ isF τ x f ∧ u = th τ 2) ∨ (∃ c j, c < 24 ∧ x = nI c ∧ tM τ x ∧ j < fc (τ 1 c) ∧ f = nI j ∧ v = τ 3 (c * 3 + j) ∧ u = th τ 0)) y τ') : τ' 0 0 = kk ∧ (kk = 0 → u.1 0 = y.toInt64) ∧ Rel u.2 τ' := by
  obtain ⟨o0, o1, o2, o3⟩ := o_get h hm
  rcases hk with ⟨rfl, e, z, hP, ez⟩ | ⟨rfl, e, hX⟩ | ⟨rfl, e, hX⟩
  · obtain ⟨a1, a2⟩ := o1 z hP
    exact ⟨a1, fun _ => by rw [ez, a2], by rw [e]; exact o0⟩
  · exact ⟨o2 hX, fun q => absurd q (by decide), by rw [e]; exact o0⟩
  · exact ⟨o3 hX, fun q => absurd q (by decide), by rw [e]; exact o0⟩
theorem q_find {σ τ : St} (h : Rel σ τ) {x k : Int32} {kk y : Int32} {u : (Nat → Int64) × St} {τ' : St} (hk : (kk = nI 0 ∧ u.2 = σ ∧ ∃ z, (fun v => ∃ c, c < 24 ∧ x = nI c ∧ bt (σ 0 0) c = true ∧ isT σ k ∧ σ 1 c = nI 2 ∧ ((∃ i, i < cnt σ c ∧ σ 4 (c * 4 + i) = k ∧ v = σ 5 (c * 4 + i)) ∨ ((∀ j, j < cnt σ c → σ 4 (c * 4 + j) ≠ k) ∧ v = -1))) z ∧ u.1 0 = z.toInt64) ∨ (kk = nI 1 ∧ u.2 = σ ∧ (fun E => (E = "java/util/NoSuchElementException" ∧ ¬ (isT σ x ∧ isT σ k)) ∨ (E = "java/lang/IllegalArgumentException" ∧ (isT σ x ∧ isT σ k) ∧ ¬ isTab σ x)) "java/util/NoSuchElementException") ∨ (kk = nI 2 ∧ u.2 = σ ∧ (fun E => (E = "java/util/NoSuchElementException" ∧ ¬ (isT σ x ∧ isT σ k)) ∨ (E = "java/lang/IllegalArgumentException" ∧ (isT σ x ∧ isT σ k) ∧ ¬ isTab σ x)) "java/lang/IllegalArgumentException")) (hm : (fun v u => fndM τ x k v u) y τ') : τ' 0 0 = kk ∧ (kk = 0 → u.1 0 = y.toInt64) ∧ Rel u.2 τ' := by
  obtain ⟨o0, o1, o2, o3⟩ := o_find h hm
  rcases hk with ⟨rfl, e, z, hP, ez⟩ | ⟨rfl, e, hX⟩ | ⟨rfl, e, hX⟩
  · obtain ⟨a1, a2⟩ := o1 z hP
    exact ⟨a1, fun _ => by rw [ez, a2], by rw [e]; exact o0⟩
  · exact ⟨o2 hX, fun q => absurd q (by decide), by rw [e]; exact o0⟩
  · exact ⟨o3 hX, fun q => absurd q (by decide), by rw [e]; exact o0⟩
theorem q_key {σ τ : St} (h : Rel σ τ) {x i : Int32} {kk y : Int32} {u : (Nat → Int64) × St} {τ' : St} (hk : (kk = nI 0 ∧ u.2 = σ ∧ ∃ z, (fun v => ∃ c j, c < 24 ∧ x = nI c ∧ bt (σ 0 0) c = true ∧ σ 1 c = nI 2 ∧ j < cnt σ c ∧ i = nI j ∧ v = σ 4 (c * 4 + j)) z ∧ u.1 0 = z.toInt64) ∨ (kk = nI 1 ∧ u.2 = σ ∧ (fun E => (E = "java/util/NoSuchElementException" ∧ ¬ isT σ x) ∨ (E = "java/lang/IllegalArgumentException" ∧ isT σ x ∧ ¬ isTab σ x) ∨ (E = "java/lang/IndexOutOfBoundsException" ∧ isT σ x ∧ ∃ c, c < 24 ∧ x = nI c ∧ σ 1 c = nI 2 ∧ ¬ ∃ j, j < cnt σ c ∧ i = nI j)) "java/util/NoSuchElementException") ∨ (kk = nI 2 ∧ u.2 = σ ∧ (fun E => (E = "java/util/NoSuchElementException" ∧ ¬ isT σ x) ∨ (E = "java/lang/IllegalArgumentException" ∧ isT σ x ∧ ¬ isTab σ x) ∨ (E = "java/lang/IndexOutOfBoundsException" ∧ isT σ x ∧ ∃ c, c < 24 ∧ x = nI c ∧ σ 1 c = nI 2 ∧ ¬ ∃ j, j < cnt σ c ∧ i = nI j)) "java/lang/IllegalArgumentException") ∨ (kk = nI 3 ∧ u.2 = σ ∧ (fun E => (E = "java/util/NoSuchElementException" ∧ ¬ isT σ x) ∨ (E = "java/lang/IllegalArgumentException" ∧ isT σ x ∧ ¬ isTab σ x) ∨ (E = "java/lang/IndexOutOfBoundsException" ∧ isT σ x ∧ ∃ c, c < 24 ∧ x = nI c ∧ σ 1 c = nI 2 ∧ ¬ ∃ j, j < cnt σ c ∧ i = nI j)) "java/lang/IndexOutOfBoundsException")) (hm : (fun v u => (¬ tM τ x ∧ u = th τ 1) ∨ (tM τ x ∧ ¬ isTab τ x ∧ u = th τ 2) ∨ (∃ c, c < 24 ∧ x = nI c ∧ tM τ x ∧ τ 1 c = nI 2 ∧ ((¬ (∃ j, j < cnt τ c ∧ i = nI j) ∧ u = th τ 3) ∨ (∃ j, j < cnt τ c ∧ i = nI j ∧ v = τ 4 (c * 4 + j) ∧ u = th τ 0)))) y τ') : τ' 0 0 = kk ∧ (kk = 0 → u.1 0 = y.toInt64) ∧ Rel u.2 τ' := by
  obtain ⟨o0, o1, o2, o3, o4⟩ := o_key h hm
  rcases hk with ⟨rfl, e, z, hP, ez⟩ | ⟨rfl, e, hX⟩ | ⟨rfl, e, hX⟩ | ⟨rfl, e, hX⟩
  · obtain ⟨a1, a2⟩ := o1 z hP
    exact ⟨a1, fun _ => by rw [ez, a2], by rw [e]; exact o0⟩
  · exact ⟨o2 hX, fun q => absurd q (by decide), by rw [e]; exact o0⟩
  · exact ⟨o3 hX, fun q => absurd q (by decide), by rw [e]; exact o0⟩
  · exact ⟨o4 hX, fun q => absurd q (by decide), by rw [e]; exact o0⟩
theorem q_set {σ τ : St} (h : Rel σ τ) {x f t : Int32} {kk : Int32} {u : (Nat → Int64) × St} {τ' : St} (hk : (kk = nI 0 ∧ (fun u => ∃ c j, c < 24 ∧ x = nI c ∧ bt (σ 0 0) c = true ∧ (t = -1 ∨ isT σ t) ∧ j < fc (σ 1 c) ∧ f = nI j ∧ u = va_up σ 3 (upd (σ 3) (c * 3 + j) t)) u.2) ∨ (kk = nI 1 ∧ (fun E u => u = σ ∧ ((E = "java/util/NoSuchElementException" ∧ ¬ (isT σ x ∧ (t = -1 ∨ isT σ t))) ∨ (E = "java/lang/IllegalArgumentException" ∧ (isT σ x ∧ (t = -1 ∨ isT σ t)) ∧ ¬ isF σ x f))) "java/util/NoSuchElementException" u.2) ∨ (kk = nI 2 ∧ (fun E u => u = σ ∧ ((E = "java/util/NoSuchElementException" ∧ ¬ (isT σ x ∧ (t = -1 ∨ isT σ t))) ∨ (E = "java/lang/IllegalArgumentException" ∧ (isT σ x ∧ (t = -1 ∨ isT σ t)) ∧ ¬ isF σ x f))) "java/lang/IllegalArgumentException" u.2)) (hm : (fun u => (¬ (tM τ x ∧ (t = -1 ∨ tM τ t)) ∧ u = th τ 1) ∨ ((tM τ x ∧ (t = -1 ∨ tM τ t)) ∧ ¬ isF τ x f ∧ u = th τ 2) ∨ (∃ c j, c < 24 ∧ x = nI c ∧ tM τ x ∧ (t = -1 ∨ tM τ t) ∧ j < fc (τ 1 c) ∧ f = nI j ∧ u = va_up (th τ 0) 3 (upd (τ 3) (c * 3 + j) t))) τ') : τ' 0 0 = kk ∧ Rel u.2 τ' := by
  obtain ⟨o0, o1, o2⟩ := o_set h hm
  rcases hk with ⟨rfl, hP⟩ | ⟨rfl, hP⟩ | ⟨rfl, hP⟩
  · exact o0 _ hP
  · exact o1 _ hP
  · exact o2 _ hP
theorem q_root {σ τ : St} (h : Rel σ τ) {r x : Int32} {kk : Int32} {u : (Nat → Int64) × St} {τ' : St} (hk : (kk = nI 0 ∧ (fun u => ∃ j, j < 6 ∧ r = nI j ∧ (x = -1 ∨ isT σ x) ∧ u = va_up σ 10 (upd (σ 10) j x)) u.2) ∨ (kk = nI 1 ∧ (fun E u => u = σ ∧ ((E = "java/lang/IndexOutOfBoundsException" ∧ ¬ isR r) ∨ (E = "java/util/NoSuchElementException" ∧ isR r ∧ ¬ (x = -1 ∨ isT σ x)))) "java/lang/IndexOutOfBoundsException" u.2) ∨ (kk = nI 2 ∧ (fun E u => u = σ ∧ ((E = "java/lang/IndexOutOfBoundsException" ∧ ¬ isR r) ∨ (E = "java/util/NoSuchElementException" ∧ isR r ∧ ¬ (x = -1 ∨ isT σ x)))) "java/util/NoSuchElementException" u.2)) (hm : (fun u => (¬ isR r ∧ u = th τ 1) ∨ (isR r ∧ ¬ (x = -1 ∨ tM τ x) ∧ u = th τ 2) ∨ (∃ j, j < 6 ∧ r = nI j ∧ (x = -1 ∨ tM τ x) ∧ u = va_up (th τ 0) 10 (upd (τ 10) j x))) τ') : τ' 0 0 = kk ∧ Rel u.2 τ' := by
  obtain ⟨o0, o1, o2⟩ := o_root h hm
  rcases hk with ⟨rfl, hP⟩ | ⟨rfl, hP⟩ | ⟨rfl, hP⟩
  · exact o0 _ hP
  · exact o1 _ hP
  · exact o2 _ hP
theorem q_guard {σ τ : St} (h : Rel σ τ) {x a r : Int32} {kk : Int32} {u : (Nat → Int64) × St} {τ' : St} (hk : (kk = nI 0 ∧ (fun u => ∃ c i j, c < 24 ∧ x = nI c ∧ bt (σ 0 0) c = true ∧ i < 4 ∧ a = nI i ∧ j < 6 ∧ r = nI j ∧ σ 7 c = 0 ∧ u = grd σ c a r) u.2) ∨ (kk = nI 1 ∧ (fun E u => u = σ ∧ ((E = "java/util/NoSuchElementException" ∧ ¬ isT σ x) ∨ (E = "java/lang/IllegalArgumentException" ∧ isT σ x ∧ ¬ isA a) ∨ (E = "java/lang/IndexOutOfBoundsException" ∧ isT σ x ∧ isA a ∧ ¬ isR r) ∨ (E = "java/lang/IllegalStateException" ∧ isT σ x ∧ isA a ∧ isR r ∧ ∃ c, c < 24 ∧ x = nI c ∧ ¬ σ 7 c = 0))) "java/util/NoSuchElementException" u.2) ∨ (kk = nI 2 ∧ (fun E u => u = σ ∧ ((E = "java/util/NoSuchElementException" ∧ ¬ isT σ x) ∨ (E = "java/lang/IllegalArgumentException" ∧ isT σ x ∧ ¬ isA a) ∨ (E = "java/lang/IndexOutOfBoundsException" ∧ isT σ x ∧ isA a ∧ ¬ isR r) ∨ (E = "java/lang/IllegalStateException" ∧ isT σ x ∧ isA a ∧ isR r ∧ ∃ c, c < 24 ∧ x = nI c ∧ ¬ σ 7 c = 0))) "java/lang/IllegalArgumentException" u.2) ∨ (kk = nI 3 ∧ (fun E u => u = σ ∧ ((E = "java/util/NoSuchElementException" ∧ ¬ isT σ x) ∨ (E = "java/lang/IllegalArgumentException" ∧ isT σ x ∧ ¬ isA a) ∨ (E = "java/lang/IndexOutOfBoundsException" ∧ isT σ x ∧ isA a ∧ ¬ isR r) ∨ (E = "java/lang/IllegalStateException" ∧ isT σ x ∧ isA a ∧ isR r ∧ ∃ c, c < 24 ∧ x = nI c ∧ ¬ σ 7 c = 0))) "java/lang/IndexOutOfBoundsException" u.2) ∨ (kk = nI 4 ∧ (fun E u => u = σ ∧ ((E = "java/util/NoSuchElementException" ∧ ¬ isT σ x) ∨ (E = "java/lang/IllegalArgumentException" ∧ isT σ x ∧ ¬ isA a) ∨ (E = "java/lang/IndexOutOfBoundsException" ∧ isT σ x ∧ isA a ∧ ¬ isR r) ∨ (E = "java/lang/IllegalStateException" ∧ isT σ x ∧ isA a ∧ isR r ∧ ∃ c, c < 24 ∧ x = nI c ∧ ¬ σ 7 c = 0))) "java/lang/IllegalStateException" u.2)) (hm : (fun u => (¬ tM τ x ∧ u = th τ 1) ∨ (tM τ x ∧ ¬ isA a ∧ u = th τ 2) ∨ (tM τ x ∧ isA a ∧ ¬ isR r ∧ u = th τ 3) ∨ (∃ c, c < 24 ∧ x = nI c ∧ tM τ x ∧ isA a ∧ isR r ∧ ((¬ τ 7 c ≤ 0 ∧ u = th τ 4) ∨ (τ 7 c ≤ 0 ∧ u = grd (th τ 0) c a r)))) τ') : τ' 0 0 = kk ∧ Rel u.2 τ' := by
  obtain ⟨o0, o1, o2, o3, o4⟩ := o_guard h hm
  rcases hk with ⟨rfl, hP⟩ | ⟨rfl, hP⟩ | ⟨rfl, hP⟩ | ⟨rfl, hP⟩ | ⟨rfl, hP⟩
  · exact o0 _ hP
  · exact o1 _ hP
  · exact o2 _ hP
  · exact o3 _ hP
  · exact o4 _ hP
theorem q_remove {σ τ : St} (h : Rel σ τ) {x k : Int32} {kk y : Int32} {u : (Nat → Int64) × St} {τ' : St} (hk : (kk = nI 0 ∧ ∃ z, (fun v u => ∃ c, c < 24 ∧ x = nI c ∧ bt (σ 0 0) c = true ∧ isT σ k ∧ σ 1 c = nI 2 ∧ ((∃ i, i < cnt σ c ∧ σ 4 (c * 4 + i) = k ∧ v = nI 1 ∧ u = drp σ c i) ∨ ((∀ j, j < cnt σ c → σ 4 (c * 4 + j) ≠ k) ∧ v = nI 0 ∧ u = σ))) z u.2 ∧ u.1 0 = (if z = 0 then 0 else 1)) ∨ (kk = nI 1 ∧ (fun E u => u = σ ∧ ((E = "java/util/NoSuchElementException" ∧ ¬ (isT σ x ∧ isT σ k)) ∨ (E = "java/lang/IllegalArgumentException" ∧ (isT σ x ∧ isT σ k) ∧ ¬ isTab σ x))) "java/util/NoSuchElementException" u.2) ∨ (kk = nI 2 ∧ (fun E u => u = σ ∧ ((E = "java/util/NoSuchElementException" ∧ ¬ (isT σ x ∧ isT σ k)) ∨ (E = "java/lang/IllegalArgumentException" ∧ (isT σ x ∧ isT σ k) ∧ ¬ isTab σ x))) "java/lang/IllegalArgumentException" u.2)) (hm : (fun v u => remM τ x k v u) y τ') : τ' 0 0 = kk ∧ (kk = 0 → u.1 0 = (if y = 0 then 0 else 1)) ∧ Rel u.2 τ' := by
  obtain ⟨o0, o1, o2⟩ := o_remove h hm
  rcases hk with ⟨rfl, z, hP, ez⟩ | ⟨rfl, hX⟩ | ⟨rfl, hX⟩
  · obtain ⟨a1, a2, a3⟩ := o0 z _ hP
    exact ⟨a1, fun _ => by rw [ez, a2], a3⟩
  · obtain ⟨a1, a2⟩ := o1 _ hX
    exact ⟨a1, fun q => absurd q (by decide), a2⟩
  · obtain ⟨a1, a2⟩ := o2 _ hX
    exact ⟨a1, fun q => absurd q (by decide), a2⟩
theorem q_put {σ τ : St} (h : Rel σ τ) {x k v : Int32} {kk y : Int32} {u : (Nat → Int64) × St} {τ' : St} (hk : (kk = nI 0 ∧ ∃ z, (fun r u => ∃ c, c < 24 ∧ x = nI c ∧ bt (σ 0 0) c = true ∧ isT σ k ∧ isT σ v ∧ σ 1 c = nI 2 ∧ ((∃ i, i < cnt σ c ∧ σ 4 (c * 4 + i) = k ∧ r = nI 0 ∧ u = va_up σ 5 (upd (σ 5) (c * 4 + i) v)) ∨ ((∀ j, j < cnt σ c → σ 4 (c * 4 + j) ≠ k) ∧ cnt σ c < 4 ∧ r = nI 1 ∧ u = apd σ c k v))) z u.2 ∧ u.1 0 = (if z = 0 then 0 else 1)) ∨ (kk = nI 1 ∧ (fun E u => u = σ ∧ ((E = "java/util/NoSuchElementException" ∧ ¬ (isT σ x ∧ isT σ k ∧ isT σ v)) ∨ (E = "java/lang/IllegalArgumentException" ∧ (isT σ x ∧ isT σ k ∧ isT σ v) ∧ ¬ isTab σ x) ∨ (E = "java/lang/IllegalStateException" ∧ (isT σ x ∧ isT σ k ∧ isT σ v) ∧ ∃ c, c < 24 ∧ x = nI c ∧ σ 1 c = nI 2 ∧ cnt σ c = 4 ∧ ∀ j, j < cnt σ c → σ 4 (c * 4 + j) ≠ k))) "java/util/NoSuchElementException" u.2) ∨ (kk = nI 2 ∧ (fun E u => u = σ ∧ ((E = "java/util/NoSuchElementException" ∧ ¬ (isT σ x ∧ isT σ k ∧ isT σ v)) ∨ (E = "java/lang/IllegalArgumentException" ∧ (isT σ x ∧ isT σ k ∧ isT σ v) ∧ ¬ isTab σ x) ∨ (E = "java/lang/IllegalStateException" ∧ (isT σ x ∧ isT σ k ∧ isT σ v) ∧ ∃ c, c < 24 ∧ x = nI c ∧ σ 1 c = nI 2 ∧ cnt σ c = 4 ∧ ∀ j, j < cnt σ c → σ 4 (c * 4 + j) ≠ k))) "java/lang/IllegalArgumentException" u.2) ∨ (kk = nI 3 ∧ (fun E u => u = σ ∧ ((E = "java/util/NoSuchElementException" ∧ ¬ (isT σ x ∧ isT σ k ∧ isT σ v)) ∨ (E = "java/lang/IllegalArgumentException" ∧ (isT σ x ∧ isT σ k ∧ isT σ v) ∧ ¬ isTab σ x) ∨ (E = "java/lang/IllegalStateException" ∧ (isT σ x ∧ isT σ k ∧ isT σ v) ∧ ∃ c, c < 24 ∧ x = nI c ∧ σ 1 c = nI 2 ∧ cnt σ c = 4 ∧ ∀ j, j < cnt σ c → σ 4 (c * 4 + j) ≠ k))) "java/lang/IllegalStateException" u.2)) (hm : (fun r u => putM τ x k v r u) y τ') : τ' 0 0 = kk ∧ (kk = 0 → u.1 0 = (if y = 0 then 0 else 1)) ∧ Rel u.2 τ' := by
  obtain ⟨o0, o1, o2, o3⟩ := o_put h hm
  rcases hk with ⟨rfl, z, hP, ez⟩ | ⟨rfl, hX⟩ | ⟨rfl, hX⟩ | ⟨rfl, hX⟩
  · obtain ⟨a1, a2, a3⟩ := o0 z _ hP
    exact ⟨a1, fun _ => by rw [ez, a2], a3⟩
  · obtain ⟨a1, a2⟩ := o1 _ hX
    exact ⟨a1, fun q => absurd q (by decide), a2⟩
  · obtain ⟨a1, a2⟩ := o2 _ hX
    exact ⟨a1, fun q => absurd q (by decide), a2⟩
  · obtain ⟨a1, a2⟩ := o3 _ hX
    exact ⟨a1, fun q => absurd q (by decide), a2⟩
theorem q_make {σ τ : St} (h : Rel σ τ) {k : Int32} {kk y : Int32} {u : (Nat → Int64) × St} {τ' : St} (hk : (kk = nI 0 ∧ ∃ z, (fun v u => isK k ∧ ((∃ c, lf σ c ∧ v = nI c ∧ u = plc σ c k) ∨ (full σ ∧ ∃ v1 σ1 c, colX σ v1 σ1 ∧ lf σ1 c ∧ v = nI c ∧ u = plc σ1 c k))) z u.2 ∧ u.1 0 = z.toInt64) ∨ (kk = nI 1 ∧ (fun E u => (E = "java/lang/IllegalArgumentException" ∧ ¬ isK k ∧ u = σ) ∨ (E = "java/lang/IllegalStateException" ∧ isK k ∧ full σ ∧ ∃ v1, colX σ v1 u ∧ full u)) "java/lang/IllegalArgumentException" u.2) ∨ (kk = nI 2 ∧ (fun E u => (E = "java/lang/IllegalArgumentException" ∧ ¬ isK k ∧ u = σ) ∨ (E = "java/lang/IllegalStateException" ∧ isK k ∧ full σ ∧ ∃ v1, colX σ v1 u ∧ full u)) "java/lang/IllegalStateException" u.2)) (hm : (fun v u => mkM τ k v u) y τ') : τ' 0 0 = kk ∧ (kk = 0 → u.1 0 = y.toInt64) ∧ Rel u.2 τ' := by
  obtain ⟨o0, o1, o2⟩ := o_make h hm
  rcases hk with ⟨rfl, z, hP, ez⟩ | ⟨rfl, hX⟩ | ⟨rfl, hX⟩
  · obtain ⟨a1, a2, a3⟩ := o0 z _ hP
    exact ⟨a1, fun _ => by rw [ez, a2], a3⟩
  · obtain ⟨a1, a2⟩ := o1 _ hX
    exact ⟨a1, fun q => absurd q (by decide), a2⟩
  · obtain ⟨a1, a2⟩ := o2 _ hX
    exact ⟨a1, fun q => absurd q (by decide), a2⟩
theorem q_run {σ τ : St} (h : Rel σ τ) {w : Nat} (hw24 : w ≤ 24) (ew : σ 0 1 = nI w) {kk y : Int32} {u : (Nat → Int64) × St} {τ' : St} (hk : (kk = nI 0 ∧ ∃ z, (fun v u => ∃ w0 c a, w = w0 + 1 ∧ c < 24 ∧ σ 11 0 = nI c ∧ a < 4 ∧ σ 8 c = nI a ∧ v = nI c ∧ u = act (va_up (deq σ w0) 7 (upd (σ 7) c (nI 3))) c a) z u.2 ∧ u.1 0 = z.toInt64) ∨ (kk = nI 1 ∧ (fun E u => u = σ ∧ E = "java/util/NoSuchElementException" ∧ w = 0) "java/util/NoSuchElementException" u.2)) (hm : (fun v u => (w = 0 ∧ u = th τ 1) ∨ ∃ w0 c a, w = w0 + 1 ∧ c < 24 ∧ τ 11 0 = nI c ∧ a < 4 ∧ τ 8 c = nI a ∧ v = nI c ∧ u = act (va_up (deq (th τ 0) w0) 7 (upd (τ 7) c (nI 3))) c a) y τ') : τ' 0 0 = kk ∧ (kk = 0 → u.1 0 = y.toInt64) ∧ Rel u.2 τ' := by
  obtain ⟨o0, o1⟩ := o_run h hw24 ew hm
  rcases hk with ⟨rfl, z, hP, ez⟩ | ⟨rfl, hX⟩
  · obtain ⟨a1, a2, a3⟩ := o0 z _ hP
    exact ⟨a1, fun _ => by rw [ez, a2], a3⟩
  · obtain ⟨a1, a2⟩ := o1 _ hX
    exact ⟨a1, fun q => absurd q (by decide), a2⟩
