/-! bits (the family bt out of kit/laws/BITS.to-paste), sets of cells as bits, the graph of the heap -/
def bt (x : Int32) (i : Nat) : Bool := x.toBitVec.getLsbD i
theorem b_ext {x y : Int32} (h : ∀ i, i < 32 → bt x i = bt y i) : x = y := Int32.toBitVec_inj.mp (BitVec.eq_of_getLsbD_eq (fun i hi => h i hi))
theorem b_or (x y : Int32) (i : Nat) : bt (x ||| y) i = (bt x i || bt y i) := by unfold bt; rw [Int32.toBitVec_or, BitVec.getLsbD_or]
theorem b_and (x y : Int32) (i : Nat) : bt (x &&& y) i = (bt x i && bt y i) := by unfold bt; rw [Int32.toBitVec_and, BitVec.getLsbD_and]
theorem b_xor (x y : Int32) (i : Nat) : bt (x ^^^ y) i = (bt x i ^^ bt y i) := by unfold bt; rw [Int32.toBitVec_xor, BitVec.getLsbD_xor]
theorem b_big {x : Int32} {i : Nat} (h : 32 ≤ i) : bt x i = false := BitVec.getLsbD_of_ge _ _ h
theorem b_m1 : ∀ i, i < 32 → bt (-1) i = true := by decide +kernel
theorem b_0 (i : Nat) : bt 0 i = false := BitVec.getLsbD_zero
theorem s_l : ∀ n, n < 32 → ((nI n &&& 31).toBitVec.smod 32).toNat = n := by decide +kernel
theorem b_shl (n : Nat) (hn : n < 32) (x : Int32) {i : Nat} (hi : i < 32) : bt (x <<< (nI n &&& 31)) i = (decide (n ≤ i) && bt x (i - n)) := by
  unfold bt
  rw [Int32.toBitVec_shiftLeft]
  show (x.toBitVec <<< ((nI n &&& 31).toBitVec.smod 32).toNat).getLsbD i = _
  rw [s_l n hn, BitVec.getLsbD_shiftLeft]
  rcases Nat.lt_or_ge i n with h | h
  · simp [h, Nat.not_le.mpr h]
  · simp [hi, h, Nat.not_lt.mpr h]
theorem zn_and (a b : Nat) : nI a &&& nI b = nI (a &&& b) := by
  apply Int32.toBitVec_inj.1
  show BitVec.ofNat 32 a &&& BitVec.ofNat 32 b = BitVec.ofNat 32 (a &&& b)
  apply BitVec.eq_of_getLsbD_eq
  intro i hi
  simp [hi]
theorem zs_u : ∀ n, n < 32 → (((nI n).toUInt32 &&& Int32.toUInt32 31).toBitVec % 32).toNat = n := by decide +kernel
theorem zb_1 : ∀ i, i < 32 → bt 1 i = decide (i = 0) := by decide +kernel
theorem zb_one {c i : Nat} (hc : c < 32) (hi : i < 32) : bt ((1 : Int32) <<< (nI c &&& 31)) i = decide (i = c) := by
  rw [b_shl c hc 1 hi]
  by_cases h : c ≤ i
  · rw [zb_1 (i - c) (by omega)]
    by_cases h2 : i = c
    · subst h2; simp
    · have h3 : ¬ (i - c = 0) := by omega
      simp [h2, h3]
  · have h2 : ¬ i = c := by omega
    simp [h, h2]
theorem zb_has (x : Int32) {c : Nat} (hc : c < 32) : (x &&& ((1 : Int32) <<< (nI c &&& 31))) = 0 ↔ bt x c = false := by
  constructor
  · intro h
    have h1 := b_and x ((1 : Int32) <<< (nI c &&& 31)) c
    rw [h, b_0, zb_one hc hc] at h1
    simpa using h1.symm
  · intro h
    refine b_ext (fun i hi => ?_)
    rw [b_and, zb_one hc hi, b_0]
    by_cases h2 : i = c
    · subst h2; rw [h]; rfl
    · simp [h2]
theorem zb_or (x : Int32) {c i : Nat} (hc : c < 32) (hi : i < 32) : bt (x ||| ((1 : Int32) <<< (nI c &&& 31))) i = (bt x i || decide (i = c)) := by
  rw [b_or, zb_one hc hi]
theorem zb_not (x : Int32) {i : Nat} (hi : i < 32) : bt (x ^^^ (-1)) i = !bt x i := by
  rw [b_xor, b_m1 i hi]; cases bt x i <;> rfl
/-- an object's state: 0 its numbers, 1 kinds, 2 serials, 3 fields, 4 keys, 5 values, 6 counts, 7 states, 8 actions, 9 targets, 10 roots, 11 queue, 12 in -/
abbrev St : Type := Nat → Nat → Int32
/-- a set of cells: no bit beyond the 24th -/
def lo24 (x : Int32) : Prop := ∀ i, 24 ≤ i → bt x i = false
theorem lo24_0 : lo24 0 := fun i _ => b_0 i
theorem lo24_or {x y : Int32} (hx : lo24 x) (hy : lo24 y) : lo24 (x ||| y) := fun i hi => by rw [b_or, hx i hi, hy i hi]; rfl
theorem lo24_one {c : Nat} (hc : c < 24) : lo24 ((1 : Int32) <<< (nI c &&& 31)) := fun i hi => by
  rcases Nat.lt_or_ge i 32 with h | h
  · rw [zb_one (by omega) h, decide_eq_false (by omega)]
  · exact b_big h
theorem lo24_and {x y : Int32} (hx : lo24 x) : lo24 (x &&& y) := fun i hi => by rw [b_and, hx i hi]; rfl
theorem lo24_ext {x y : Int32} (hx : lo24 x) (hy : lo24 y) (h : ∀ c, c < 24 → bt x c = bt y c) : x = y := b_ext (fun i _ => by
  rcases Nat.lt_or_ge i 24 with h1 | h1
  · exact h i h1
  · rw [hx i h1, hy i h1])
theorem zb_orc (x : Int32) {c i : Nat} (hc : c < 24) (hi : i < 24) : (bt (x ||| ((1 : Int32) <<< (nI c &&& 31))) i = true) ↔ (bt x i = true ∨ i = c) := by
  rw [zb_or x (by omega) (by omega)]; simp
/-- -1, or the number of a cell -/
def nc (x : Int32) : Prop := x = -1 ∨ ∃ d, d < 24 ∧ x = nI d
def cl24 (x : Int32) : Prop := ∃ d, d < 24 ∧ x = nI d
theorem nI_m1 {d : Nat} (h : d < 2 ^ 31) : nI d ≠ -1 := fun e => by
  have h1 := nI_toInt h
  rw [e] at h1
  have h2 : (-1 : Int32).toInt = -1 := by decide
  rw [h2] at h1
  omega
theorem cl24_nc {x : Int32} (h : cl24 x) : nc x := Or.inr h
theorem nc_cl {x : Int32} (h : nc x) (hx : x ≠ -1) : cl24 x := by
  rcases h with h | h
  · exact absurd h hx
  · exact h
def cnt (σ : St) (c : Nat) : Nat := (σ 6 c).toNatClampNeg
def ent (σ : St) (c : Nat) : List (Int32 × Int32) := (List.range (cnt σ c)).map (fun i => (σ 4 (c * 4 + i), σ 5 (c * 4 + i)))
/-- all numbers lie in their ranges -/
def wf (σ : St) : Prop := (∀ c, c < 24 → ∃ n, n ≤ 4 ∧ σ 6 c = nI n) ∧ (∀ j, j < 72 → nc (σ 3 j)) ∧ (∀ j, j < 96 → cl24 (σ 4 j)) ∧ (∀ j, j < 96 → cl24 (σ 5 j)) ∧ (∀ c, c < 24 → ∃ t, t < 6 ∧ σ 9 c = nI t) ∧ (∀ r, r < 6 → nc (σ 10 r)) ∧ (∀ i, i < 24 → cl24 (σ 11 i)) ∧ ∃ w, w ≤ 24 ∧ σ 0 1 = nI w
theorem wf_cnt {σ : St} (h : wf σ) {c : Nat} (hc : c < 24) : cnt σ c ≤ 4 ∧ σ 6 c = nI (cnt σ c) := by
  obtain ⟨n, hn, e⟩ := h.1 c hc
  unfold cnt
  rw [e, nI_clamp (by omega)]
  exact ⟨hn, rfl⟩
theorem ent_len (σ : St) (c : Nat) : (ent σ c).length = cnt σ c := by simp [ent]
theorem ent_get {σ : St} {c i : Nat} (h : i < cnt σ c) : (ent σ c)[i]? = some (σ 4 (c * 4 + i), σ 5 (c * 4 + i)) := by
  simp [ent, h]
theorem ent_mem {σ : St} {c : Nat} {q : Int32 × Int32} : q ∈ ent σ c ↔ ∃ i, i < cnt σ c ∧ q = (σ 4 (c * 4 + i), σ 5 (c * 4 + i)) := by
  simp only [ent, List.mem_map, List.mem_range]
  constructor
  · rintro ⟨i, hi, e⟩; exact ⟨i, hi, e.symm⟩
  · rintro ⟨i, hi, e⟩; exact ⟨i, hi, e.symm⟩
/-- d is held by c, where the things of S live -/
def hld (σ : St) (S : Nat → Prop) (c d : Nat) : Prop := (σ 1 c = 0 ∧ ∃ f, f < 3 ∧ σ 3 (c * 3 + f) = nI d) ∨ (σ 1 c = 2 ∧ ∃ i, i < cnt σ c ∧ (∃ k, k < 24 ∧ σ 4 (c * 4 + i) = nI k ∧ S k) ∧ σ 5 (c * 4 + i) = nI d)
def clo (σ : St) (S : Nat → Prop) : Prop := ∀ c d, c < 24 → d < 24 → S c → hld σ S c d → S d
/-- the least closed set over S0 -/
def rch (σ : St) (S0 : Nat → Prop) (c : Nat) : Prop := ∀ T : Nat → Prop, (∀ d, d < 24 → S0 d → T d) → clo σ T → T c
theorem hld_mono {σ : St} {S S' : Nat → Prop} {c d : Nat} (h : ∀ k, k < 24 → S k → S' k) (hh : hld σ S c d) : hld σ S' c d := by
  rcases hh with hh | ⟨h1, i, hi, ⟨k, hk, e, hs⟩, h2⟩
  · exact Or.inl hh
  · exact Or.inr ⟨h1, i, hi, ⟨k, hk, e, h k hk hs⟩, h2⟩
theorem rch_base {σ : St} {S0 : Nat → Prop} {c : Nat} (hc : c < 24) (h : S0 c) : rch σ S0 c := fun _ h1 _ => h1 c hc h
theorem rch_clo (σ : St) (S0 : Nat → Prop) : clo σ (rch σ S0) := fun c d hc hd h1 h2 T hT hcl =>
  hcl c d hc hd (h1 T hT hcl) (hld_mono (fun k _ hk => hk T hT hcl) h2)
theorem rch_iff {σ : St} {S0 S : Nat → Prop} (h0 : ∀ d, d < 24 → S0 d → S d) (hc : clo σ S) (hl : ∀ d, d < 24 → S d → rch σ S0 d) : ∀ d, d < 24 → (S d ↔ rch σ S0 d) :=
  fun d hd => ⟨hl d hd, fun h => h S h0 hc⟩
/-- how many of the first n cells are in S -/
def num (S : Nat → Bool) : Nat → Nat
  | 0 => 0
  | n + 1 => num S n + (if S n then 1 else 0)
theorem num_le (S : Nat → Bool) (n : Nat) : num S n ≤ n := by
  induction n with
  | zero => exact Nat.le_refl _
  | succ n ih => unfold num; split <;> omega
theorem num_mono {S S' : Nat → Bool} {n : Nat} (h : ∀ c, c < n → S c = true → S' c = true) : num S n ≤ num S' n := by
  induction n with
  | zero => exact Nat.le_refl _
  | succ n ih =>
    have h1 := ih (fun c hc => h c (by omega))
    have h2 := h n (by omega)
    unfold num
    cases hs : S n
    · simp; split <;> omega
    · rw [h2 hs]; simp; omega
theorem num_lt {S S' : Nat → Bool} {n c : Nat} (h : ∀ c, c < n → S c = true → S' c = true) (hc : c < n) (h1 : S c = false) (h2 : S' c = true) : num S n < num S' n := by
  induction n with
  | zero => omega
  | succ n ih =>
    have hm := num_mono (n := n) (fun c hc => h c (by omega))
    unfold num
    by_cases e : c = n
    · subst e; rw [h1, h2]; simp; omega
    · have h3 := ih (fun c hc => h c (by omega)) (by omega)
      have h4 := h n (by omega)
      cases hs : S n
      · simp; split <;> omega
      · rw [h4 hs]; simp; omega
theorem num_full {S : Nat → Bool} {n : Nat} (h : n ≤ num S n) : ∀ c, c < n → S c = true := by
  induction n with
  | zero => intro c hc; omega
  | succ n ih =>
    have hm := num_le S n
    unfold num at h
    intro c hc
    cases hs : S n
    · rw [hs] at h; simp at h; omega
    · by_cases e : c = n
      · subst e; exact hs
      · exact ih (by rw [hs] at h; simp at h; omega) c (by omega)
