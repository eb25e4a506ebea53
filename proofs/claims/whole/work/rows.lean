section
/-! bits (the family bt out of kit/laws/BITS.to-paste), sets of cells as bits, the heap's graph -/
def bt (x : Int32) (i : Nat) : Bool := x.toBitVec.getLsbD i
theorem b_ext {x y : Int32} (h : ∀ i, i < 32 → bt x i = bt y i) : x = y := Int32.toBitVec_inj.mp (BitVec.eq_of_getLsbD_eq (fun i hi => h i hi))
theorem b_or (x y : Int32) (i : Nat) : bt (x ||| y) i = (bt x i || bt y i) := by unfold bt; rw [Int32.toBitVec_or, BitVec.getLsbD_or]
theorem b_and (x y : Int32) (i : Nat) : bt (x &&& y) i = (bt x i && bt y i) := by unfold bt; rw [Int32.toBitVec_and, BitVec.getLsbD_and]
theorem b_xor (x y : Int32) (i : Nat) : bt (x ^^^ y) i = (bt x i ^^ bt y i) := by unfold bt; rw [Int32.toBitVec_xor, BitVec.getLsbD_xor]
theorem b_big {x : Int32} {i : Nat} (h : 32 ≤ i) : bt x i = false := BitVec.getLsbD_of_ge _ _ h
theorem b_m1 : ∀ i, i < 32 → bt (-1) i = true := by decide +kernel
theorem b_0 (i : Nat) : bt 0 i = false := BitVec.getLsbD_zero
theorem s_l : ∀ n, n < 32 → ((nI n &&& 31).toBitVec.smod 32).toNat = n := by decide +kernel
theorem b_shl (n : Nat) (hn : n < 32) (x : Int32) {i : Nat} (hi : i < 32) : bt (x <<< (nI n &&& 31)) i = (decide (n ≤ i) && bt x (i - n)) := by
  unfold bt
  rw [Int32.toBitVec_shiftLeft]
  show (x.toBitVec <<< ((nI n &&& 31).toBitVec.smod 32).toNat).getLsbD i = _
  rw [s_l n hn, BitVec.getLsbD_shiftLeft]
  rcases Nat.lt_or_ge i n with h | h
  · simp [h, Nat.not_le.mpr h]
  · simp [hi, h, Nat.not_lt.mpr h]
theorem zn_and (a b : Nat) : nI a &&& nI b = nI (a &&& b) := by
  apply Int32.toBitVec_inj.1
  show BitVec.ofNat 32 a &&& BitVec.ofNat 32 b = BitVec.ofNat 32 (a &&& b)
  apply BitVec.eq_of_getLsbD_eq
  intro i hi
  simp [hi]
theorem zs_u : ∀ n, n < 32 → (((nI n).toUInt32 &&& Int32.toUInt32 31).toBitVec % 32).toNat = n := by decide +kernel
theorem zb_1 : ∀ i, i < 32 → bt 1 i = decide (i = 0) := by decide +kernel
theorem zb_one {c i : Nat} (hc : c < 32) (hi : i < 32) : bt ((1 : Int32) <<< (nI c &&& 31)) i = decide (i = c) := by
  rw [b_shl c hc 1 hi]
  by_cases h : c ≤ i
  · rw [zb_1 (i - c) (by omega)]
    by_cases h2 : i = c
    · subst h2; simp
    · have h3 : ¬ (i - c = 0) := by omega
      simp [h2, h3]
  · have h2 : ¬ i = c := by omega
    simp [h, h2]
theorem zb_has (x : Int32) {c : Nat} (hc : c < 32) : (x &&& ((1 : Int32) <<< (nI c &&& 31))) = 0 ↔ bt x c = false := by
  constructor
  · intro h
    have h1 := b_and x ((1 : Int32) <<< (nI c &&& 31)) c
    rw [h, b_0, zb_one hc hc] at h1
    simpa using h1.symm
  · intro h
    refine b_ext (fun i hi => ?_)
    rw [b_and, zb_one hc hi, b_0]
    by_cases h2 : i = c
    · subst h2; rw [h]; rfl
    · simp [h2]
theorem zb_or (x : Int32) {c i : Nat} (hc : c < 32) (hi : i < 32) : bt (x ||| ((1 : Int32) <<< (nI c &&& 31))) i = (bt x i || decide (i = c)) := by
  rw [b_or, zb_one hc hi]
theorem zb_not (x : Int32) {i : Nat} (hi : i < 32) : bt (x ^^^ (-1)) i = !bt x i := by
  rw [b_xor, b_m1 i hi]; cases bt x i <;> rfl
/-- an object's state: 0 its numbers, 1 kinds, 2 serials, 3 fields, 4 keys, 5 values, 6 counts, 7 states, 8 actions, 9 targets, 10 roots, 11 queue, 12 in -/
abbrev St : Type := Nat → Nat → Int32
/-- a set of cells: no bit beyond the 24th -/
def lo24 (x : Int32) : Prop := ∀ i, 24 ≤ i → bt x i = false
theorem lo24_0 : lo24 0 := fun i _ => b_0 i
theorem lo24_or {x y : Int32} (hx : lo24 x) (hy : lo24 y) : lo24 (x ||| y) := fun i hi => by rw [b_or, hx i hi, hy i hi]; rfl
theorem lo24_one {c : Nat} (hc : c < 24) : lo24 ((1 : Int32) <<< (nI c &&& 31)) := fun i hi => by
  rcases Nat.lt_or_ge i 32 with h | h
  · rw [zb_one (by omega) h, decide_eq_false (by omega)]
  · exact b_big h
theorem lo24_and {x y : Int32} (hx : lo24 x) : lo24 (x &&& y) := fun i hi => by rw [b_and, hx i hi]; rfl
theorem lo24_ext {x y : Int32} (hx : lo24 x) (hy : lo24 y) (h : ∀ c, c < 24 → bt x c = bt y c) : x = y := b_ext (fun i _ => by
  rcases Nat.lt_or_ge i 24 with h1 | h1
  · exact h i h1
  · rw [hx i h1, hy i h1])
theorem zb_orc (x : Int32) {c i : Nat} (hc : c < 24) (hi : i < 24) : (bt (x ||| ((1 : Int32) <<< (nI c &&& 31))) i = true) ↔ (bt x i = true ∨ i = c) := by
  rw [zb_or x (by omega) (by omega)]; simp
/-- -1, or the number of a cell -/
def nc (x : Int32) : Prop := x = -1 ∨ ∃ d, d < 24 ∧ x = nI d
def cl24 (x : Int32) : Prop := ∃ d, d < 24 ∧ x = nI d
theorem nI_m1 {d : Nat} (h : d < 2 ^ 31) : nI d ≠ -1 := fun e => by
  have h1 := nI_toInt h
  rw [e] at h1
  have h2 : (-1 : Int32).toInt = -1 := by decide
  rw [h2] at h1
  omega
theorem cl24_nc {x : Int32} (h : cl24 x) : nc x := Or.inr h
theorem nc_cl {x : Int32} (h : nc x) (hx : x ≠ -1) : cl24 x := by
  rcases h with h | h
  · exact absurd h hx
  · exact h
def cnt (σ : St) (c : Nat) : Nat := (σ 6 c).toNatClampNeg
def ent (σ : St) (c : Nat) : List (Int32 × Int32) := (List.range (cnt σ c)).map (fun i => (σ 4 (c * 4 + i), σ 5 (c * 4 + i)))
/-- all numbers lie in their ranges -/
def wf (σ : St) : Prop := (∀ c, c < 24 → ∃ n, n ≤ 4 ∧ σ 6 c = nI n) ∧ (∀ j, j < 72 → nc (σ 3 j)) ∧ (∀ j, j < 96 → cl24 (σ 4 j)) ∧ (∀ j, j < 96 → cl24 (σ 5 j)) ∧ (∀ c, c < 24 → ∃ t, t < 6 ∧ σ 9 c = nI t) ∧ (∀ r, r < 6 → nc (σ 10 r)) ∧ (∀ i, i < 24 → cl24 (σ 11 i)) ∧ ∃ w, w ≤ 24 ∧ σ 0 1 = nI w
theorem wf_cnt {σ : St} (h : wf σ) {c : Nat} (hc : c < 24) : cnt σ c ≤ 4 ∧ σ 6 c = nI (cnt σ c) := by
  obtain ⟨n, hn, e⟩ := h.1 c hc
  unfold cnt
  rw [e, nI_clamp (by omega)]
  exact ⟨hn, rfl⟩
theorem ent_len (σ : St) (c : Nat) : (ent σ c).length = cnt σ c := by simp [ent]
theorem ent_get {σ : St} {c i : Nat} (h : i < cnt σ c) : (ent σ c)[i]? = some (σ 4 (c * 4 + i), σ 5 (c * 4 + i)) := by
  simp [ent, h]
theorem ent_mem {σ : St} {c : Nat} {q : Int32 × Int32} : q ∈ ent σ c ↔ ∃ i, i < cnt σ c ∧ q = (σ 4 (c * 4 + i), σ 5 (c * 4 + i)) := by
  simp only [ent, List.mem_map, List.mem_range]
  constructor
  · rintro ⟨i, hi, e⟩; exact ⟨i, hi, e.symm⟩
  · rintro ⟨i, hi, e⟩; exact ⟨i, hi, e.symm⟩
/-- d is held by c, where the things of S live -/
def hld (σ : St) (S : Nat → Prop) (c d : Nat) : Prop := (σ 1 c = 0 ∧ ∃ f, f < 3 ∧ σ 3 (c * 3 + f) = nI d) ∨ (σ 1 c = 2 ∧ ∃ i, i < cnt σ c ∧ (∃ k, k < 24 ∧ σ 4 (c * 4 + i) = nI k ∧ S k) ∧ σ 5 (c * 4 + i) = nI d)
def clo (σ : St) (S : Nat → Prop) : Prop := ∀ c d, c < 24 → d < 24 → S c → hld σ S c d → S d
/-- the least closed set over S0 -/
def rch (σ : St) (S0 : Nat → Prop) (c : Nat) : Prop := ∀ T : Nat → Prop, (∀ d, d < 24 → S0 d → T d) → clo σ T → T c
theorem hld_mono {σ : St} {S S' : Nat → Prop} {c d : Nat} (h : ∀ k, k < 24 → S k → S' k) (hh : hld σ S c d) : hld σ S' c d := by
  rcases hh with hh | ⟨h1, i, hi, ⟨k, hk, e, hs⟩, h2⟩
  · exact Or.inl hh
  · exact Or.inr ⟨h1, i, hi, ⟨k, hk, e, h k hk hs⟩, h2⟩
theorem rch_base {σ : St} {S0 : Nat → Prop} {c : Nat} (hc : c < 24) (h : S0 c) : rch σ S0 c := fun _ h1 _ => h1 c hc h
theorem rch_clo (σ : St) (S0 : Nat → Prop) : clo σ (rch σ S0) := fun c d hc hd h1 h2 T hT hcl =>
  hcl c d hc hd (h1 T hT hcl) (hld_mono (fun k _ hk => hk T hT hcl) h2)
theorem rch_iff {σ : St} {S0 S : Nat → Prop} (h0 : ∀ d, d < 24 → S0 d → S d) (hc : clo σ S) (hl : ∀ d, d < 24 → S d → rch σ S0 d) : ∀ d, d < 24 → (S d ↔ rch σ S0 d) :=
  fun d hd => ⟨hl d hd, fun h => h S h0 hc⟩
/-- how many of the first n cells are in S -/
def num (S : Nat → Bool) : Nat → Nat
  | 0 => 0
  | n + 1 => num S n + (if S n then 1 else 0)
theorem num_le (S : Nat → Bool) (n : Nat) : num S n ≤ n := by
  induction n with
  | zero => exact Nat.le_refl _
  | succ n ih => unfold num; split <;> omega
theorem num_mono {S S' : Nat → Bool} {n : Nat} (h : ∀ c, c < n → S c = true → S' c = true) : num S n ≤ num S' n := by
  induction n with
  | zero => exact Nat.le_refl _
  | succ n ih =>
    have h1 := ih (fun c hc => h c (by omega))
    have h2 := h n (by omega)
    unfold num
    cases hs : S n
    · simp; split <;> omega
    · rw [h2 hs]; simp; omega
theorem num_lt {S S' : Nat → Bool} {n c : Nat} (h : ∀ c, c < n → S c = true → S' c = true) (hc : c < n) (h1 : S c = false) (h2 : S' c = true) : num S n < num S' n := by
  induction n with
  | zero => omega
  | succ n ih =>
    have hm := num_mono (n := n) (fun c hc => h c (by omega))
    unfold num
    by_cases e : c = n
    · subst e; rw [h1, h2]; simp; omega
    · have h3 := ih (fun c hc => h c (by omega)) (by omega)
      have h4 := h n (by omega)
      cases hs : S n
      · simp; split <;> omega
      · rw [h4 hs]; simp; omega
theorem num_full {S : Nat → Bool} {n : Nat} (h : n ≤ num S n) : ∀ c, c < n → S c = true := by
  induction n with
  | zero => intro c hc; omega
  | succ n ih =>
    have hm := num_le S n
    unfold num at h
    intro c hc
    cases hs : S n
    · rw [hs] at h; simp at h; omega
    · by_cases e : c = n
      · subst e; exact hs
      · exact ih (by rw [hs] at h; simp at h; omega) c (by omega)
end
section
/-! names, worlds, words of the two classes; the constants that the messages are -/
def R_X : String := "EphemeronHeap"
def F_X : u_T := fun k => match k with
  | 0 => ("EphemeronHeap", "occupied", "I", false)
  | 1 => ("EphemeronHeap", "kinds", "[I", true)
  | 2 => ("EphemeronHeap", "serials", "[I", true)
  | 3 => ("EphemeronHeap", "fields", "[I", true)
  | 4 => ("EphemeronHeap", "keys", "[I", true)
  | 5 => ("EphemeronHeap", "values", "[I", true)
  | 6 => ("EphemeronHeap", "entryCounts", "[I", true)
  | 7 => ("EphemeronHeap", "states", "[I", true)
  | 8 => ("EphemeronHeap", "actions", "[I", true)
  | 9 => ("EphemeronHeap", "targets", "[I", true)
  | 10 => ("EphemeronHeap", "roots", "[I", true)
  | 11 => ("EphemeronHeap", "queue", "[I", true)
  | 12 => ("EphemeronHeap", "queueLength", "I", false)
  | 13 => ("EphemeronHeap", "thingsMade", "I", false)
  | _ => ("EphemeronHeap", "timesCollected", "I", false)
def t_X : Nat → FieldType := fun k => match k with
  | 0 => .int
  | 1 => .array .int
  | 2 => .array .int
  | 3 => .array .int
  | 4 => .array .int
  | 5 => .array .int
  | 6 => .array .int
  | 7 => .array .int
  | 8 => .array .int
  | 9 => .array .int
  | 10 => .array .int
  | 11 => .array .int
  | 12 => .int
  | 13 => .int
  | _ => .int
theorem n_X : ∀ a, a < 15 → ∀ b, b < 15 → a ≠ b → (F_X a).2.1 ≠ (F_X b).2.1 := by decide +kernel
theorem t_X_ok : ∀ k, k < 15 → parseFieldDescriptor (F_X k).2.2.1 = some (t_X k) := by decide +kernel
def R_M : String := "EphemeronHeapModel"
def F_M : u_T := fun k => match k with
  | 0 => ("EphemeronHeapModel", "thrown", "I", false)
  | 1 => ("EphemeronHeapModel", "made", "I", false)
  | 2 => ("EphemeronHeapModel", "collections", "I", false)
  | 3 => ("EphemeronHeapModel", "kinds", "[I", true)
  | 4 => ("EphemeronHeapModel", "serials", "[I", true)
  | 5 => ("EphemeronHeapModel", "fields", "[I", true)
  | 6 => ("EphemeronHeapModel", "entries", "[I", true)
  | 7 => ("EphemeronHeapModel", "keys", "[I", true)
  | 8 => ("EphemeronHeapModel", "values", "[I", true)
  | 9 => ("EphemeronHeapModel", "states", "[I", true)
  | 10 => ("EphemeronHeapModel", "actions", "[I", true)
  | 11 => ("EphemeronHeapModel", "places", "[I", true)
  | 12 => ("EphemeronHeapModel", "roots", "[I", true)
  | 13 => ("EphemeronHeapModel", "queue", "[I", true)
  | 14 => ("EphemeronHeapModel", "waiting", "I", false)
  | _ => ("EphemeronHeapModel", "in", "[Z", true)
def t_M : Nat → FieldType := fun k => match k with
  | 0 => .int
  | 1 => .int
  | 2 => .int
  | 3 => .array .int
  | 4 => .array .int
  | 5 => .array .int
  | 6 => .array .int
  | 7 => .array .int
  | 8 => .array .int
  | 9 => .array .int
  | 10 => .array .int
  | 11 => .array .int
  | 12 => .array .int
  | 13 => .array .int
  | 14 => .int
  | _ => .array .boolean
theorem n_M : ∀ a, a < 16 → ∀ b, b < 16 → a ≠ b → (F_M a).2.1 ≠ (F_M b).2.1 := by decide +kernel
theorem t_M_ok : ∀ k, k < 16 → parseFieldDescriptor (F_M k).2.2.1 = some (t_M k) := by decide +kernel
def zCl : List vw_C := [(R_X, F_X, 15), (R_M, F_M, 16)]
def zTy (cI cB cL : ClassId) : List (ClassId × FieldType) := [(cI, .int), (cB, .boolean), (cL, .long)]
def wx (h : Nat → Nat) (cI : ClassId) (σ : St) : va_W := [(h 0, .inr (0, [.int (σ 0 0), .ref (h 1), .ref (h 2), .ref (h 3), .ref (h 4), .ref (h 5), .ref (h 6), .ref (h 7), .ref (h 8), .ref (h 9), .ref (h 10), .ref (h 11), .int (σ 0 1), .int (σ 0 2), .int (σ 0 3)])), (h 1, .inl (cI, 24, .inl (σ 1))), (h 2, .inl (cI, 24, .inl (σ 2))), (h 3, .inl (cI, 72, .inl (σ 3))), (h 4, .inl (cI, 96, .inl (σ 4))), (h 5, .inl (cI, 96, .inl (σ 5))), (h 6, .inl (cI, 24, .inl (σ 6))), (h 7, .inl (cI, 24, .inl (σ 7))), (h 8, .inl (cI, 24, .inl (σ 8))), (h 9, .inl (cI, 24, .inl (σ 9))), (h 10, .inl (cI, 6, .inl (σ 10))), (h 11, .inl (cI, 24, .inl (σ 11)))]
def wm (h : Nat → Nat) (cI cB : ClassId) (σ : St) : va_W := [(h 0, .inr (1, [.int (σ 0 0), .int (σ 0 2), .int (σ 0 3), .ref (h 1), .ref (h 2), .ref (h 3), .ref (h 6), .ref (h 4), .ref (h 5), .ref (h 7), .ref (h 8), .ref (h 9), .ref (h 10), .ref (h 11), .int (σ 0 1), .ref (h 12)])), (h 1, .inl (cI, 24, .inl (σ 1))), (h 2, .inl (cI, 24, .inl (σ 2))), (h 3, .inl (cI, 72, .inl (σ 3))), (h 4, .inl (cI, 96, .inl (σ 4))), (h 5, .inl (cI, 96, .inl (σ 5))), (h 6, .inl (cI, 24, .inl (σ 6))), (h 7, .inl (cI, 24, .inl (σ 7))), (h 8, .inl (cI, 24, .inl (σ 8))), (h 9, .inl (cI, 24, .inl (σ 9))), (h 10, .inl (cI, 6, .inl (σ 10))), (h 11, .inl (cI, 24, .inl (σ 11))), (h 12, .inl (cB, 24, .inl (σ 12)))]
abbrev b_init : ByteArray := prog_1_method_1_code
def y_init : MethodName := ⟨R_X, "<init>", "()V"⟩
abbrev b_make : ByteArray := prog_1_method_2_code
def y_make : MethodName := ⟨R_X, "make", "(I)I"⟩
abbrev b_set : ByteArray := prog_1_method_3_code
def y_set : MethodName := ⟨R_X, "set", "(III)V"⟩
abbrev b_get : ByteArray := prog_1_method_4_code
def y_get : MethodName := ⟨R_X, "get", "(II)I"⟩
abbrev b_put : ByteArray := prog_1_method_5_code
def y_put : MethodName := ⟨R_X, "put", "(III)Z"⟩
abbrev b_find : ByteArray := prog_1_method_6_code
def y_find : MethodName := ⟨R_X, "find", "(II)I"⟩
abbrev b_remove : ByteArray := prog_1_method_7_code
def y_remove : MethodName := ⟨R_X, "remove", "(II)Z"⟩
abbrev b_key : ByteArray := prog_1_method_8_code
def y_key : MethodName := ⟨R_X, "key", "(II)I"⟩
abbrev b_root : ByteArray := prog_1_method_9_code
def y_root : MethodName := ⟨R_X, "root", "(II)V"⟩
abbrev b_rootAt : ByteArray := prog_1_method_10_code
def y_rootAt : MethodName := ⟨R_X, "rootAt", "(I)I"⟩
abbrev b_guard : ByteArray := prog_1_method_11_code
def y_guard : MethodName := ⟨R_X, "guard", "(III)V"⟩
abbrev b_collect : ByteArray := prog_1_method_12_code
def y_collect : MethodName := ⟨R_X, "collect", "()I"⟩
abbrev b_run : ByteArray := prog_1_method_13_code
def y_run : MethodName := ⟨R_X, "run", "()I"⟩
abbrev b_queued : ByteArray := prog_1_method_14_code
def y_queued : MethodName := ⟨R_X, "queued", "()I"⟩
abbrev b_used : ByteArray := prog_1_method_15_code
def y_used : MethodName := ⟨R_X, "used", "()I"⟩
abbrev b_kind : ByteArray := prog_1_method_16_code
def y_kind : MethodName := ⟨R_X, "kind", "(I)I"⟩
abbrev b_serial : ByteArray := prog_1_method_17_code
def y_serial : MethodName := ⟨R_X, "serial", "(I)I"⟩
abbrev b_collections : ByteArray := prog_1_method_18_code
def y_collections : MethodName := ⟨R_X, "collections", "()I"⟩
abbrev b_contains : ByteArray := prog_1_method_19_code
def y_contains : MethodName := ⟨R_X, "contains", "(II)Z"⟩
abbrev b_hasThing : ByteArray := prog_1_method_20_code
def y_hasThing : MethodName := ⟨R_X, "hasThing", "(I)Z"⟩
abbrev b_requireThing : ByteArray := prog_1_method_21_code
def y_requireThing : MethodName := ⟨R_X, "requireThing", "(I)V"⟩
abbrev b_requireThingOrNone : ByteArray := prog_1_method_22_code
def y_requireThingOrNone : MethodName := ⟨R_X, "requireThingOrNone", "(I)V"⟩
abbrev b_requireField : ByteArray := prog_1_method_23_code
def y_requireField : MethodName := ⟨R_X, "requireField", "(II)V"⟩
abbrev b_requireTable : ByteArray := prog_1_method_24_code
def y_requireTable : MethodName := ⟨R_X, "requireTable", "(I)V"⟩
abbrev b_requireRoot : ByteArray := prog_1_method_25_code
def y_requireRoot : MethodName := ⟨R_X, "requireRoot", "(I)V"⟩
abbrev b_fieldCount : ByteArray := prog_1_method_26_code
def y_fieldCount : MethodName := ⟨R_X, "fieldCount", "(I)I"⟩
abbrev b_fieldSlot : ByteArray := prog_1_method_27_code
def y_fieldSlot : MethodName := ⟨R_X, "fieldSlot", "(II)I"⟩
abbrev b_entrySlot : ByteArray := prog_1_method_28_code
def y_entrySlot : MethodName := ⟨R_X, "entrySlot", "(II)I"⟩
abbrev b_leastFreeCell : ByteArray := prog_1_method_29_code
def y_leastFreeCell : MethodName := ⟨R_X, "leastFreeCell", "()I"⟩
abbrev b_placeThing : ByteArray := prog_1_method_30_code
def y_placeThing : MethodName := ⟨R_X, "placeThing", "(II)V"⟩
abbrev b_emptyThing : ByteArray := prog_1_method_31_code
def y_emptyThing : MethodName := ⟨R_X, "emptyThing", "(I)V"⟩
abbrev b_entryOf : ByteArray := prog_1_method_32_code
def y_entryOf : MethodName := ⟨R_X, "entryOf", "(II)I"⟩
abbrev b_appendEntry : ByteArray := prog_1_method_33_code
def y_appendEntry : MethodName := ⟨R_X, "appendEntry", "(III)V"⟩
abbrev b_dropEntry : ByteArray := prog_1_method_34_code
def y_dropEntry : MethodName := ⟨R_X, "dropEntry", "(II)V"⟩
abbrev b_copyEntry : ByteArray := prog_1_method_35_code
def y_copyEntry : MethodName := ⟨R_X, "copyEntry", "(III)V"⟩
abbrev b_thingsInRoots : ByteArray := prog_1_method_36_code
def y_thingsInRoots : MethodName := ⟨R_X, "thingsInRoots", "()I"⟩
abbrev b_thingsInQueue : ByteArray := prog_1_method_37_code
def y_thingsInQueue : MethodName := ⟨R_X, "thingsInQueue", "()I"⟩
abbrev b_closureOf : ByteArray := prog_1_method_38_code
def y_closureOf : MethodName := ⟨R_X, "closureOf", "(I)I"⟩
abbrev b_withThingsHeld : ByteArray := prog_1_method_39_code
def y_withThingsHeld : MethodName := ⟨R_X, "withThingsHeld", "(I)I"⟩
abbrev b_thingsHeldBy : ByteArray := prog_1_method_40_code
def y_thingsHeldBy : MethodName := ⟨R_X, "thingsHeldBy", "(II)I"⟩
abbrev b_thingsInFields : ByteArray := prog_1_method_41_code
def y_thingsInFields : MethodName := ⟨R_X, "thingsInFields", "(I)I"⟩
abbrev b_valuesOfKeysIn : ByteArray := prog_1_method_42_code
def y_valuesOfKeysIn : MethodName := ⟨R_X, "valuesOfKeysIn", "(II)I"⟩
abbrev b_forgetOutside : ByteArray := prog_1_method_43_code
def y_forgetOutside : MethodName := ⟨R_X, "forgetOutside", "(I)V"⟩
abbrev b_forgetReferentOutside : ByteArray := prog_1_method_44_code
def y_forgetReferentOutside : MethodName := ⟨R_X, "forgetReferentOutside", "(II)V"⟩
abbrev b_forgetEntriesOutside : ByteArray := prog_1_method_45_code
def y_forgetEntriesOutside : MethodName := ⟨R_X, "forgetEntriesOutside", "(II)V"⟩
abbrev b_queueWaiting : ByteArray := prog_1_method_46_code
def y_queueWaiting : MethodName := ⟨R_X, "queueWaiting", "(I)V"⟩
abbrev b_takeFirstQueued : ByteArray := prog_1_method_47_code
def y_takeFirstQueued : MethodName := ⟨R_X, "takeFirstQueued", "()I"⟩
abbrev b_performAction : ByteArray := prog_1_method_48_code
def y_performAction : MethodName := ⟨R_X, "performAction", "(I)V"⟩
abbrev b_m_init : ByteArray := prog_3_method_1_code
def y_m_init : MethodName := ⟨R_M, "<init>", "()V"⟩
abbrev b_m_thrown : ByteArray := prog_3_method_2_code
def y_m_thrown : MethodName := ⟨R_M, "thrown", "()I"⟩
abbrev b_m_isThing : ByteArray := prog_3_method_3_code
def y_m_isThing : MethodName := ⟨R_M, "isThing", "(I)Z"⟩
abbrev b_m_isRoot : ByteArray := prog_3_method_4_code
def y_m_isRoot : MethodName := ⟨R_M, "isRoot", "(I)Z"⟩
abbrev b_m_isField : ByteArray := prog_3_method_5_code
def y_m_isField : MethodName := ⟨R_M, "isField", "(II)Z"⟩
abbrev b_m_freeCell : ByteArray := prog_3_method_6_code
def y_m_freeCell : MethodName := ⟨R_M, "freeCell", "()I"⟩
abbrev b_m_make : ByteArray := prog_3_method_7_code
def y_m_make : MethodName := ⟨R_M, "make", "(I)I"⟩
abbrev b_m_lose : ByteArray := prog_3_method_8_code
def y_m_lose : MethodName := ⟨R_M, "lose", "(I)V"⟩
abbrev b_m_set : ByteArray := prog_3_method_9_code
def y_m_set : MethodName := ⟨R_M, "set", "(III)V"⟩
abbrev b_m_get : ByteArray := prog_3_method_10_code
def y_m_get : MethodName := ⟨R_M, "get", "(II)I"⟩
abbrev b_m_entryOf : ByteArray := prog_3_method_11_code
def y_m_entryOf : MethodName := ⟨R_M, "entryOf", "(II)I"⟩
abbrev b_m_dropEntry : ByteArray := prog_3_method_12_code
def y_m_dropEntry : MethodName := ⟨R_M, "dropEntry", "(II)V"⟩
abbrev b_m_put : ByteArray := prog_3_method_13_code
def y_m_put : MethodName := ⟨R_M, "put", "(III)Z"⟩
abbrev b_m_isTable : ByteArray := prog_3_method_14_code
def y_m_isTable : MethodName := ⟨R_M, "isTable", "(II)Z"⟩
abbrev b_m_find : ByteArray := prog_3_method_15_code
def y_m_find : MethodName := ⟨R_M, "find", "(II)I"⟩
abbrev b_m_remove : ByteArray := prog_3_method_16_code
def y_m_remove : MethodName := ⟨R_M, "remove", "(II)Z"⟩
abbrev b_m_key : ByteArray := prog_3_method_17_code
def y_m_key : MethodName := ⟨R_M, "key", "(II)I"⟩
abbrev b_m_root : ByteArray := prog_3_method_18_code
def y_m_root : MethodName := ⟨R_M, "root", "(II)V"⟩
abbrev b_m_rootAt : ByteArray := prog_3_method_19_code
def y_m_rootAt : MethodName := ⟨R_M, "rootAt", "(I)I"⟩
abbrev b_m_guard : ByteArray := prog_3_method_20_code
def y_m_guard : MethodName := ⟨R_M, "guard", "(III)V"⟩
abbrev b_m_close : ByteArray := prog_3_method_21_code
def y_m_close : MethodName := ⟨R_M, "close", "()V"⟩
abbrev b_m_add : ByteArray := prog_3_method_22_code
def y_m_add : MethodName := ⟨R_M, "add", "(I)Z"⟩
abbrev b_m_forget : ByteArray := prog_3_method_23_code
def y_m_forget : MethodName := ⟨R_M, "forget", "()V"⟩
abbrev b_m_gather : ByteArray := prog_3_method_24_code
def y_m_gather : MethodName := ⟨R_M, "gather", "()I"⟩
abbrev b_m_collect : ByteArray := prog_3_method_25_code
def y_m_collect : MethodName := ⟨R_M, "collect", "()I"⟩
abbrev b_m_run : ByteArray := prog_3_method_26_code
def y_m_run : MethodName := ⟨R_M, "run", "()I"⟩
abbrev b_m_queued : ByteArray := prog_3_method_27_code
def y_m_queued : MethodName := ⟨R_M, "queued", "()I"⟩
abbrev b_m_used : ByteArray := prog_3_method_28_code
def y_m_used : MethodName := ⟨R_M, "used", "()I"⟩
abbrev b_m_kind : ByteArray := prog_3_method_29_code
def y_m_kind : MethodName := ⟨R_M, "kind", "(I)I"⟩
abbrev b_m_serial : ByteArray := prog_3_method_30_code
def y_m_serial : MethodName := ⟨R_M, "serial", "(I)I"⟩
abbrev b_m_collections : ByteArray := prog_3_method_31_code
def y_m_collections : MethodName := ⟨R_M, "collections", "()I"⟩
abbrev b_bitCount : ByteArray := prog_8_method_49_code
def y_bitCount : MethodName := ⟨"java/lang/Integer", "bitCount", "(I)I"⟩
def zStrs : List (String × Nat × String) := [("EphemeronHeap", 45, "no such kind"), ("EphemeronHeap", 59, "no cell is free"), ("EphemeronHeap", 160, "no thing in this cell"), ("EphemeronHeap", 165, "no such field"), ("EphemeronHeap", 167, "no table"), ("EphemeronHeap", 89, "the table is full"), ("EphemeronHeap", 100, "no such entry"), ("EphemeronHeap", 169, "no such root"), ("EphemeronHeap", 106, "no such action"), ("EphemeronHeap", 108, "the thing has a finaliser"), ("EphemeronHeap", 143, "the queue is empty")]
def zDecl : List MethodName := [⟨"java/lang/RuntimeException", "<init>", "(Ljava/lang/String;)V"⟩, ⟨"java/lang/Exception", "<init>", "(Ljava/lang/String;)V"⟩, ⟨"java/lang/Throwable", "<init>", "(Ljava/lang/String;)V"⟩]
def zCast : List (String × String) := [("java/lang/IllegalArgumentException", "java/lang/IllegalArgumentException"), ("java/lang/IllegalStateException", "java/lang/IllegalStateException"), ("java/util/NoSuchElementException", "java/util/NoSuchElementException"), ("java/lang/IndexOutOfBoundsException", "java/lang/IndexOutOfBoundsException")]
def zNcast : List (String × String) := [("java/lang/IllegalStateException", "java/lang/IllegalArgumentException"), ("java/util/NoSuchElementException", "java/lang/IllegalArgumentException"), ("java/lang/IndexOutOfBoundsException", "java/lang/IllegalArgumentException"), ("java/lang/IllegalArgumentException", "java/lang/IllegalStateException"), ("java/util/NoSuchElementException", "java/lang/IllegalStateException"), ("java/lang/IndexOutOfBoundsException", "java/lang/IllegalStateException"), ("java/lang/IllegalArgumentException", "java/util/NoSuchElementException"), ("java/lang/IllegalStateException", "java/util/NoSuchElementException"), ("java/lang/IndexOutOfBoundsException", "java/util/NoSuchElementException"), ("java/lang/IllegalArgumentException", "java/lang/IndexOutOfBoundsException"), ("java/lang/IllegalStateException", "java/lang/IndexOutOfBoundsException"), ("java/util/NoSuchElementException", "java/lang/IndexOutOfBoundsException")]
end
section
/-! Rows of my own: a frame's judgement with its heap hidden (zAt), contracts with throws (zMet), rows an instruction -/
def zg (lv : List (Nat × Value)) (i : Nat) : Option Value := match lv with
  | [] => none
  | q :: t => bif Nat.beq q.1 i then some q.2 else zg t i
def zu (lv : List (Nat × Value)) (i : Nat) (v : Value) : List (Nat × Value) := match lv with
  | [] => [(i, v)]
  | q :: t => bif Nat.beq q.1 i then zu t i v else q :: zu t i v
theorem zg_mem {lv : List (Nat × Value)} {i : Nat} {v : Value} (h : zg lv i = some v) : (i, v) ∈ lv := by
  induction lv with
  | nil => cases h
  | cons q t ih =>
    unfold zg at h
    cases hb : Nat.beq q.1 i with
    | true =>
      rw [hb] at h
      have h1 : q.1 = i := Nat.eq_of_beq_eq_true hb
      have h2 : q.2 = v := Option.some.inj h
      subst h1; subst h2
      exact List.mem_cons_self
    | false =>
      rw [hb] at h
      exact List.mem_cons_of_mem _ (ih h)
theorem zu_mem {lv : List (Nat × Value)} {i : Nat} {v : Value} {q : Nat × Value} (h : q ∈ zu lv i v) : q = (i, v) ∨ (q ∈ lv ∧ q.1 ≠ i) := by
  induction lv with
  | nil =>
    rcases List.mem_cons.mp h with h | h
    · exact Or.inl h
    · cases h
  | cons a t ih =>
    unfold zu at h
    cases hb : Nat.beq a.1 i with
    | true =>
      rw [hb] at h
      rcases ih h with h | ⟨h1, h2⟩
      · exact Or.inl h
      · exact Or.inr ⟨List.mem_cons_of_mem _ h1, h2⟩
    | false =>
      rw [hb] at h
      have hne : a.1 ≠ i := Nat.ne_of_beq_eq_false hb
      rcases List.mem_cons.mp h with h | h
      · subst h
        exact Or.inr ⟨List.mem_cons_self, hne⟩
      · rcases ih h with h | ⟨h1, h2⟩
        · exact Or.inl h
        · exact Or.inr ⟨List.mem_cons_of_mem _ h1, h2⟩
def zn (lv : List (Nat × Value)) : Bool := match lv with
  | [] => true
  | q :: t => Nat.beq q.2.category 1 && zn t
theorem zn_mem {lv : List (Nat × Value)} (h : zn lv = true) {q : Nat × Value} (hq : q ∈ lv) : q.2.category = 1 := by
  induction lv with
  | nil => cases hq
  | cons a t ih =>
    unfold zn at h
    rw [Bool.and_eq_true] at h
    rcases List.mem_cons.mp hq with hq | hq
    · subst hq
      exact Nat.eq_of_beq_eq_true h.1
    · exact ih h.2 hq
theorem zg_has {ls : Array Slot} {nL : Nat} {lv : List (Nat × Value)} {i : Nat} {v : Value} (h : lv_has ls nL lv) (hg : zg lv i = some v) : ls[i]? = some (.val v) := h.2.2 (i, v) (zg_mem hg)
theorem zu_has {ls : Array Slot} {nL : Nat} {lv : List (Nat × Value)} {i : Nat} {v : Value} (hn : zn lv = true) (h : lv_has ls nL ((i, v) :: lv.filter (fun q => !(q.1 == i) && !(q.1 + 1 == i && q.2.category == 2)))) : lv_has ls nL (zu lv i v) := by
  refine ⟨h.1, h.2.1, fun q hq => h.2.2 q ?_⟩
  rcases zu_mem hq with hq | ⟨h1, h2⟩
  · rw [hq]; exact List.mem_cons_self
  · refine List.mem_cons_of_mem _ (List.mem_filter.mpr ⟨h1, ?_⟩)
    have h3 := zn_mem hn h1
    simp [h2, h3]
/-- the two static fields that a Throwable's making reads -/
def zT1 (n d : String) (U : State) : Prop := (Cond.laysStatic Jvm.Bundle.tN n d).before #[] U = true ∧ (Cond.initialized Jvm.Bundle.tN).before #[] U = true ∧ (Cond.isRef (.static Jvm.Bundle.tN n d)).before #[] U = true
/-- .. and the constants that the messages are -/
def zT (U : State) : Prop := zT1 "UNASSIGNED_STACK" Jvm.Bundle.steD U ∧ zT1 "SUPPRESSED_SENTINEL" Jvm.Bundle.listD U ∧ (∀ q ∈ zStrs, ∃ a : Nat, vk_R q.1 q.2.1 q.2.2 a U) ∧ (∀ x ∈ zDecl, va_Nw (.declares x) U) ∧ (∀ q ∈ zCast, va_Nw (.castable q.1 q.2) U) ∧ ∀ q ∈ zNcast, va_Nc q.1 q.2 U
/-- what stays the same through a body -/
def zC (p : Program) (s : State) (m : MethodId) (args : Array Value) (meth : Method) (c : Code) (cc : ByteArray) (nL : Nat) (own : String) (Ts : List Cond) (D : va_G) (cl : List vw_C) (tys : List (ClassId × FieldType)) (w0 : va_W) : Prop :=
  p.tables.exec = Jvm.exec ∧ c.code = cc ∧ c.maxLocals = nL ∧ s.vm.findClass own = some m.cls ∧ (∀ w ∈ Ts, w.before args s = true) ∧ va_K D cl tys s ∧ va_P D cl w0 s.heap ∧ meth.locks = false ∧ zT s
/-- the machine at pc, its locals and stack as listed, its heap any that holds the world ws -/
def zAt (p : Program) (l : Launch) (e : Env) (R : Room) (s : State) (m : MethodId) (args : Array Value) (below : List Frame) (meth : Method) (c : Code) (D : va_G) (cl : List vw_C) (w0 : va_W) (nL cells slots : Nat) (Q : State → Prop) (ws : va_W) (pc : Nat) (lv : List (Nat × Value)) (st : List Value) : Prop :=
  ∀ (H : Heap) (locs : List Loc) (ls : Array Slot), va_P D cl ws H → va_D (va_A w0 s.heap.size) ws → va_S (va_A w0 s.heap.size) s.heap H locs → lv_has ls nL lv → W p l e R s m args below meth c H locs cells slots Q (F0 m pc ls st)
/-- an exception of the class E is on its way at pc -/
def zX (p : Program) (l : Launch) (e : Env) (R : Room) (s : State) (m : MethodId) (args : Array Value) (below : List Frame) (meth : Method) (c : Code) (D : va_G) (cl : List vw_C) (w0 : va_W) (nL cells slots : Nat) (Q : State → Prop) (ws : va_W) (pc : Nat) (lv : List (Nat × Value)) (E : String) : Prop :=
  ∀ (H : Heap) (locs : List Loc) (ls : Array Slot) (st : List Value) (q : Nat) (ce : Cell), va_P D cl ws H → va_D (va_A w0 s.heap.size) ws → va_S (va_A w0 s.heap.size) s.heap H locs → lv_has ls nL lv → H[q]? = some ce → ce.vm = .none → s.vm.findClass E = some ce.cls →
    ∀ T : State, T.heap = H → Stand p l e R s m args below meth c T locs cells slots → ∃ t, Steps p.tables e below ((T.setTop (F0 m pc ls st)).pushFrame (.throwing q)) t ∧ Q t
/-- how a method ends: with an answer, or with an exception of a class -/
abbrev zRes : Type := Option Value ⊕ String
def zR (s : State) (r : zRes) (o : Outcome) (t : State) : Prop := match r with
  | .inl v => o = .returned v
  | .inr E => ∃ (q : Nat) (ce : Cell), o = .threw q ∧ t.heap[q]? = some ce ∧ ce.vm = .none ∧ s.vm.findClass E = some ce.cls
def zO (D : va_G) (cl : List vw_C) (A : Nat → Prop) (post : zRes → va_W → Prop) (s : State) (o : Outcome) (t : State) : Prop :=
  va_F A s t ∧ ∃ (r : zRes) (w : va_W), post r w ∧ va_P D cl w t.heap ∧ va_D A w ∧ zR s r o t
/-- a number for a return, another for a throw -/
def zK (o : Outcome) (a b : Nat) : Nat := match o with
  | .returned _ => a
  | .threw _ => b
def zF (A : Nat → Prop) (s : State) (mr sr mc ms : Nat) (o : Outcome) (t : State) : Prop := s.WarmedH t.vm ∧ ∃ L : List Loc, s.sameButNew ({ t with vm := s.vm } : State) L (zK o mr mc) (zK o sr ms) ∧ ∀ q ∈ L, A q.base
def zEnd (below : List Frame) (D : va_G) (cl : List vw_C) (w0 : va_W) (post : zRes → va_W → Prop) (s : State) (mr sr mc ms : Nat) : State → Prop := fun t =>
  ∃ o, t.status = .running ∧ Ended t below o ∧ zO D cl (va_A w0 s.heap.size) post s o t ∧ zF (va_A w0 s.heap.size) s mr sr mc ms o t
def zPre (D : va_G) (cl : List vw_C) (tys : List (ClassId × FieldType)) (w0 : va_W) (av : List Value) (a : Array Value) (U : State) : Prop := a = av.toArray ∧ va_P D cl w0 U.heap ∧ va_K D cl tys U ∧ va_D (fun _ => True) w0 ∧ zT U
/-- a contract: from the world w0 and the arguments av the method y ends as post says; at most mr new cells of sr slots behind a return, mc of ms behind a throw -/
def zMet (l : Launch) (y : MethodName) (ws : List Cond) (rm : Room) (D : va_G) (cl : List vw_C) (tys : List (ClassId × FieldType)) (w0 : va_W) (av : List Value) (post : zRes → va_W → Prop) (mr sr mc ms : Nat) : Prop :=
  Jvm.Free.MetFree l y (headSpec ws rm) (zPre D cl tys w0 av) (fun _ _ _ _ _ => True) (fun _ st o t => zO D cl (va_A w0 st.heap.size) post st o t ∧ zF (va_A w0 st.heap.size) st mr sr mc ms o t)
section ZR
variable {p : Program} {l : Launch} {e : Env} {R : Room} {s : State} {m : MethodId} {args : Array Value} {below : List Frame} {meth : Method} {c : Code} {cells slots nL : Nat} {Q : State → Prop} {D : va_G} {cl : List vw_C} {tys : List (ClassId × FieldType)} {w0 : va_W} {cc : ByteArray} {own : String} {Ts : List Cond} {ws ws' : va_W} {pc : Nat} {lv lv' : List (Nat × Value)} {st : List Value}
theorem z_new_in {q : Nat} (h : s.heap.size ≤ q) : va_A w0 s.heap.size q := Or.inr h
theorem z_mono {Q' : State → Prop} {H : Heap} {locs : List Loc} {g : JFrame} (k : W p l e R s m args below meth c H locs cells slots Q g) (h : ∀ t, Q t → Q' t) : W p l e R s m args below meth c H locs cells slots Q' g := fun T hT X => by
  obtain ⟨t, a, b⟩ := k T hT X
  exact ⟨t, a, h t b⟩
theorem z_lv (hs : lv'.map (fun q => zg lv q.1) = lv'.map (fun q => some q.2)) (k : zAt p l e R s m args below meth c D cl w0 nL cells slots Q ws pc lv' st) : zAt p l e R s m args below meth c D cl w0 nL cells slots Q ws pc lv st := fun H locs ls hP hD hS hl =>
  k H locs ls hP hD hS ⟨hl.1, hl.2.1, fun q hq => by
    have h1 : ∀ z ∈ lv', zg lv z.1 = some z.2 := fun z hz => by
      have := List.map_inj_left.mp hs z hz
      exact this
    exact zg_has hl (h1 q hq)⟩
theorem z_widen {k n : Nat} (h1 : cells ≤ k) (h2 : slots ≤ n) (kk : zAt p l e R s m args below meth c D cl w0 nL k n Q ws pc lv st) : zAt p l e R s m args below meth c D cl w0 nL cells slots Q ws pc lv st := fun H locs ls hP hD hS hl => W.widen h1 h2 (kk H locs ls hP hD hS hl)
/-- a loop: its head at pc, its states a with a measure that falls -/
theorem z_loop {α : Type} (I : α → Prop) (μ : α → Nat) (wsf : α → va_W) (lvf : α → List (Nat × Value)) (body : ∀ a, I a → (∀ b, I b → μ b < μ a → zAt p l e R s m args below meth c D cl w0 nL cells slots Q (wsf b) pc (lvf b) []) → zAt p l e R s m args below meth c D cl w0 nL cells slots Q (wsf a) pc (lvf a) []) (a : α) (h : I a) : zAt p l e R s m args below meth c D cl w0 nL cells slots Q (wsf a) pc (lvf a) [] := by
  have go : ∀ n a, μ a < n → I a → zAt p l e R s m args below meth c D cl w0 nL cells slots Q (wsf a) pc (lvf a) [] := by
    intro n
    induction n with
    | zero => intro a h0; exact absurd h0 (Nat.not_lt_zero _)
    | succ n ih => intro a h0 h1; exact body a h1 (fun b hb hl => ih b (Nat.lt_of_lt_of_le hl (Nat.le_of_lt_succ h0)) hb)
  exact go (μ a + 1) a (Nat.lt_succ_self _) h
/-- roads that meet at pcJ -/
theorem z_cut {α : Type} (P : α → Prop) (pcJ : Nat) (wsf : α → va_W) (lvf : α → List (Nat × Value)) (stf : α → List Value) (k2 : ∀ a, P a → zAt p l e R s m args below meth c D cl w0 nL cells slots Q (wsf a) pcJ (lvf a) (stf a)) (k1 : (∀ a, P a → zAt p l e R s m args below meth c D cl w0 nL cells slots Q (wsf a) pcJ (lvf a) (stf a)) → zAt p l e R s m args below meth c D cl w0 nL cells slots Q ws pc lv st) : zAt p l e R s m args below meth c D cl w0 nL cells slots Q ws pc lv st := k1 k2
theorem z_ws (h : ws = ws') (k : zAt p l e R s m args below meth c D cl w0 nL cells slots Q ws' pc lv st) : zAt p l e R s m args below meth c D cl w0 nL cells slots Q ws pc lv st := h ▸ k
theorem z_st {st' : List Value} (h : st = st') (k : zAt p l e R s m args below meth c D cl w0 nL cells slots Q ws pc lv st') : zAt p l e R s m args below meth c D cl w0 nL cells slots Q ws pc lv st := h ▸ k
theorem z_eqi {x y : Int32} (h : x = y) (k : zAt p l e R s m args below meth c D cl w0 nL cells slots Q ws pc lv (.int y :: st)) : zAt p l e R s m args below meth c D cl w0 nL cells slots Q ws pc lv (.int x :: st) := h ▸ k
theorem z_eqi2 {v : Value} {x y : Int32} (h : x = y) (k : zAt p l e R s m args below meth c D cl w0 nL cells slots Q ws pc lv (v :: .int y :: st)) : zAt p l e R s m args below meth c D cl w0 nL cells slots Q ws pc lv (v :: .int x :: st) := h ▸ k
theorem z_iload (Z : zC p s m args meth c cc nL own Ts D cl tys w0) (i : Nat) {x : Int32} (d : decode cc pc = .ok (.iload i, 2)) (hg : zg lv i = some (.int x)) (k : zAt p l e R s m args below meth c D cl w0 nL cells slots Q ws (pc + 2) lv (.int x :: st)) : zAt p l e R s m args below meth c D cl w0 nL cells slots Q ws pc lv st := fun H locs ls hP hD hS hl => lv_iload Z.1 Z.2.1 d (zg_has hl hg) (k H locs ls hP hD hS hl)
theorem z_iload_n (Z : zC p s m args meth c cc nL own Ts D cl tys w0) (i : Nat) {f : Fin 4} {x : Int32} (d : decode cc pc = .ok (.iload_n f, 1)) (hi : (f : Nat) = i) (hg : zg lv i = some (.int x)) (k : zAt p l e R s m args below meth c D cl w0 nL cells slots Q ws (pc + 1) lv (.int x :: st)) : zAt p l e R s m args below meth c D cl w0 nL cells slots Q ws pc lv st := fun H locs ls hP hD hS hl => lv_iload_n Z.1 Z.2.1 d hi (zg_has hl hg) (k H locs ls hP hD hS hl)
theorem z_aload (Z : zC p s m args meth c cc nL own Ts D cl tys w0) (i : Nat) {x : Nat} (d : decode cc pc = .ok (.aload i, 2)) (hg : zg lv i = some (.ref x)) (k : zAt p l e R s m args below meth c D cl w0 nL cells slots Q ws (pc + 2) lv (.ref x :: st)) : zAt p l e R s m args below meth c D cl w0 nL cells slots Q ws pc lv st := fun H locs ls hP hD hS hl => lv_aload Z.1 Z.2.1 d (zg_has hl hg) (k H locs ls hP hD hS hl)
theorem z_aload_n (Z : zC p s m args meth c cc nL own Ts D cl tys w0) (i : Nat) {f : Fin 4} {x : Nat} (d : decode cc pc = .ok (.aload_n f, 1)) (hi : (f : Nat) = i) (hg : zg lv i = some (.ref x)) (k : zAt p l e R s m args below meth c D cl w0 nL cells slots Q ws (pc + 1) lv (.ref x :: st)) : zAt p l e R s m args below meth c D cl w0 nL cells slots Q ws pc lv st := fun H locs ls hP hD hS hl => lv_aload_n Z.1 Z.2.1 d hi (zg_has hl hg) (k H locs ls hP hD hS hl)
theorem z_istore (Z : zC p s m args meth c cc nL own Ts D cl tys w0) (i : Nat) {x : Int32} (d : decode cc pc = .ok (.istore i, 2)) (hn : i < nL) (hz : zn lv = true) (k : zAt p l e R s m args below meth c D cl w0 nL cells slots Q ws (pc + 2) (zu lv i (.int x)) st) : zAt p l e R s m args below meth c D cl w0 nL cells slots Q ws pc lv (.int x :: st) := fun H locs ls hP hD hS hl => lv_istore Z.1 Z.2.1 d hl hn rfl (fun ls' hl' => k H locs ls' hP hD hS (zu_has hz hl'))
theorem z_istore_n (Z : zC p s m args meth c cc nL own Ts D cl tys w0) (i : Nat) {f : Fin 4} {x : Int32} (d : decode cc pc = .ok (.istore_n f, 1)) (hi : (f : Nat) = i) (hn : i < nL) (hz : zn lv = true) (k : zAt p l e R s m args below meth c D cl w0 nL cells slots Q ws (pc + 1) (zu lv i (.int x)) st) : zAt p l e R s m args below meth c D cl w0 nL cells slots Q ws pc lv (.int x :: st) := fun H locs ls hP hD hS hl => lv_istore_n Z.1 Z.2.1 d hi hl hn rfl (fun ls' hl' => k H locs ls' hP hD hS (zu_has hz hl'))
theorem z_astore (Z : zC p s m args meth c cc nL own Ts D cl tys w0) (i : Nat) {x : Nat} (d : decode cc pc = .ok (.astore i, 2)) (hn : i < nL) (hz : zn lv = true) (k : zAt p l e R s m args below meth c D cl w0 nL cells slots Q ws (pc + 2) (zu lv i (.ref x)) st) : zAt p l e R s m args below meth c D cl w0 nL cells slots Q ws pc lv (.ref x :: st) := fun H locs ls hP hD hS hl => lv_astore Z.1 Z.2.1 d hl hn rfl (fun ls' hl' => k H locs ls' hP hD hS (zu_has hz hl'))
theorem z_astore_n (Z : zC p s m args meth c cc nL own Ts D cl tys w0) (i : Nat) {f : Fin 4} {x : Nat} (d : decode cc pc = .ok (.astore_n f, 1)) (hi : (f : Nat) = i) (hn : i < nL) (hz : zn lv = true) (k : zAt p l e R s m args below meth c D cl w0 nL cells slots Q ws (pc + 1) (zu lv i (.ref x)) st) : zAt p l e R s m args below meth c D cl w0 nL cells slots Q ws pc lv (.ref x :: st) := fun H locs ls hP hD hS hl => lv_astore_n Z.1 Z.2.1 d hi hl hn rfl (fun ls' hl' => k H locs ls' hP hD hS (zu_has hz hl'))
theorem z_iinc (Z : zC p s m args meth c cc nL own Ts D cl tys w0) (i : Nat) {n : Int} {x : Int32} (v : Int32) (d : decode cc pc = .ok (.iinc i n, 3)) (hg : zg lv i = some (.int x)) (hv : x + Int32.ofInt n = v) (hn : i < nL) (hz : zn lv = true) (k : zAt p l e R s m args below meth c D cl w0 nL cells slots Q ws (pc + 3) (zu lv i (.int v)) st) : zAt p l e R s m args below meth c D cl w0 nL cells slots Q ws pc lv st := fun H locs ls hP hD hS hl => by
  obtain ⟨j, hj⟩ := List.getElem?_of_mem (zg_mem hg)
  exact lv_iinc Z.1 Z.2.1 d hl hj hv hn rfl (fun ls' hl' => k H locs ls' hP hD hS (zu_has hz hl'))
theorem z_iincN (Z : zC p s m args meth c cc nL own Ts D cl tys w0) (i : Nat) {a : Nat} (d : decode cc pc = .ok (.iinc i 1, 3)) (hg : zg lv i = some (.int (nI a))) (hn : i < nL) (hz : zn lv = true) (k : zAt p l e R s m args below meth c D cl w0 nL cells slots Q ws (pc + 3) (zu lv i (.int (nI (a + 1)))) st) : zAt p l e R s m args below meth c D cl w0 nL cells slots Q ws pc lv st := z_iinc Z i (nI (a + 1)) d hg (by rw [show Int32.ofInt 1 = 1 from by decide]; exact nI_1 a) hn hz k
theorem z_iincM (Z : zC p s m args meth c cc nL own Ts D cl tys w0) (i : Nat) {a : Nat} (d : decode cc pc = .ok (.iinc i (-1), 3)) (hg : zg lv i = some (.int (nI (a + 1)))) (hn : i < nL) (hz : zn lv = true) (k : zAt p l e R s m args below meth c D cl w0 nL cells slots Q ws (pc + 3) (zu lv i (.int (nI a))) st) : zAt p l e R s m args below meth c D cl w0 nL cells slots Q ws pc lv st := z_iinc Z i (nI a) d hg (by rw [show Int32.ofInt (-1) = -1 from by decide]; exact pk_m1 a) hn hz k
theorem z_iconst (Z : zC p s m args meth c cc nL own Ts D cl tys w0) {n : Int} (v : Int32) (d : decode cc pc = .ok (.iconst n, 1)) (hv : Int32.ofInt n = v) (k : zAt p l e R s m args below meth c D cl w0 nL cells slots Q ws (pc + 1) lv (.int v :: st)) : zAt p l e R s m args below meth c D cl w0 nL cells slots Q ws pc lv st := fun H locs ls hP hD hS hl => lv_iconst Z.1 Z.2.1 d hv (k H locs ls hP hD hS hl)
theorem z_bipush (Z : zC p s m args meth c cc nL own Ts D cl tys w0) {n : Int} (v : Int32) (d : decode cc pc = .ok (.bipush n, 2)) (hv : (Int8.ofInt n).toInt32 = v) (k : zAt p l e R s m args below meth c D cl w0 nL cells slots Q ws (pc + 2) lv (.int v :: st)) : zAt p l e R s m args below meth c D cl w0 nL cells slots Q ws pc lv st := fun H locs ls hP hD hS hl => lv_bipush Z.1 Z.2.1 d hv (k H locs ls hP hD hS hl)
theorem z_lconst (Z : zC p s m args meth c cc nL own Ts D cl tys w0) {n : Fin 2} (v : Int64) (d : decode cc pc = .ok (.lconst n, 1)) (hv : Int64.ofNat (n : Nat) = v) (k : zAt p l e R s m args below meth c D cl w0 nL cells slots Q ws (pc + 1) lv (.long v :: st)) : zAt p l e R s m args below meth c D cl w0 nL cells slots Q ws pc lv st := fun H locs ls hP hD hS hl => lv_lconst Z.1 Z.2.1 d hv (k H locs ls hP hD hS hl)
theorem z_iadd (Z : zC p s m args meth c cc nL own Ts D cl tys w0) {x y : Int32} (d : decode cc pc = .ok (.iadd, 1)) (k : zAt p l e R s m args below meth c D cl w0 nL cells slots Q ws (pc + 1) lv (.int (x + y) :: st)) : zAt p l e R s m args below meth c D cl w0 nL cells slots Q ws pc lv (.int y :: .int x :: st) := fun H locs ls hP hD hS hl => lv_iadd Z.1 Z.2.1 d (k H locs ls hP hD hS hl)
theorem z_isub (Z : zC p s m args meth c cc nL own Ts D cl tys w0) {x y : Int32} (d : decode cc pc = .ok (.isub, 1)) (k : zAt p l e R s m args below meth c D cl w0 nL cells slots Q ws (pc + 1) lv (.int (x - y) :: st)) : zAt p l e R s m args below meth c D cl w0 nL cells slots Q ws pc lv (.int y :: .int x :: st) := fun H locs ls hP hD hS hl => lv_isub Z.1 Z.2.1 d (k H locs ls hP hD hS hl)
theorem z_imul (Z : zC p s m args meth c cc nL own Ts D cl tys w0) {x y : Int32} (d : decode cc pc = .ok (.imul, 1)) (k : zAt p l e R s m args below meth c D cl w0 nL cells slots Q ws (pc + 1) lv (.int (x * y) :: st)) : zAt p l e R s m args below meth c D cl w0 nL cells slots Q ws pc lv (.int y :: .int x :: st) := fun H locs ls hP hD hS hl => lv_imul Z.1 Z.2.1 d (k H locs ls hP hD hS hl)
theorem z_ishl (Z : zC p s m args meth c cc nL own Ts D cl tys w0) {x y : Int32} (d : decode cc pc = .ok (.ishl, 1)) (k : zAt p l e R s m args below meth c D cl w0 nL cells slots Q ws (pc + 1) lv (.int (x <<< (y &&& 31)) :: st)) : zAt p l e R s m args below meth c D cl w0 nL cells slots Q ws pc lv (.int y :: .int x :: st) := fun H locs ls hP hD hS hl => lv_ishl Z.1 Z.2.1 d (k H locs ls hP hD hS hl)
theorem z_iand (Z : zC p s m args meth c cc nL own Ts D cl tys w0) {x y : Int32} (d : decode cc pc = .ok (.iand, 1)) (k : zAt p l e R s m args below meth c D cl w0 nL cells slots Q ws (pc + 1) lv (.int (x &&& y) :: st)) : zAt p l e R s m args below meth c D cl w0 nL cells slots Q ws pc lv (.int y :: .int x :: st) := fun H locs ls hP hD hS hl => lv_iand Z.1 Z.2.1 d (k H locs ls hP hD hS hl)
theorem z_ior (Z : zC p s m args meth c cc nL own Ts D cl tys w0) {x y : Int32} (d : decode cc pc = .ok (.ior, 1)) (k : zAt p l e R s m args below meth c D cl w0 nL cells slots Q ws (pc + 1) lv (.int (x ||| y) :: st)) : zAt p l e R s m args below meth c D cl w0 nL cells slots Q ws pc lv (.int y :: .int x :: st) := fun H locs ls hP hD hS hl => lv_ior Z.1 Z.2.1 d (k H locs ls hP hD hS hl)
theorem z_ixor (Z : zC p s m args meth c cc nL own Ts D cl tys w0) {x y : Int32} (d : decode cc pc = .ok (.ixor, 1)) (k : zAt p l e R s m args below meth c D cl w0 nL cells slots Q ws (pc + 1) lv (.int (x ^^^ y) :: st)) : zAt p l e R s m args below meth c D cl w0 nL cells slots Q ws pc lv (.int y :: .int x :: st) := fun H locs ls hP hD hS hl => lv_ixor Z.1 Z.2.1 d (k H locs ls hP hD hS hl)
theorem z_iaddN (Z : zC p s m args meth c cc nL own Ts D cl tys w0) {a b : Nat} (d : decode cc pc = .ok (.iadd, 1)) (k : zAt p l e R s m args below meth c D cl w0 nL cells slots Q ws (pc + 1) lv (.int (nI (a + b)) :: st)) : zAt p l e R s m args below meth c D cl w0 nL cells slots Q ws pc lv (.int (nI b) :: .int (nI a) :: st) := z_iadd Z d (by rw [nI_add]; exact k)
theorem z_imulN (Z : zC p s m args meth c cc nL own Ts D cl tys w0) {a b : Nat} (d : decode cc pc = .ok (.imul, 1)) (k : zAt p l e R s m args below meth c D cl w0 nL cells slots Q ws (pc + 1) lv (.int (nI (a * b)) :: st)) : zAt p l e R s m args below meth c D cl w0 nL cells slots Q ws pc lv (.int (nI b) :: .int (nI a) :: st) := z_imul Z d (by rw [pk_mul]; exact k)
theorem z_isubN (Z : zC p s m args meth c cc nL own Ts D cl tys w0) {a b : Nat} (d : decode cc pc = .ok (.isub, 1)) (h : b ≤ a) (k : zAt p l e R s m args below meth c D cl w0 nL cells slots Q ws (pc + 1) lv (.int (nI (a - b)) :: st)) : zAt p l e R s m args below meth c D cl w0 nL cells slots Q ws pc lv (.int (nI b) :: .int (nI a) :: st) := z_isub Z d (by rw [pk_sub h]; exact k)
theorem z_iandN (Z : zC p s m args meth c cc nL own Ts D cl tys w0) {a b : Nat} (d : decode cc pc = .ok (.iand, 1)) (k : zAt p l e R s m args below meth c D cl w0 nL cells slots Q ws (pc + 1) lv (.int (nI (a &&& b)) :: st)) : zAt p l e R s m args below meth c D cl w0 nL cells slots Q ws pc lv (.int (nI b) :: .int (nI a) :: st) := z_iand Z d (by rw [zn_and]; exact k)
theorem z_iushrN (Z : zC p s m args meth c cc nL own Ts D cl tys w0) {n k : Nat} (d : decode cc pc = .ok (.iushr, 1)) (hn : n < 2 ^ 32) (hk : k < 32) (kk : zAt p l e R s m args below meth c D cl w0 nL cells slots Q ws (pc + 1) lv (.int (nI (n / 2 ^ k)) :: st)) : zAt p l e R s m args below meth c D cl w0 nL cells slots Q ws pc lv (.int (nI k) :: .int (nI n) :: st) := fun H locs ls hP hD hS hl => lv_iushr Z.1 Z.2.1 d (pk_ushrN hn (nI k) k (zs_u k hk)) (kk H locs ls hP hD hS hl)
theorem z_ldcw (Z : zC p s m args meth c cc nL own Ts D cl tys w0) {index : Nat} {v : Int32} (hc : Cond.constant own index v ∈ Ts) (d : decode cc pc = .ok (.ldc_w index, 3)) (k : zAt p l e R s m args below meth c D cl w0 nL cells slots Q ws (pc + 3) lv (.int v :: st)) : zAt p l e R s m args below meth c D cl w0 nL cells slots Q ws pc lv st := fun H locs ls hP hD hS hl => lv_ldcw Z.1 Z.2.1 Z.2.2.2.1 (Z.2.2.2.2.1 _ hc) d (k H locs ls hP hD hS hl)
theorem z_i2l (Z : zC p s m args meth c cc nL own Ts D cl tys w0) {x : Int32} (d : decode cc pc = .ok (.i2l, 1)) (k : zAt p l e R s m args below meth c D cl w0 nL cells slots Q ws (pc + 1) lv (.long x.toInt64 :: st)) : zAt p l e R s m args below meth c D cl w0 nL cells slots Q ws pc lv (.int x :: st) := fun H locs ls hP hD hS hl => lv_i2l Z.1 Z.2.1 d rfl (k H locs ls hP hD hS hl)
theorem z_lcmp (Z : zC p s m args meth c cc nL own Ts D cl tys w0) {x y : Int64} (d : decode cc pc = .ok (.lcmp, 1)) (k : zAt p l e R s m args below meth c D cl w0 nL cells slots Q ws (pc + 1) lv (.int (lg_cmp x y) :: st)) : zAt p l e R s m args below meth c D cl w0 nL cells slots Q ws pc lv (.long y :: .long x :: st) := fun H locs ls hP hD hS hl => W.lcmp Z.1 Z.2.1 d (k H locs ls hP hD hS hl)
theorem z_pop (Z : zC p s m args meth c cc nL own Ts D cl tys w0) {x : Int32} (d : decode cc pc = .ok (.pop, 1)) (k : zAt p l e R s m args below meth c D cl w0 nL cells slots Q ws (pc + 1) lv st) : zAt p l e R s m args below meth c D cl w0 nL cells slots Q ws pc lv (.int x :: st) := fun H locs ls hP hD hS hl => lv_pop Z.1 Z.2.1 d rfl (k H locs ls hP hD hS hl)
theorem z_dup (Z : zC p s m args meth c cc nL own Ts D cl tys w0) {x : Nat} (d : decode cc pc = .ok (.dup, 1)) (k : zAt p l e R s m args below meth c D cl w0 nL cells slots Q ws (pc + 1) lv (.ref x :: .ref x :: st)) : zAt p l e R s m args below meth c D cl w0 nL cells slots Q ws pc lv (.ref x :: st) := fun H locs ls hP hD hS hl => lv_dup Z.1 Z.2.1 d rfl (k H locs ls hP hD hS hl)
theorem z_dup2 (Z : zC p s m args meth c cc nL own Ts D cl tys w0) {x : Int32} {y : Nat} (d : decode cc pc = .ok (.dup2, 1)) (k : zAt p l e R s m args below meth c D cl w0 nL cells slots Q ws (pc + 1) lv (.int x :: .ref y :: .int x :: .ref y :: st)) : zAt p l e R s m args below meth c D cl w0 nL cells slots Q ws pc lv (.int x :: .ref y :: st) := fun H locs ls hP hD hS hl => lv_dup2_11 Z.1 Z.2.1 d rfl rfl (k H locs ls hP hD hS hl)
theorem z_goto (Z : zC p s m args meth c cc nL own Ts D cl tys w0) {off : Int} (tgt : Nat) (d : decode cc pc = .ok (.goto off, 3)) (ht : (pc : Int) + off = (tgt : Int)) (k : zAt p l e R s m args below meth c D cl w0 nL cells slots Q ws tgt lv st) : zAt p l e R s m args below meth c D cl w0 nL cells slots Q ws pc lv st := fun H locs ls hP hD hS hl => lv_goto Z.1 Z.2.1 d ht (k H locs ls hP hD hS hl)
theorem z_icmp_eq (Z : zC p s m args meth c cc nL own Ts D cl tys w0) {x y : Int32} {off : Int} (tgt : Nat) (d : decode cc pc = .ok (.if_icmp .eq off, 3)) (ht : (pc : Int) + off = (tgt : Int)) (kt : x = y → zAt p l e R s m args below meth c D cl w0 nL cells slots Q ws tgt lv st) (kf : ¬ x = y → zAt p l e R s m args below meth c D cl w0 nL cells slots Q ws (pc + 3) lv st) : zAt p l e R s m args below meth c D cl w0 nL cells slots Q ws pc lv (.int y :: .int x :: st) := fun H locs ls hP hD hS hl => lv_icmp_eq Z.1 Z.2.1 d ht (fun h => kt h H locs ls hP hD hS hl) (fun h => kf h H locs ls hP hD hS hl)
theorem z_icmp_ne (Z : zC p s m args meth c cc nL own Ts D cl tys w0) {x y : Int32} {off : Int} (tgt : Nat) (d : decode cc pc = .ok (.if_icmp .ne off, 3)) (ht : (pc : Int) + off = (tgt : Int)) (kt : ¬ x = y → zAt p l e R s m args below meth c D cl w0 nL cells slots Q ws tgt lv st) (kf : x = y → zAt p l e R s m args below meth c D cl w0 nL cells slots Q ws (pc + 3) lv st) : zAt p l e R s m args below meth c D cl w0 nL cells slots Q ws pc lv (.int y :: .int x :: st) := fun H locs ls hP hD hS hl => lv_icmp_ne Z.1 Z.2.1 d ht (fun h => kt h H locs ls hP hD hS hl) (fun h => kf h H locs ls hP hD hS hl)
theorem z_icmp_lt (Z : zC p s m args meth c cc nL own Ts D cl tys w0) {x y : Int32} {off : Int} (tgt : Nat) (d : decode cc pc = .ok (.if_icmp .lt off, 3)) (ht : (pc : Int) + off = (tgt : Int)) (kt : x < y → zAt p l e R s m args below meth c D cl w0 nL cells slots Q ws tgt lv st) (kf : ¬ x < y → zAt p l e R s m args below meth c D cl w0 nL cells slots Q ws (pc + 3) lv st) : zAt p l e R s m args below meth c D cl w0 nL cells slots Q ws pc lv (.int y :: .int x :: st) := fun H locs ls hP hD hS hl => lv_icmp_lt Z.1 Z.2.1 d ht (fun h => kt h H locs ls hP hD hS hl) (fun h => kf h H locs ls hP hD hS hl)
theorem z_icmp_ge (Z : zC p s m args meth c cc nL own Ts D cl tys w0) {x y : Int32} {off : Int} (tgt : Nat) (d : decode cc pc = .ok (.if_icmp .ge off, 3)) (ht : (pc : Int) + off = (tgt : Int)) (kt : y ≤ x → zAt p l e R s m args below meth c D cl w0 nL cells slots Q ws tgt lv st) (kf : ¬ y ≤ x → zAt p l e R s m args below meth c D cl w0 nL cells slots Q ws (pc + 3) lv st) : zAt p l e R s m args below meth c D cl w0 nL cells slots Q ws pc lv (.int y :: .int x :: st) := fun H locs ls hP hD hS hl => lv_icmp_ge Z.1 Z.2.1 d ht (fun h => kt h H locs ls hP hD hS hl) (fun h => kf h H locs ls hP hD hS hl)
theorem z_icmp_gt (Z : zC p s m args meth c cc nL own Ts D cl tys w0) {x y : Int32} {off : Int} (tgt : Nat) (d : decode cc pc = .ok (.if_icmp .gt off, 3)) (ht : (pc : Int) + off = (tgt : Int)) (kt : y < x → zAt p l e R s m args below meth c D cl w0 nL cells slots Q ws tgt lv st) (kf : ¬ y < x → zAt p l e R s m args below meth c D cl w0 nL cells slots Q ws (pc + 3) lv st) : zAt p l e R s m args below meth c D cl w0 nL cells slots Q ws pc lv (.int y :: .int x :: st) := fun H locs ls hP hD hS hl => lv_icmp_gt Z.1 Z.2.1 d ht (fun h => kt h H locs ls hP hD hS hl) (fun h => kf h H locs ls hP hD hS hl)
theorem z_icmp_le (Z : zC p s m args meth c cc nL own Ts D cl tys w0) {x y : Int32} {off : Int} (tgt : Nat) (d : decode cc pc = .ok (.if_icmp .le off, 3)) (ht : (pc : Int) + off = (tgt : Int)) (kt : x ≤ y → zAt p l e R s m args below meth c D cl w0 nL cells slots Q ws tgt lv st) (kf : ¬ x ≤ y → zAt p l e R s m args below meth c D cl w0 nL cells slots Q ws (pc + 3) lv st) : zAt p l e R s m args below meth c D cl w0 nL cells slots Q ws pc lv (.int y :: .int x :: st) := fun H locs ls hP hD hS hl => lv_icmp_le Z.1 Z.2.1 d ht (fun h => kt h H locs ls hP hD hS hl) (fun h => kf h H locs ls hP hD hS hl)
theorem z_if_eq (Z : zC p s m args meth c cc nL own Ts D cl tys w0) {x : Int32} {off : Int} (tgt : Nat) (d : decode cc pc = .ok (.ifCond .eq off, 3)) (ht : (pc : Int) + off = (tgt : Int)) (kt : x = 0 → zAt p l e R s m args below meth c D cl w0 nL cells slots Q ws tgt lv st) (kf : ¬ x = 0 → zAt p l e R s m args below meth c D cl w0 nL cells slots Q ws (pc + 3) lv st) : zAt p l e R s m args below meth c D cl w0 nL cells slots Q ws pc lv (.int x :: st) := fun H locs ls hP hD hS hl => lv_if_eq Z.1 Z.2.1 d ht (fun h => kt h H locs ls hP hD hS hl) (fun h => kf h H locs ls hP hD hS hl)
theorem z_if_ne (Z : zC p s m args meth c cc nL own Ts D cl tys w0) {x : Int32} {off : Int} (tgt : Nat) (d : decode cc pc = .ok (.ifCond .ne off, 3)) (ht : (pc : Int) + off = (tgt : Int)) (kt : ¬ x = 0 → zAt p l e R s m args below meth c D cl w0 nL cells slots Q ws tgt lv st) (kf : x = 0 → zAt p l e R s m args below meth c D cl w0 nL cells slots Q ws (pc + 3) lv st) : zAt p l e R s m args below meth c D cl w0 nL cells slots Q ws pc lv (.int x :: st) := fun H locs ls hP hD hS hl => lv_if_ne Z.1 Z.2.1 d ht (fun h => kt h H locs ls hP hD hS hl) (fun h => kf h H locs ls hP hD hS hl)
theorem z_if_lt (Z : zC p s m args meth c cc nL own Ts D cl tys w0) {x : Int32} {off : Int} (tgt : Nat) (d : decode cc pc = .ok (.ifCond .lt off, 3)) (ht : (pc : Int) + off = (tgt : Int)) (kt : x < 0 → zAt p l e R s m args below meth c D cl w0 nL cells slots Q ws tgt lv st) (kf : ¬ x < 0 → zAt p l e R s m args below meth c D cl w0 nL cells slots Q ws (pc + 3) lv st) : zAt p l e R s m args below meth c D cl w0 nL cells slots Q ws pc lv (.int x :: st) := fun H locs ls hP hD hS hl => lv_if_lt Z.1 Z.2.1 d ht (fun h => kt h H locs ls hP hD hS hl) (fun h => kf h H locs ls hP hD hS hl)
theorem z_if_ge (Z : zC p s m args meth c cc nL own Ts D cl tys w0) {x : Int32} {off : Int} (tgt : Nat) (d : decode cc pc = .ok (.ifCond .ge off, 3)) (ht : (pc : Int) + off = (tgt : Int)) (kt : 0 ≤ x → zAt p l e R s m args below meth c D cl w0 nL cells slots Q ws tgt lv st) (kf : ¬ 0 ≤ x → zAt p l e R s m args below meth c D cl w0 nL cells slots Q ws (pc + 3) lv st) : zAt p l e R s m args below meth c D cl w0 nL cells slots Q ws pc lv (.int x :: st) := fun H locs ls hP hD hS hl => lv_if_ge Z.1 Z.2.1 d ht (fun h => kt h H locs ls hP hD hS hl) (fun h => kf h H locs ls hP hD hS hl)
theorem z_if_gt (Z : zC p s m args meth c cc nL own Ts D cl tys w0) {x : Int32} {off : Int} (tgt : Nat) (d : decode cc pc = .ok (.ifCond .gt off, 3)) (ht : (pc : Int) + off = (tgt : Int)) (kt : 0 < x → zAt p l e R s m args below meth c D cl w0 nL cells slots Q ws tgt lv st) (kf : ¬ 0 < x → zAt p l e R s m args below meth c D cl w0 nL cells slots Q ws (pc + 3) lv st) : zAt p l e R s m args below meth c D cl w0 nL cells slots Q ws pc lv (.int x :: st) := fun H locs ls hP hD hS hl => lv_if_gt Z.1 Z.2.1 d ht (fun h => kt h H locs ls hP hD hS hl) (fun h => kf h H locs ls hP hD hS hl)
theorem z_if_le (Z : zC p s m args meth c cc nL own Ts D cl tys w0) {x : Int32} {off : Int} (tgt : Nat) (d : decode cc pc = .ok (.ifCond .le off, 3)) (ht : (pc : Int) + off = (tgt : Int)) (kt : x ≤ 0 → zAt p l e R s m args below meth c D cl w0 nL cells slots Q ws tgt lv st) (kf : ¬ x ≤ 0 → zAt p l e R s m args below meth c D cl w0 nL cells slots Q ws (pc + 3) lv st) : zAt p l e R s m args below meth c D cl w0 nL cells slots Q ws pc lv (.int x :: st) := fun H locs ls hP hD hS hl => lv_if_le Z.1 Z.2.1 d ht (fun h => kt h H locs ls hP hD hS hl) (fun h => kf h H locs ls hP hD hS hl)
theorem z_icmpN_eq (Z : zC p s m args meth c cc nL own Ts D cl tys w0) {a b : Nat} {off : Int} (tgt : Nat) (d : decode cc pc = .ok (.if_icmp .eq off, 3)) (ht : (pc : Int) + off = (tgt : Int)) (ha : a < 2 ^ 31) (hb : b < 2 ^ 31) (kt : a = b → zAt p l e R s m args below meth c D cl w0 nL cells slots Q ws tgt lv st) (kf : a ≠ b → zAt p l e R s m args below meth c D cl w0 nL cells slots Q ws (pc + 3) lv st) : zAt p l e R s m args below meth c D cl w0 nL cells slots Q ws pc lv (.int (nI b) :: .int (nI a) :: st) := z_icmp_eq Z tgt d ht (fun h => kt ((nI_eq ha hb).mp h)) (fun h => kf (fun q => h ((nI_eq ha hb).mpr q)))
theorem z_icmpN_ne (Z : zC p s m args meth c cc nL own Ts D cl tys w0) {a b : Nat} {off : Int} (tgt : Nat) (d : decode cc pc = .ok (.if_icmp .ne off, 3)) (ht : (pc : Int) + off = (tgt : Int)) (ha : a < 2 ^ 31) (hb : b < 2 ^ 31) (kt : a ≠ b → zAt p l e R s m args below meth c D cl w0 nL cells slots Q ws tgt lv st) (kf : a = b → zAt p l e R s m args below meth c D cl w0 nL cells slots Q ws (pc + 3) lv st) : zAt p l e R s m args below meth c D cl w0 nL cells slots Q ws pc lv (.int (nI b) :: .int (nI a) :: st) := z_icmp_ne Z tgt d ht (fun h => kt (fun q => h ((nI_eq ha hb).mpr q))) (fun h => kf ((nI_eq ha hb).mp h))
theorem z_icmpN_lt (Z : zC p s m args meth c cc nL own Ts D cl tys w0) {a b : Nat} {off : Int} (tgt : Nat) (d : decode cc pc = .ok (.if_icmp .lt off, 3)) (ht : (pc : Int) + off = (tgt : Int)) (ha : a < 2 ^ 31) (hb : b < 2 ^ 31) (kt : a < b → zAt p l e R s m args below meth c D cl w0 nL cells slots Q ws tgt lv st) (kf : b ≤ a → zAt p l e R s m args below meth c D cl w0 nL cells slots Q ws (pc + 3) lv st) : zAt p l e R s m args below meth c D cl w0 nL cells slots Q ws pc lv (.int (nI b) :: .int (nI a) :: st) := z_icmp_lt Z tgt d ht (fun h => kt ((nI_ltI ha hb).mp h)) (fun h => kf (Nat.not_lt.mp (fun q => h ((nI_ltI ha hb).mpr q))))
theorem z_icmpN_ge (Z : zC p s m args meth c cc nL own Ts D cl tys w0) {a b : Nat} {off : Int} (tgt : Nat) (d : decode cc pc = .ok (.if_icmp .ge off, 3)) (ht : (pc : Int) + off = (tgt : Int)) (ha : a < 2 ^ 31) (hb : b < 2 ^ 31) (kt : b ≤ a → zAt p l e R s m args below meth c D cl w0 nL cells slots Q ws tgt lv st) (kf : a < b → zAt p l e R s m args below meth c D cl w0 nL cells slots Q ws (pc + 3) lv st) : zAt p l e R s m args below meth c D cl w0 nL cells slots Q ws pc lv (.int (nI b) :: .int (nI a) :: st) := z_icmp_ge Z tgt d ht (fun h => kt ((nI_leI hb ha).mp h)) (fun h => kf (Nat.not_le.mp (fun q => h ((nI_leI hb ha).mpr q))))
theorem z_icmpN_gt (Z : zC p s m args meth c cc nL own Ts D cl tys w0) {a b : Nat} {off : Int} (tgt : Nat) (d : decode cc pc = .ok (.if_icmp .gt off, 3)) (ht : (pc : Int) + off = (tgt : Int)) (ha : a < 2 ^ 31) (hb : b < 2 ^ 31) (kt : b < a → zAt p l e R s m args below meth c D cl w0 nL cells slots Q ws tgt lv st) (kf : a ≤ b → zAt p l e R s m args below meth c D cl w0 nL cells slots Q ws (pc + 3) lv st) : zAt p l e R s m args below meth c D cl w0 nL cells slots Q ws pc lv (.int (nI b) :: .int (nI a) :: st) := z_icmp_gt Z tgt d ht (fun h => kt ((nI_ltI hb ha).mp h)) (fun h => kf (Nat.not_lt.mp (fun q => h ((nI_ltI hb ha).mpr q))))
theorem z_icmpN_le (Z : zC p s m args meth c cc nL own Ts D cl tys w0) {a b : Nat} {off : Int} (tgt : Nat) (d : decode cc pc = .ok (.if_icmp .le off, 3)) (ht : (pc : Int) + off = (tgt : Int)) (ha : a < 2 ^ 31) (hb : b < 2 ^ 31) (kt : a ≤ b → zAt p l e R s m args below meth c D cl w0 nL cells slots Q ws tgt lv st) (kf : b < a → zAt p l e R s m args below meth c D cl w0 nL cells slots Q ws (pc + 3) lv st) : zAt p l e R s m args below meth c D cl w0 nL cells slots Q ws pc lv (.int (nI b) :: .int (nI a) :: st) := z_icmp_le Z tgt d ht (fun h => kt ((nI_leI ha hb).mp h)) (fun h => kf (Nat.not_le.mp (fun q => h ((nI_leI ha hb).mpr q))))
theorem z_tableIn (Z : zC p s m args meth c cc nL own Ts D cl tys w0) {dflt lo hi : Int} {offs : Array Int} {len : Nat} {x : Int32} {off : Int} (tgt : Nat) (d : decode cc pc = .ok (.tableswitch dflt lo hi offs, len)) (h1 : ¬ x.toInt < lo) (h2 : ¬ hi < x.toInt) (ho : offs[(x.toInt - lo).toNat]? = some off) (ht : (pc : Int) + off = (tgt : Int)) (k : zAt p l e R s m args below meth c D cl w0 nL cells slots Q ws tgt lv st) : zAt p l e R s m args below meth c D cl w0 nL cells slots Q ws pc lv (.int x :: st) := fun H locs ls hP hD hS hl => lv_tableIn Z.1 Z.2.1 d h1 h2 ho ht (k H locs ls hP hD hS hl)
theorem z_tableOut (Z : zC p s m args meth c cc nL own Ts D cl tys w0) {dflt lo hi : Int} {offs : Array Int} {len : Nat} {x : Int32} (tgt : Nat) (d : decode cc pc = .ok (.tableswitch dflt lo hi offs, len)) (h : x.toInt < lo ∨ hi < x.toInt) (ht : (pc : Int) + dflt = (tgt : Int)) (k : zAt p l e R s m args below meth c D cl w0 nL cells slots Q ws tgt lv st) : zAt p l e R s m args below meth c D cl w0 nL cells slots Q ws pc lv (.int x :: st) := fun H locs ls hP hD hS hl => lv_tableOut Z.1 Z.2.1 d h ht (k H locs ls hP hD hS hl)
theorem z_get (Z : zC p s m args meth c cc nL own Ts D cl tys w0) {C : String} {T : u_T} {N ci index : Nat} (hin : ∀ w ∈ u_ws C T N, w ∈ Ts) (q0 : Nat) {a : Nat} {fs : List Value} (he : ws[q0]? = some (a, .inr (ci, fs))) (hc : cl[ci]? = some (C, T, N)) (k : Nat) (hk : k < N) (hlink : Cond.fieldLink own index (T k).1 (T k).2.1 (T k).2.2.1 ∈ Ts) {v : Value} (hv : fs[k]? = some v) (d : decode cc pc = .ok (.getfield index, 3)) (kk : zAt p l e R s m args below meth c D cl w0 nL cells slots Q ws (pc + 3) lv (v :: st)) : zAt p l e R s m args below meth c D cl w0 nL cells slots Q ws pc lv (.ref a :: st) := fun H locs ls hP hD hS hl => va_get Z.1 Z.2.1 Z.2.2.2.2.1 hin Z.2.2.2.1 Z.2.2.2.2.2.1 hP q0 he hc k hk (Z.2.2.2.2.1 _ hlink) (fun _ h9 => h9) hv d (kk H locs ls hP hD hS hl)
theorem z_put (Z : zC p s m args meth c cc nL own Ts D cl tys w0) {C : String} {T : u_T} {N ci index : Nat} (hin : ∀ w ∈ u_ws C T N, w ∈ Ts) (ty0 : Nat → FieldType) (hty : ∀ k, k < N → parseFieldDescriptor (T k).2.2.1 = some (ty0 k)) (hnm : ∀ a, a < N → ∀ b, b < N → a ≠ b → (T a).2.1 ≠ (T b).2.1) (q0 : Nat) {a : Nat} {fs : List Value} (he : ws[q0]? = some (a, .inr (ci, fs))) (hc : cl[ci]? = some (C, T, N)) (k : Nat) (hk : k < N) (hlink : Cond.fieldLink own index (T k).1 (T k).2.1 (T k).2.2.1 ∈ Ts) (hfin : (T k).2.2.2 = false) {ty : FieldType} {v : Value} (hd : parseFieldDescriptor (T k).2.2.1 = some ty) (hn : narrow ty v = v) (hfit : fits ty v = true) (hlf : k < fs.length) (d : decode cc pc = .ok (.putfield index, 3)) (hw : ws.set q0 (a, .inr (ci, fs.set k v)) = ws') (kk : zAt p l e R s m args below meth c D cl w0 nL cells slots Q ws' (pc + 3) lv st) : zAt p l e R s m args below meth c D cl w0 nL cells slots Q ws pc lv (v :: .ref a :: st) := fun H locs ls hP hD hS hl => va_put Z.1 Z.2.1 Z.2.2.2.2.1 hin ty0 hty hnm Z.2.2.2.1 Z.2.2.2.2.2.1 hP hD hS q0 he hc k hk (Z.2.2.2.2.1 _ hlink) (fun _ h9 => h9) hfin hd hn hfit hlf d (fun H1 locs1 hP1 hD1 hS1 => kk H1 locs1 ls (hw ▸ hP1) (hw ▸ hD1) hS1 hl)
theorem z_putF (Z : zC p s m args meth c cc nL own Ts D cl tys w0) (hinit : meth.name = "<init>") {C : String} {T : u_T} {N ci index : Nat} (hin : ∀ w ∈ u_ws C T N, w ∈ Ts) (ty0 : Nat → FieldType) (hty : ∀ k, k < N → parseFieldDescriptor (T k).2.2.1 = some (ty0 k)) (hnm : ∀ a, a < N → ∀ b, b < N → a ≠ b → (T a).2.1 ≠ (T b).2.1) (q0 : Nat) {a : Nat} {fs : List Value} (he : ws[q0]? = some (a, .inr (ci, fs))) (hc : cl[ci]? = some (C, T, N)) (k : Nat) (hk : k < N) (hlink : Cond.fieldLink own index (T k).1 (T k).2.1 (T k).2.2.1 ∈ Ts) (hfin : (T k).2.2.2 = true) (hdecl : (T k).1 = own) {ty : FieldType} {v : Value} (hd : parseFieldDescriptor (T k).2.2.1 = some ty) (hn : narrow ty v = v) (hfit : fits ty v = true) (hlf : k < fs.length) (d : decode cc pc = .ok (.putfield index, 3)) (hw : ws.set q0 (a, .inr (ci, fs.set k v)) = ws') (kk : zAt p l e R s m args below meth c D cl w0 nL cells slots Q ws' (pc + 3) lv st) : zAt p l e R s m args below meth c D cl w0 nL cells slots Q ws pc lv (v :: .ref a :: st) := fun H locs ls hP hD hS hl => va_putF Z.1 Z.2.1 Z.2.2.2.2.1 hin ty0 hty hnm Z.2.2.2.1 Z.2.2.2.2.2.1 hP hD hS q0 he hc k hk (Z.2.2.2.2.1 _ hlink) (fun _ h9 => h9) hfin hinit hdecl hd hn hfit hlf d (fun H1 locs1 hP1 hD1 hS1 => kk H1 locs1 ls (hw ▸ hP1) (hw ▸ hD1) hS1 hl)
theorem z_iald (Z : zC p s m args meth c cc nL own Ts D cl tys w0) (q0 t0 : Nat) {a : Nat} {cA : ClassId} {n : Nat} {f : Nat → Int32} {j : Nat} (ha : ws[q0]? = some (a, .inl (cA, n, .inl f))) (ht : tys[t0]? = some (cA, .int)) (hj : j < n) (hn : n < 2 ^ 31) (d : decode cc pc = .ok (.iaload, 1)) (k : zAt p l e R s m args below meth c D cl w0 nL cells slots Q ws (pc + 1) lv (.int (f j) :: st)) : zAt p l e R s m args below meth c D cl w0 nL cells slots Q ws pc lv (.int (nI j) :: .ref a :: st) := fun H locs ls hP hD hS hl => va_iald Z.1 Z.2.1 Z.2.2.2.2.2.1 hP q0 t0 ha ht (vp_in_nI hj hn) d (by rw [nI_clamp (Nat.lt_trans hj hn)]; exact k H locs ls hP hD hS hl)
theorem z_zald (Z : zC p s m args meth c cc nL own Ts D cl tys w0) (q0 t0 : Nat) {a : Nat} {cA : ClassId} {n : Nat} {f : Nat → Int32} {j : Nat} (ha : ws[q0]? = some (a, .inl (cA, n, .inl f))) (ht : tys[t0]? = some (cA, .boolean)) (hj : j < n) (hn : n < 2 ^ 31) (d : decode cc pc = .ok (.baload, 1)) (k : zAt p l e R s m args below meth c D cl w0 nL cells slots Q ws (pc + 1) lv (.int (f j) :: st)) : zAt p l e R s m args below meth c D cl w0 nL cells slots Q ws pc lv (.int (nI j) :: .ref a :: st) := fun H locs ls hP hD hS hl => va_zald Z.1 Z.2.1 Z.2.2.2.2.2.1 hP q0 t0 ha ht (vp_in_nI hj hn) d (by rw [nI_clamp (Nat.lt_trans hj hn)]; exact k H locs ls hP hD hS hl)
theorem z_lald (Z : zC p s m args meth c cc nL own Ts D cl tys w0) (q0 t0 : Nat) {a : Nat} {cA : ClassId} {n : Nat} {f : Nat → Int64} {j : Nat} (ha : ws[q0]? = some (a, .inl (cA, n, .inr (.inl f)))) (ht : tys[t0]? = some (cA, .long)) (hj : j < n) (hn : n < 2 ^ 31) (d : decode cc pc = .ok (.laload, 1)) (k : zAt p l e R s m args below meth c D cl w0 nL cells slots Q ws (pc + 1) lv (.long (f j) :: st)) : zAt p l e R s m args below meth c D cl w0 nL cells slots Q ws pc lv (.int (nI j) :: .ref a :: st) := fun H locs ls hP hD hS hl => va_lald Z.1 Z.2.1 Z.2.2.2.2.2.1 hP q0 t0 ha ht (vp_in_nI hj hn) d (by rw [nI_clamp (Nat.lt_trans hj hn)]; exact k H locs ls hP hD hS hl)
theorem z_iast (Z : zC p s m args meth c cc nL own Ts D cl tys w0) (q0 t0 : Nat) {a : Nat} {cA : ClassId} {n : Nat} {f : Nat → Int32} {j : Nat} {x : Int32} (ha : ws[q0]? = some (a, .inl (cA, n, .inl f))) (ht : tys[t0]? = some (cA, .int)) (hj : j < n) (hn : n < 2 ^ 31) (d : decode cc pc = .ok (.iastore, 1)) (hw : ws.set q0 (a, .inl (cA, n, .inl (upd f j x))) = ws') (k : zAt p l e R s m args below meth c D cl w0 nL cells slots Q ws' (pc + 1) lv st) : zAt p l e R s m args below meth c D cl w0 nL cells slots Q ws pc lv (.int x :: .int (nI j) :: .ref a :: st) := fun H locs ls hP hD hS hl => va_iast Z.1 Z.2.1 Z.2.2.2.2.2.1 hP hD hS q0 t0 ha ht (vp_in_nI hj hn) d (fun H1 locs1 hP1 hD1 hS1 => by
  rw [nI_clamp (Nat.lt_trans hj hn)] at hP1 hD1
  exact k H1 locs1 ls (hw ▸ hP1) (hw ▸ hD1) hS1 hl)
theorem z_zast (Z : zC p s m args meth c cc nL own Ts D cl tys w0) (q0 t0 : Nat) {a : Nat} {cA : ClassId} {n : Nat} {f : Nat → Int32} {j : Nat} {x : Int32} (ha : ws[q0]? = some (a, .inl (cA, n, .inl f))) (ht : tys[t0]? = some (cA, .boolean)) (hj : j < n) (hn : n < 2 ^ 31) (d : decode cc pc = .ok (.bastore, 1)) (hw : ws.set q0 (a, .inl (cA, n, .inl (upd f j (vp_nar .boolean x)))) = ws') (k : zAt p l e R s m args below meth c D cl w0 nL cells slots Q ws' (pc + 1) lv st) : zAt p l e R s m args below meth c D cl w0 nL cells slots Q ws pc lv (.int x :: .int (nI j) :: .ref a :: st) := fun H locs ls hP hD hS hl => va_zast Z.1 Z.2.1 Z.2.2.2.2.2.1 hP hD hS q0 t0 ha ht (vp_in_nI hj hn) d (fun H1 locs1 hP1 hD1 hS1 => by
  rw [nI_clamp (Nat.lt_trans hj hn)] at hP1 hD1
  exact k H1 locs1 ls (hw ▸ hP1) (hw ▸ hD1) hS1 hl)
theorem z_last (Z : zC p s m args meth c cc nL own Ts D cl tys w0) (q0 t0 : Nat) {a : Nat} {cA : ClassId} {n : Nat} {f : Nat → Int64} {j : Nat} {x : Int64} (ha : ws[q0]? = some (a, .inl (cA, n, .inr (.inl f)))) (ht : tys[t0]? = some (cA, .long)) (hj : j < n) (hn : n < 2 ^ 31) (d : decode cc pc = .ok (.lastore, 1)) (hw : ws.set q0 (a, .inl (cA, n, .inr (.inl (vp_updL f j x)))) = ws') (k : zAt p l e R s m args below meth c D cl w0 nL cells slots Q ws' (pc + 1) lv st) : zAt p l e R s m args below meth c D cl w0 nL cells slots Q ws pc lv (.long x :: .int (nI j) :: .ref a :: st) := fun H locs ls hP hD hS hl => va_last Z.1 Z.2.1 Z.2.2.2.2.2.1 hP hD hS q0 t0 ha ht (vp_in_nI hj hn) d (fun H1 locs1 hP1 hD1 hS1 => by
  rw [nI_clamp (Nat.lt_trans hj hn)] at hP1 hD1
  exact k H1 locs1 ls (hw ▸ hP1) (hw ▸ hD1) hS1 hl)
end ZR
end
section
/-! ends, calls, throws over zAt -/
section ZD
variable {D : va_G} {cl : List vw_C} {A : Nat → Prop} {a b : va_W} {H : Heap}
theorem zD_l (h : va_D A (a ++ b)) : va_D A a := h.by (fun k => k) (fun k q hk => by
    rw [List.getElem?_append_left (List.getElem?_eq_some_iff.mp hk).1]; exact hk) (fun _ _ _ _ h => h)
theorem zD_r (h : va_D A (a ++ b)) : va_D A b := h.by (fun k => a.length + k) (fun k q hk => by
    rw [List.getElem?_append_right (Nat.le_add_right _ _), Nat.add_sub_cancel_left]; exact hk) (fun _ _ _ _ h => Nat.add_left_cancel h)
theorem zD_x (h : va_D A (a ++ b)) (i j : Nat) (p q : Nat × va_E) (hi : a[i]? = some p) (hj : b[j]? = some q) : p.1 ≠ q.1 := fun e => by
  have hl := (List.getElem?_eq_some_iff.mp hi).1
  have h1 := h.1 i (a.length + j) p q (by rw [List.getElem?_append_left hl]; exact hi) (by rw [List.getElem?_append_right (Nat.le_add_right _ _), Nat.add_sub_cancel_left]; exact hj) e
  omega
theorem zP_l (h : va_P D cl (a ++ b) H) : va_P D cl a H := h.by (fun k => k) (fun k q hk => by
    rw [List.getElem?_append_left (List.getElem?_eq_some_iff.mp hk).1]; exact hk)
theorem zP_r (h : va_P D cl (a ++ b) H) : va_P D cl b H := h.by (fun k => a.length + k) (fun k q hk => by
    rw [List.getElem?_append_right (Nat.le_add_right _ _), Nat.add_sub_cancel_left]; exact hk)
/-- a callee's cells wc between cells that it doesn't reach -/
theorem z_join {pre wc suf w1 : va_W} {H1 : Heap} (hP : va_P D cl ((pre ++ wc) ++ suf) H) (hD : va_D A ((pre ++ wc) ++ suf)) (hk : ∀ q : Nat, q < H.size → ¬ va_A wc H.size q → H1[q]? = H[q]?) (hF : ∀ q, va_A wc H.size q → A q) (hP1 : va_P D cl w1 H1) (hD1 : va_D (va_A wc H.size) w1) :
    va_P D cl ((pre ++ w1) ++ suf) H1 ∧ va_D A ((pre ++ w1) ++ suf) := by
  have hPp := zP_l (zP_l hP)
  have hPs := zP_r hP
  have hDp := zD_l (zD_l hD)
  have hDs := zD_r hD
  have xpc := zD_x (zD_l hD)
  have xs := zD_x hD
  have np : ∀ (i : Nat) (q : Nat × va_E), pre[i]? = some q → ¬ va_A wc H.size q.1 := fun i q hi hA => by
    rcases hA with ⟨k, e, hke⟩ | hle
    · exact xpc i k q _ hi hke rfl
    · exact absurd (hPp i q hi).lt (Nat.not_lt.mpr hle)
  have ns : ∀ (i : Nat) (q : Nat × va_E), suf[i]? = some q → ¬ va_A wc H.size q.1 := fun i q hi hA => by
    rcases hA with ⟨k, e, hke⟩ | hle
    · exact xs (pre.length + k) i (q.1, e) q (by rw [List.getElem?_append_right (Nat.le_add_right _ _), Nat.add_sub_cancel_left]; exact hke) hi rfl
    · exact absurd (hPs i q hi).lt (Nat.not_lt.mpr hle)
  have hD1' : va_D A w1 := hD1.weaken (fun _ _ _ h => hF _ h)
  refine ⟨va_P.app (va_P.app (fun k q hkq => (hPp k q hkq).kept (hk _ (hPp k q hkq).lt (np k q hkq))) hP1) (fun k q hkq => (hPs k q hkq).kept (hk _ (hPs k q hkq).lt (ns k q hkq))), ?_⟩
  refine va_D.app (va_D.app hDp hD1' (fun i j p q hi hj e => np i p hi (e ▸ hD1.2 j q hj))) hDs (fun i j p q hi hj e => ?_)
  rcases Nat.lt_or_ge i pre.length with hl | hg
  · rw [List.getElem?_append_left hl] at hi
    exact xs i j p q (by rw [List.getElem?_append_left hl]; exact hi) hj e
  · rw [List.getElem?_append_right hg] at hi
    exact ns j q hj (e ▸ hD1.2 _ p hi)
theorem z_notStatics {w0 : va_W} (hP : va_P D cl w0 H) {q : Nat} {e : va_E} {k : Nat} (hk : w0[k]? = some (q, e)) {cell : Cell} (hc : H[q]? = some cell) : cell.vm.isStatics = false := by
  have h := hP k _ hk
  cases e with
  | inl x =>
    have h1 : H[q]? = some (vp_cell x.1 x.2) := h
    cases Option.some.inj (h1.symm.trans hc)
    obtain ⟨cA, n, f⟩ := x
    rcases f with f | f | f | f | f <;> rfl
  | inr x =>
    obtain ⟨r, -, cell', g1, -, g3, -⟩ := h
    cases Option.some.inj (g1.symm.trans hc)
    rw [g3]; rfl
end ZD
section ZE
variable {p : Program} {l : Launch} {e : Env} {R : Room} {s : State} {m : MethodId} {args : Array Value} {below : List Frame} {meth : Method} {c : Code} {cells slots nL : Nat} {Q : State → Prop} {D : va_G} {cl : List vw_C} {tys : List (ClassId × FieldType)} {w0 : va_W} {cc : ByteArray} {own : String} {Ts : List Cond} {ws ws' : va_W} {pc : Nat} {lv lv' : List (Nat × Value)} {st : List Value}
theorem zT1_to {n d : String} {U : State} (h : zT1 n d s) (hP0 : va_P D cl w0 s.heap) (hW : s.WarmedH U.vm) (hk : ∀ q : Nat, q < s.heap.size → ¬ va_A w0 s.heap.size q → U.heap[q]? = s.heap[q]?) : zT1 n d U := by
  obtain ⟨h1, h2, h3⟩ := h
  have keep : ∀ (a : Nat) (cell : Cell), s.heap[a]? = some cell → cell.vm.isStatics = true → U.heap[a]? = some cell := fun a cell ha hs => by
    rw [hk a (Array.getElem?_eq_some_iff.mp ha).1 ?_]
    · exact ha
    · rintro (⟨j, e9, hj⟩ | hle)
      · have := z_notStatics hP0 hj ha
        rw [this] at hs; cases hs
      · exact absurd (Array.getElem?_eq_some_iff.mp ha).1 (Nat.not_lt.mpr hle)
  refine ⟨?_, word_at hW (Or.inl (by first | rfl | simp [Cond.onTables, Cond.keeps, Cond.steady])) h2, ?_⟩
  · obtain ⟨c9, k, i, f, a, cell, g1, g2, g3, g4, g5, g6, g7, g8, g9⟩ := Cond.laysStatic_spec h1
    obtain ⟨k', hi', he⟩ := State.fieldFound?_setVm hW.alike g2
    show (Cond.laysStatic Jvm.Bundle.tN n d).holds #[] U none U [] = true
    exact Cond.laysStatic_of (by rw [hW.alike.findClass]; exact g1) hi' g3 (by rw [he]; exact g4) (keep a cell g5 g6) g6 g7 g8 (by rw [he]; exact g9)
  · have hz := va_Zqof (A := fun _ => False) h1 h2 h3 (fun _ _ h => h)
    have go : ∀ v : Value, v.isRef = true → va_Z Jvm.Bundle.tN n d v (fun _ => False) s s.heap → (Cond.isRef (.static Jvm.Bundle.tN n d)).before #[] U = true := fun v hv hz => by
      obtain ⟨cf, kf, fi, f, a, cell, g1, g2, g3, g4, g5, g6, g7, -⟩ := hz
      obtain ⟨k', hi', he⟩ := State.fieldFound?_setVm hW.alike g1
      have hi2 : U.fieldFound? Jvm.Bundle.tN n d = some (cf, k', fi, f) := hi'
      have g4' : k'.statics = some a := by rw [he]; exact g4
      have g5' := keep a cell g5 g6
      have hev : (Term.static Jvm.Bundle.tN n d).eval #[] U none [] U = some v := by
        simp [Term.eval, State.fieldNamed?, hi2, g2, g4', g5', g6, g7]
      simp only [Cond.before, Cond.holds, Cond.value, hev]
      clear hev
      cases v <;> first | rfl | (exact absurd hv (by simp [Value.isRef]))
    rcases hz with hz | ⟨t, hz⟩
    · exact go _ rfl hz
    · exact go _ rfl hz
theorem zT_to {U : State} (h : zT s) (hP0 : va_P D cl w0 s.heap) (hW : s.WarmedH U.vm) (hk : ∀ q : Nat, q < s.heap.size → ¬ va_A w0 s.heap.size q → U.heap[q]? = s.heap[q]?) : zT U :=
  ⟨zT1_to h.1 hP0 hW hk, zT1_to h.2.1 hP0 hW hk, fun q hq => by
    obtain ⟨a, ha⟩ := h.2.2.1 q hq
    exact ⟨a, vk_R.warm hW ha⟩, fun x hx => va_Nw.warmD hW (h.2.2.2.1 x hx), fun q hq => va_Nw.warmC hW (h.2.2.2.2.1 q hq), fun q hq => by
    obtain ⟨a, b, h1, h2, h3⟩ := h.2.2.2.2.2 q hq
    exact ⟨a, b, by rw [hW.alike.findClass]; exact h1, by rw [hW.alike.findClass]; exact h2, by rw [hW.alike.assignable]; exact h3⟩⟩
/-- a word that the lists of zT hold -/
def zWk (w : Cond) : Bool := match w with
  | .declares x => decide (x ∈ zDecl)
  | .castable a b => decide ((a, b) ∈ zCast)
  | _ => false
theorem zWk_at {w : Cond} (hz : zT s) (h : zWk w = true) : w.before args s = true := by
  cases w <;> first | (exact va_Nw.use rfl (hz.2.2.2.1 _ (of_decide_eq_true h))) | (exact va_Nw.use rfl (hz.2.2.2.2.1 _ (of_decide_eq_true h))) | (exact absurd h (by simp [zWk]))
theorem z_iret (Z : zC p s m args meth c cc nL own Ts D cl tys w0) {ty : FieldType} {v : Int32} {post : zRes → va_W → Prop} {mr sr mc ms : Nat} (hr : meth.sig.returnType = some ty) (hn : narrow ty (.int v) = .int v) (d : decode cc pc = .ok (.ireturn, 1)) (hc : cells ≤ mr) (hs : slots ≤ sr) (hq : post (.inl (some (.int v))) ws) :
    zAt p l e R s m args below meth c D cl w0 nL cells slots (zEnd below D cl w0 post s mr sr mc ms) ws pc lv [.int v] := by
  intro H locs ls hP hD hS hl
  refine z_mono (W.zret (Qc := fun _ _ o t => t.heap = H ∧ o = .returned (some (.int v))) (free := va_A w0 s.heap.size) Z.1 Z.2.1 hr hn (fun t ht _ => ⟨ht, rfl⟩) hS.2.2 d Z.2.2.2.2.2.2.2.1) ?_
  rintro t ⟨o, h1, h2, ⟨ht, ho⟩, L, hF, hL⟩
  exact ⟨o, h1, h2, ⟨hS.F ht, .inl (some (.int v)), ws, hq, by rw [ht]; exact hP, hD, ho⟩, hF.2.1, L, by subst ho; exact hF.2.2.mono hc hs, hL⟩
theorem z_vret (Z : zC p s m args meth c cc nL own Ts D cl tys w0) {post : zRes → va_W → Prop} {mr sr mc ms : Nat} (hr : meth.sig.returnType = none) (d : decode cc pc = .ok (.return_, 1)) (hc : cells ≤ mr) (hs : slots ≤ sr) (hq : post (.inl none) ws) :
    zAt p l e R s m args below meth c D cl w0 nL cells slots (zEnd below D cl w0 post s mr sr mc ms) ws pc lv [] := by
  intro H locs ls hP hD hS hl
  refine z_mono (W.vret (Qc := fun _ _ o t => t.heap = H ∧ o = .returned none) (free := va_A w0 s.heap.size) Z.1 Z.2.1 hr (fun t ht _ => ⟨ht, rfl⟩) hS.2.2 d Z.2.2.2.2.2.2.2.1) ?_
  rintro t ⟨o, h1, h2, ⟨ht, ho⟩, L, hF, hL⟩
  exact ⟨o, h1, h2, ⟨hS.F ht, .inl none, ws, hq, by rw [ht]; exact hP, hD, ho⟩, hF.2.1, L, by subst ho; exact hF.2.2.mono hc hs, hL⟩
/-- no handler here: the exception goes to the caller -/
theorem z_out (Z : zC p s m args meth c cc nL own Ts D cl tys w0) {E : String} {post : zRes → va_W → Prop} {mr sr mc ms : Nat} (ht : ∀ x ∈ c.exceptionTable.toList, covers x pc = false) (hc : cells ≤ mc) (hs : slots ≤ ms) (hq : post (.inr E) ws) :
    zX p l e R s m args below meth c D cl w0 nL cells slots (zEnd below D cl w0 post s mr sr mc ms) ws pc lv E := by
  intro H locs ls st q ce hP hD hS hl hce hcv hcl T hT X
  obtain ⟨st1, hrun, hend, hW, hsm⟩ := X.leaveThrown q (g := F0 m pc ls st) rfl rfl rfl ht Z.2.2.2.2.2.2.2.1
  have hh : (T.setFrames (.throwing q :: below)).heap = H := hT
  exact ⟨_, st1, .threw q, hrun, hend, ⟨hS.F hh, .inr E, ws, hq, by rw [hh]; exact hP, hD, q, ce, rfl, by rw [hh]; exact hce, hcv, hcl⟩, hW, locs, hsm.mono hc hs, hS.2.2⟩
/-- caught by a row of this method's table -/
theorem z_catch (Z : zC p s m args meth c cc nL own Ts D cl tys w0) {E name : String} (pre : List ExceptionTableEntry) (x : ExceptionTableEntry) (suf : List ExceptionTableEntry) (hsplit : c.exceptionTable.toList = pre ++ x :: suf)
    (hpass : ∀ z ∈ pre, covers z pc = false ∨ (z.catchType ≠ 0 ∧ ∃ nm : String, (Cond.classLink own z.catchType nm).before args s = true ∧ va_Nc E nm s)) (hx : covers x pc = true) (h0 : x.catchType ≠ 0)
    (hlink : (Cond.classLink own x.catchType name).before args s = true) (hcast : (Cond.castable E name).before args s = true) (kk : ∀ q : Nat, zAt p l e R s m args below meth c D cl w0 nL cells slots Q ws x.handlerPc lv [.ref q]) :
    zX p l e R s m args below meth c D cl w0 nL cells slots Q ws pc lv E := by
  intro H locs ls st q ce hP hD hS hl hce hcv hcl T hT X
  have hpl : e.platform.magicAccessors = ({} : Platform).magicAccessors := by rw [X.admits.platform]
  obtain ⟨c3, c4, hc3, hc4, hasg⟩ := Cond.castable_spec hcast
  cases Option.some.inj (hc3.symm.trans hcl)
  obtain ⟨c5, hc5, hcl5⟩ := Cond.classLink_spec Z.2.2.2.1 hlink e.platform hpl
  cases Option.some.inj (hc4.symm.trans hc5)
  have hkn : ∃ k, s.vm.classes[ce.cls]? = some k := by
    obtain ⟨k9, h9, -⟩ := Vm.findClass_spec hcl
    exact ⟨k9, h9⟩
  have hps : ∀ y ∈ pre, RowPassed e.platform s m.cls (F0 m pc ls st).pc ce.cls y := fun y hy => by
    rcases hpass y hy with h | ⟨hz0, nm, hl1, a8, b8, n1, n2, n3⟩
    · exact Or.inl h
    · obtain ⟨c6, hc6, hcl6⟩ := Cond.classLink_spec Z.2.2.2.1 hl1 e.platform hpl
      cases Option.some.inj (n1.symm.trans hcl)
      cases Option.some.inj (n2.symm.trans hc6)
      exact Or.inr ⟨hz0, _, hcl6, n3⟩
  obtain ⟨vm', X', st1⟩ := X.thenCaughtThrough q (g := F0 m pc ls st) rfl (Steps.refl _) (by rw [hT]; exact hce) (by rw [hcv]; rfl) hkn pre x suf hsplit hps hx (Or.inr ⟨h0, _, hcl5, hasg⟩)
  obtain ⟨t, a1, b1⟩ := kk q H locs ls hP hD hS hl (T.setVm vm') hT X'
  exact ⟨t, st1.trans a1, b1⟩
/-- what a call by a contract gives, seen from the caller's frame -/
theorem z_back {y : MethodName} {wsY : List Cond} {rm : Room} {tysY : List (ClassId × FieldType)} {wc : va_W} {av : List Value} {postY : zRes → va_W → Prop} {mr sr mc ms maxL : Nat}
    (hM : zMet l y wsY rm D cl tysY wc av postY mr sr mc ms) (hrc : rm.cells = mc) (hrs : rm.slots = ms) (hfr : rm.frames + 1 ≤ R.frames) (hlo : 8 + (maxL + 11) + rm.locals ≤ R.locals)
    (hws : ∀ w ∈ wsY, ∀ (a' : Array Value) (U : State), s.WarmedH U.vm → w.before a' U = true) (hini : ∀ (a' : Array Value) (U : State), s.WarmedH U.vm → (Cond.initialized y.cls).before a' U = true)
    (hcode : ∀ (U : State) (mk : MethodId), s.WarmedH U.vm → U.methodNamed? y = some mk → ∃ methY cY, U.vm.method? mk = some methY ∧ methY.code = some cY ∧ cY.maxLocals = maxL)
    {U : State} {locs : List Loc} {g : JFrame} {ig : Instr} {len : Nat} {mk : MethodId} (X : Stand p l e R s m args below meth c U locs cells slots) (hg : g.method = m) (hsize : g.locals.size = c.maxLocals) (hdg : decode c.code g.pc = .ok (ig, len)) (hW : 2 * g.monitorRoom + (g.stack.map fun v => v.category).sum ≤ 8) (hn : U.methodNamed? y = some mk) (hcl : cells + mc ≤ R.cells ∧ slots + ms ≤ R.slots) (hpre : zPre D cl tysY wc av av.toArray (U.calling g mk av.toArray)) :
    ∃ (o : Outcome) (t T' : State) (L : List Loc), T'.heap = t.heap ∧ T'.vm = t.vm ∧ Stand p l e R s m args below meth c T' (locs ++ L) (cells + zK o mr mc) (slots + zK o sr ms) ∧ (∀ q ∈ L, va_A wc U.heap.size q.base) ∧ zO D cl (va_A wc U.heap.size) postY (U.calling g mk av.toArray) o t ∧
      (∀ v, o = .returned v → Steps p.tables e below (doInvoke e (U.setTop g) [] mk av.toArray).1 (T'.setTop { g with pc := g.pc + len, stack := v.toList ++ g.stack })) ∧
      (∀ q, o = .threw q → Steps p.tables e below (doInvoke e (U.setTop g) [] mk av.toArray).1 ((T'.setTop g).pushFrame (.throwing q))) := by
  have hWU := X.warmed
  have h1 : (headSpec wsY rm).pre.before av.toArray U = true := atoms_intro fun w hw => hws w hw _ _ hWU
  obtain ⟨methY, cY, hmY, hcY, hlY⟩ := hcode U mk hWU hn
  obtain ⟨kY, hkY, -⟩ := className_of_methodNamed hn
  have hinitY : kY.init = .initialized := Cond.initialized_spec (findClass_of_methodNamed hn) hkY (hini av.toArray U hWU)
  have h : At U g.method c below := by rw [hg]; exact X.here
  have hlo' : 8 + (maxL + 11) + (headSpec wsY rm).room.locals ≤ R.locals := hlo
  have happ : (headSpec wsY rm).appliesLoose y e.platform (U.calling g mk av.toArray) = true :=
    Spec.appliesLoose_calling (g := g) h hdg hn hkY hinitY
      (X.room_calling (g := g) (R' := (headSpec wsY rm).room) hsize hmY hcY hfr (by rw [hlY]; omega) (by rw [show (headSpec wsY rm).room.cells = mc from hrc]; exact hcl.1) (by rw [show (headSpec wsY rm).room.slots = ms from hrs]; exact hcl.2)) h1
  obtain ⟨mid, hmid⟩ := h.above
  have hfr' : (U.setTop g).frames = (.java g :: mid) ++ below := by rw [State.frames_setTop' g h.top, hmid]; rfl
  obtain ⟨o, s₂, hsteps, -, hend, hq⟩ := Jvm.Free.Steps.callFree hM p X.admits X.cas X.clock (acts := []) hfr' happ hpre trivial
  have hq' : zO D cl (va_A wc U.heap.size) postY (U.calling g mk av.toArray) o s₂ ∧ zF (va_A wc U.heap.size) (U.calling g mk av.toArray) mr sr mc ms o s₂ := hq
  obtain ⟨hO, hW₂, L, hsm, hL⟩ := hq'
  rw [State.frames_setTop' g h.top] at hend
  obtain ⟨e2, q2, q3, q4, q5, q6⟩ := id hsm
  have e3 : s₂ = ({ (U.calling g mk av.toArray).setFrames s₂.frames with heap := s₂.heap, slotsUsed := s₂.slotsUsed } : State).setVm s₂.vm := by
    have : s₂ = ({ s₂ with vm := (U.calling g mk av.toArray).vm } : State).setVm s₂.vm := rfl
    rw [e2] at this
    exact this
  obtain ⟨g₀, hg0⟩ := Option.isSome_iff_exists.mp h.top
  obtain ⟨r, hr⟩ := State.topJava?_eq_some.mp hg0
  have hr' : (({ U with heap := s₂.heap, slotsUsed := s₂.slotsUsed } : State).setVm s₂.vm).frames = .java g₀ :: r := hr
  have hW' : U.WarmedH s₂.vm := hW₂
  have hsame : U.sameButNew ({ U with heap := s₂.heap, slotsUsed := s₂.slotsUsed } : State) L (zK o mr mc) (zK o sr ms) := by
    refine ⟨?_, q2, q3, q4, q5, q6⟩
    obtain ⟨t, ht, -⟩ := State.frames_cons hr
    show ({ U with heap := s₂.heap, slotsUsed := s₂.slotsUsed } : State) = { U.setFrames U.frames with heap := s₂.heap, slotsUsed := s₂.slotsUsed }
    rw [State.setFrames_self ht]
  have XT : Stand p l e R s m args below meth c (({ U with heap := s₂.heap, slotsUsed := s₂.slotsUsed } : State).setVm s₂.vm) (locs ++ L) (cells + zK o mr mc) (slots + zK o sr ms) :=
    ⟨X.admits, X.cas, X.clock, X.frames, X.room, X.hears, X.method, X.code, (X.here.setHeapUsed s₂.heap s₂.slotsUsed).setVm hW'.alike, X.tail, State.WarmedH.trans X.warmed hW', X.limits, X.bytes, X.same.trans (hsame.setVm s.vm)⟩
  refine ⟨o, s₂, (({ U with heap := s₂.heap, slotsUsed := s₂.slotsUsed } : State).setVm s₂.vm), L, rfl, rfl, XT, hL, hO, fun v hv => ?_, fun q hv => ?_⟩
  · subst hv
    obtain ⟨c₂, i₂, len₂, hc₂, hd₂, hf₂⟩ := hend
    have hcc : c₂ = c := by
      have h9 : s₂.code? g.method = U.code? g.method := by
        rw [State.code?_eq, State.code?_eq, hW'.alike.method?]
      exact Option.some.inj (hc₂.symm.trans (h9.trans h.code))
    subst hcc
    have hlen : len₂ = len := by rw [hdg] at hd₂; cases hd₂; rfl
    subst hlen
    have hs₂ : s₂ = (({ U with heap := s₂.heap, slotsUsed := s₂.slotsUsed } : State).setVm s₂.vm).setTop { g with pc := g.pc + len₂, stack := v.toList ++ g.stack } := by
      refine e3.trans ?_
      rw [hf₂, State.calling_eq h.top, State.setFrames_setFrames, State.setTop_of_frames _ hr', hr]
      rfl
    rw [← hs₂]
    exact hsteps
  · subst hv
    have hf₂ : s₂.frames = .throwing q :: .java g :: U.frames.tail := hend
    have hs₂ : s₂ = ((({ U with heap := s₂.heap, slotsUsed := s₂.slotsUsed } : State).setVm s₂.vm).setTop g).pushFrame (.throwing q) := by
      refine e3.trans ?_
      rw [hf₂, State.calling_eq h.top, State.setFrames_setFrames, State.pushFrame, State.frames_setTop _ hr', State.setTop_of_frames _ hr', State.setFrames_setFrames, hr]
      rfl
    rw [← hs₂]
    exact hsteps
/-- how the caller goes on behind a call -/
theorem z_fin {tysY : List (ClassId × FieldType)} {pre wc suf : va_W} {postY : zRes → va_W → Prop} {mr sr mc ms : Nat} {H : Heap} {locs : List Loc} {ls : Array Slot} {U st₀ t T' : State} {L : List Loc} {o : Outcome} {S0 : State} {rest : List Value}
    (hP : va_P D cl ((pre ++ wc) ++ suf) H) (hD : va_D (va_A w0 s.heap.size) ((pre ++ wc) ++ suf)) (hS : va_S (va_A w0 s.heap.size) s.heap H locs) (hl : lv_has ls nL lv)
    (hU : U.heap = H) (h0 : st₀.heap = H) (hvm : s.WarmedH st₀.vm) (e1 : T'.heap = t.heap) (X' : Stand p l e R s m args below meth c T' (locs ++ L) (cells + zK o mr mc) (slots + zK o sr ms)) (hL : ∀ q ∈ L, va_A wc U.heap.size q.base) (hO : zO D cl (va_A wc U.heap.size) postY st₀ o t)
    (hret : ∀ v, o = .returned v → Steps p.tables e below S0 (T'.setTop (F0 m (pc + 3) ls (v.toList ++ rest)))) (hthr : ∀ q, o = .threw q → Steps p.tables e below S0 ((T'.setTop (F0 m pc ls rest)).pushFrame (.throwing q)))
    (kk : ∀ (v : Option Value) (w : va_W), postY (.inl v) w → zAt p l e R s m args below meth c D cl w0 nL (cells + mr) (slots + sr) Q ((pre ++ w) ++ suf) (pc + 3) lv (v.toList ++ rest))
    (kx : ∀ (E : String) (w : va_W), postY (.inr E) w → zX p l e R s m args below meth c D cl w0 nL (cells + mc) (slots + ms) Q ((pre ++ w) ++ suf) pc lv E) : ∃ t, Steps p.tables e below S0 t ∧ Q t := by
  rw [hU] at hL hO
  obtain ⟨hF, r, w, hpost, hPw, hDw, hR⟩ := hO
  have hfree : ∀ q, va_A wc H.size q → va_A w0 s.heap.size q := fun q hq => by
    rcases hq with ⟨k, e9, hk⟩ | hle
    · exact hD.2 (pre.length + k) (q, e9) (by rw [List.append_assoc, List.getElem?_append_right (Nat.le_add_right _ _), Nat.add_sub_cancel_left, List.getElem?_append_left (List.getElem?_eq_some_iff.mp hk).1]; exact hk)
    · exact Or.inr (Nat.le_trans hS.1 hle)
  have hkeep : ∀ q : Nat, q < H.size → ¬ va_A wc H.size q → t.heap[q]? = H[q]? := fun q h1 h2 => by
    have := hF.2 q (by rw [h0]; exact h1) h2
    rw [h0] at this; exact this
  have hz : H.size ≤ t.heap.size := by have := hF.1; rw [h0] at this; exact this
  obtain ⟨hP2, hD2⟩ := z_join hP hD hkeep hfree hPw hDw
  have hS2 : va_S (va_A w0 s.heap.size) s.heap t.heap (locs ++ L) := ⟨Nat.le_trans hS.1 hz, fun q h1 h2 => by
      rw [hkeep q (Nat.lt_of_lt_of_le h1 hS.1) (fun z => h2 (hfree q z))]; exact hS.2.1 q h1 h2, fun q hq => by
      rcases List.mem_append.mp hq with h | h
      · exact hS.2.2 q h
      · exact hfree _ (hL q h)⟩
  cases r with
  | inl v =>
    have hR' : o = .returned v := hR
    subst hR'
    obtain ⟨t2, a1, b1⟩ := kk v w hpost t.heap (locs ++ L) ls hP2 hD2 hS2 hl T' e1 X'
    exact ⟨t2, (hret v rfl).trans a1, b1⟩
  | inr E =>
    obtain ⟨q, ce, ho, hce, hcv, hcl⟩ := hR
    have hcl' : s.vm.findClass E = some ce.cls := by rw [← hcl, hvm.alike.findClass]
    subst ho
    obtain ⟨t2, a1, b1⟩ := kx E w hpost t.heap (locs ++ L) ls rest q ce hP2 hD2 hS2 hl hce hcv hcl' T' e1 X'
    exact ⟨t2, (hthr q rfl).trans a1, b1⟩
theorem z_pre {pre wc suf : va_W} {av : List Value} {H : Heap} {locs : List Loc} {U : State} (Z : zC p s m args meth c cc nL own Ts D cl tys w0) (hP : va_P D cl ((pre ++ wc) ++ suf) H) (hD : va_D (va_A w0 s.heap.size) ((pre ++ wc) ++ suf)) (hS : va_S (va_A w0 s.heap.size) s.heap H locs) (hU : U.heap = H) (hW : s.WarmedH U.vm) : zPre D cl tys wc av av.toArray U :=
  ⟨rfl, by rw [hU]; exact zP_r (zP_l hP), va_K.moved hW.alike Z.2.2.2.2.2.1, (zD_r (zD_l hD)).weaken (fun _ _ _ _ => trivial), zT_to Z.2.2.2.2.2.2.2.2 Z.2.2.2.2.2.2.1 hW (fun q h1 h2 => by rw [hU]; exact hS.2.1 q h1 h2)⟩
/-- invokevirtual -/
theorem z_callV (Z : zC p s m args meth c cc nL own Ts D cl tys w0) {C : String} {y : MethodName} {bytes : ByteArray} {maxL mr sr mc ms n index ci q0 N : Nat} {ret : Option FieldType} {wsY wsY' : List Cond} {rm : Room} {pre wc suf : va_W} {b : Nat} {As rest : List Value} {postY : zRes → va_W → Prop} {fs : List Value} {T : u_T}
    (hM : zMet l y wsY rm D cl tys wc (.ref b :: As) postY mr sr mc ms) (hG : GoodIn Ts (wsV own index C y wsY)) (hw : wsY = Cond.code y bytes maxL ret :: wsY') (hrc : rm.cells = mc) (hrs : rm.slots = ms)
    (hd : y.cls = C ∧ y.cls ≠ "java/lang/invoke/MethodHandle" ∧ y.cls ≠ "java/lang/invoke/VarHandle" ∧ (parseMethodDescriptor y.desc).map (fun d => d.parameters.length) = some n) (hR : rm.frames + 1 ≤ R.frames ∧ 8 + (maxL + 11) + rm.locals ≤ R.locals)
    (hws : ws = (pre ++ wc) ++ suf) (he : wc[q0]? = some (b, .inr (ci, fs))) (hc : cl[ci]? = some (C, T, N)) (hn : As.length = n) (hst : st = As.reverse ++ .ref b :: rest) (hcat : (rest.map fun v => v.category).sum ≤ 8) (d : decode cc pc = .ok (.invokevirtual index, 3)) (hf : cells + mc ≤ R.cells ∧ slots + ms ≤ R.slots)
    (kx : ∀ (E : String) (w : va_W), postY (.inr E) w → zX p l e R s m args below meth c D cl w0 nL (cells + mc) (slots + ms) Q ((pre ++ w) ++ suf) pc lv E)
    (kk : ∀ (v : Option Value) (w : va_W), postY (.inl v) w → zAt p l e R s m args below meth c D cl w0 nL (cells + mr) (slots + sr) Q ((pre ++ w) ++ suf) (pc + 3) lv (v.toList ++ rest)) : zAt p l e R s m args below meth c D cl w0 nL cells slots Q ws pc lv st := by
  subst hws; subst hst
  intro H locs ls hP hD hS hl T0 hT X
  obtain ⟨⟨-, -, hfr, hlo, hwsY, -, hcode, hini, hy, hlen, hlink⟩, hinst, hsel⟩ := cwV (R := R) (bytes := bytes) (maxL := maxL) (ret := ret) n Z.2.2.2.2.1 hG hw hrc hrs hd hR
  obtain ⟨cellB, hcB, hoB, hclB⟩ := va_recv Z.2.2.2.2.2.1 (zP_r (zP_l hP)) hc he
  obtain ⟨mk, methM, hnamed, hmethM, hstM, habM⟩ := Cond.instanceMethod_spec hinst
  obtain ⟨methM', cM, hmethM', hcM, -, hlM, -, -, -, hsigM⟩ := Cond.code_spec hnamed hcode
  cases hmethM.symm.trans hmethM'
  obtain ⟨c2, r2, m2, q1, q2, q3, q4, kP, hkP, hkPi⟩ := Cond.selects_spec hsel
  cases hclB.symm.trans q1
  cases (State.methodFound?_of_named hnamed hy).symm.trans q2
  cases hnamed.symm.trans q3
  have hselP : selectMethod e.platform s.vm cellB.cls mk = .method mk := by rw [Launch.admits_selectMethod X.admits]; exact q4
  obtain ⟨vm₁, X₁, hstep₁⟩ := X.invokevirtual Z.1 Z.2.2.2.1 hlink hnamed hmethM hstM hkP hkPi hy (a := b) (cell := cellB) (by rw [hT]; exact hcB)
    (fun z h => by rw [h] at hoB; cases hoB) hselP hmethM habM hkP hkPi (g := F0 m pc ls (As.reverse ++ .ref b :: rest)) rfl (argsL := As) (rest := rest) (hn.trans (hlen _ hsigM)) rfl (by rw [Z.2.1]; exact d)
  have hsz : (F0 m pc ls rest).locals.size = c.maxLocals := hl.1.trans Z.2.2.1.symm
  have hWk : 2 * (F0 m pc ls rest).monitorRoom + (rest.map fun v => v.category).sum ≤ 8 := lv_room hcat
  obtain ⟨o, t, T', L, e1, e2, X', hL, hO, k1, k2⟩ := z_back (U := T0.setVm vm₁) (g := F0 m pc ls rest) (ig := .invokevirtual index) (len := 3) (mk := mk) hM hrc hrs hfr hlo hwsY
    (fun a' U hW => word_at hW (Or.inl (by first | rfl | simp [Cond.onTables, Cond.keeps, Cond.steady])) hini)
    (fun U mk' hW hn' => by
      obtain ⟨methY, cY, g1, g2, -, g4, -⟩ := Cond.code_spec hn' (hwsY (Cond.code y bytes maxL ret) (by rw [hw]; exact List.mem_cons_self) #[] U hW)
      exact ⟨methY, cY, g1, g2, g4⟩)
    X₁ rfl hsz (by rw [Z.2.1]; exact d) hWk (X₁.named hnamed) hf (z_pre Z hP hD hS (by exact hT) X₁.warmed)
  exact z_fin (tysY := tys) (U := T0.setVm vm₁) (st₀ := (T0.setVm vm₁).calling (F0 m pc ls rest) mk (Value.ref b :: As).toArray) hP hD hS hl hT hT X₁.warmed e1 X' hL hO
    (fun v hv => hstep₁ _ fun acts => by rw [doInvoke_state]; exact k1 v hv) (fun q hv => hstep₁ _ fun acts => by rw [doInvoke_state]; exact k2 q hv) kk kx
/-- invokestatic; its code with or without a table -/
theorem z_callS (Z : zC p s m args meth c cc nL own Ts D cl tys w0) {y : MethodName} {maxL mr sr mc ms n index : Nat} {wsY : List Cond} {rm : Room} {pre wc suf : va_W} {As rest : List Value} {postY : zRes → va_W → Prop}
    (hM : zMet l y wsY rm D cl tys wc As postY mr sr mc ms) (hG : GoodIn Ts wsY) (hcode : ∀ (a' : Array Value) (U : State), (∀ w ∈ wsY, w.before a' U = true) → ∃ mk methY cY, U.methodNamed? y = some mk ∧ U.vm.method? mk = some methY ∧ methY.code = some cY ∧ cY.maxLocals = maxL ∧ parseMethodDescriptor y.desc = some methY.sig)
    (hrc : rm.cells = mc) (hrs : rm.slots = ms) (hlink : Cond.methodLink own index y ∈ Ts) (hstat : Cond.static y ∈ Ts) (hini : Cond.initialized y.cls ∈ Ts)
    (hd : y.cls ≠ "java/lang/invoke/MethodHandle" ∧ y.cls ≠ "java/lang/invoke/VarHandle" ∧ (parseMethodDescriptor y.desc).map (fun d => d.parameters.length) = some n) (hR : rm.frames + 1 ≤ R.frames ∧ 8 + (maxL + 11) + rm.locals ≤ R.locals)
    (hws : ws = (pre ++ wc) ++ suf) (hn : As.length = n) (hst : st = As.reverse ++ rest) (hcat : (rest.map fun v => v.category).sum ≤ 8) (d : decode cc pc = .ok (.invokestatic index, 3)) (hf : cells + mc ≤ R.cells ∧ slots + ms ≤ R.slots)
    (kx : ∀ (E : String) (w : va_W), postY (.inr E) w → zX p l e R s m args below meth c D cl w0 nL (cells + mc) (slots + ms) Q ((pre ++ w) ++ suf) pc lv E)
    (kk : ∀ (v : Option Value) (w : va_W), postY (.inl v) w → zAt p l e R s m args below meth c D cl w0 nL (cells + mr) (slots + sr) Q ((pre ++ w) ++ suf) (pc + 3) lv (v.toList ++ rest)) : zAt p l e R s m args below meth c D cl w0 nL cells slots Q ws pc lv st := by
  subst hws; subst hst
  intro H locs ls hP hD hS hl T0 hT X
  have hwsY := pay_in Z.2.2.2.2.1 hG
  obtain ⟨mk, methM, cM, hnamed, hmethM, hcM, hlM, hsigM⟩ := hcode args s (fun w hw => hwsY w hw args s (State.WarmedH.refl s))
  have hstatic : methM.isStatic = true := Cond.static_spec hnamed hmethM (Z.2.2.2.2.1 _ hstat)
  obtain ⟨kP, hkP, -⟩ := className_of_methodNamed hnamed
  have hinitP : kP.init = .initialized := Cond.initialized_spec (findClass_of_methodNamed hnamed) hkP (Z.2.2.2.2.1 _ hini)
  have hlen : As.length = methM.sig.parameters.length := by
    have h2 := hd.2.2
    rw [hsigM] at h2
    exact hn.trans (Option.some.inj h2).symm
  obtain ⟨vm₁, X₁, hstep₁⟩ := X.invokestatic Z.1 Z.2.2.2.1 (Z.2.2.2.2.1 _ hlink) hnamed hmethM hstatic hkP hinitP ⟨hd.1, hd.2.1⟩ (g := F0 m pc ls (As.reverse ++ rest)) rfl (argsL := As) (rest := rest) hlen rfl (by rw [Z.2.1]; exact d)
  have hsz : (F0 m pc ls rest).locals.size = c.maxLocals := hl.1.trans Z.2.2.1.symm
  have hWk : 2 * (F0 m pc ls rest).monitorRoom + (rest.map fun v => v.category).sum ≤ 8 := lv_room hcat
  obtain ⟨o, t, T', L, e1, e2, X', hL, hO, k1, k2⟩ := z_back (U := T0.setVm vm₁) (g := F0 m pc ls rest) (ig := .invokestatic index) (len := 3) (mk := mk) (maxL := maxL) hM hrc hrs hR.1 hR.2 hwsY
    (fun a' U hW => word_at hW (Or.inl (by first | rfl | simp [Cond.onTables, Cond.keeps, Cond.steady])) (Z.2.2.2.2.1 _ hini))
    (fun U mk' hW hn' => by
      obtain ⟨mk2, methY, cY, g0, g1, g2, g4, -⟩ := hcode #[] U (fun w hw => hwsY w hw #[] U hW)
      cases Option.some.inj (g0.symm.trans hn')
      exact ⟨methY, cY, g1, g2, g4⟩)
    X₁ rfl hsz (by rw [Z.2.1]; exact d) hWk (X₁.named hnamed) hf (z_pre Z hP hD hS (by exact hT) X₁.warmed)
  exact z_fin (tysY := tys) (U := T0.setVm vm₁) (st₀ := (T0.setVm vm₁).calling (F0 m pc ls rest) mk As.toArray) hP hD hS hl hT hT X₁.warmed e1 X' hL hO
    (fun v hv => hstep₁ _ fun acts => by rw [doInvoke_state]; exact k1 v hv) (fun q hv => hstep₁ _ fun acts => by rw [doInvoke_state]; exact k2 q hv) kk kx
theorem z_code {y : MethodName} {bytes : ByteArray} {maxL : Nat} {ret : Option FieldType} {wsY wsY' : List Cond} (hw : wsY = Cond.code y bytes maxL ret :: wsY') (a' : Array Value) (U : State) (h : ∀ w ∈ wsY, w.before a' U = true) : ∃ mk methY cY, U.methodNamed? y = some mk ∧ U.vm.method? mk = some methY ∧ methY.code = some cY ∧ cY.maxLocals = maxL ∧ parseMethodDescriptor y.desc = some methY.sig := by
  have hc := h (Cond.code y bytes maxL ret) (by rw [hw]; exact List.mem_cons_self)
  obtain ⟨mk, hnamed⟩ := Cond.code_named hc
  obtain ⟨methY, cY, g1, g2, -, g4, -, -, -, g8⟩ := Cond.code_spec hnamed hc
  exact ⟨mk, methY, cY, hnamed, g1, g2, g4, g8⟩
theorem z_codeW {y : MethodName} {bytes : ByteArray} {maxL : Nat} {ret : Option FieldType} {hh : List (Nat × Nat × Nat × Nat)} {wsY wsY' : List Cond} (hw : wsY = Cond.codeWith y bytes maxL ret hh :: wsY') (a' : Array Value) (U : State) (h : ∀ w ∈ wsY, w.before a' U = true) : ∃ mk methY cY, U.methodNamed? y = some mk ∧ U.vm.method? mk = some methY ∧ methY.code = some cY ∧ cY.maxLocals = maxL ∧ parseMethodDescriptor y.desc = some methY.sig := by
  have hc := h (Cond.codeWith y bytes maxL ret hh) (by rw [hw]; exact List.mem_cons_self)
  obtain ⟨mk, methY, cY, hnamed, g1, g2, -, g4, -, -, -, g8⟩ := Cond.codeWith_spec hc
  exact ⟨mk, methY, cY, hnamed, g1, g2, g4, g8⟩
/-- invokespecial of a constructor of ours -/
theorem z_callI (Z : zC p s m args meth c cc nL own Ts D cl tys w0) {y : MethodName} {bytes : ByteArray} {maxL mr sr mc ms n index : Nat} {wsY wsY' : List Cond} {rm : Room} {pre wc suf : va_W} {b : Nat} {As rest : List Value} {postY : zRes → va_W → Prop}
    (hM : zMet l y wsY rm D cl tys wc (.ref b :: As) postY mr sr mc ms) (hG : GoodIn Ts wsY) (hw : wsY = Cond.code y bytes maxL none :: wsY')
    (hrc : rm.cells = mc) (hrs : rm.slots = ms) (hlink : Cond.methodLink own index y ∈ Ts) (hinst : Cond.instanceMethod y ∈ Ts) (hini : Cond.initialized y.cls ∈ Ts) (hy1 : y.name = "<init>")
    (hd : y.cls ≠ "java/lang/invoke/MethodHandle" ∧ y.cls ≠ "java/lang/invoke/VarHandle" ∧ (parseMethodDescriptor y.desc).map (fun d => d.parameters.length) = some n) (hR : rm.frames + 1 ≤ R.frames ∧ 8 + (maxL + 11) + rm.locals ≤ R.locals)
    (hws : ws = (pre ++ wc) ++ suf) (hn : As.length = n) (hst : st = As.reverse ++ .ref b :: rest) (hcat : (rest.map fun v => v.category).sum ≤ 8) (d : decode cc pc = .ok (.invokespecial index, 3)) (hf : cells + mc ≤ R.cells ∧ slots + ms ≤ R.slots)
    (kx : ∀ (E : String) (w : va_W), postY (.inr E) w → zX p l e R s m args below meth c D cl w0 nL (cells + mc) (slots + ms) Q ((pre ++ w) ++ suf) pc lv E)
    (kk : ∀ (v : Option Value) (w : va_W), postY (.inl v) w → zAt p l e R s m args below meth c D cl w0 nL (cells + mr) (slots + sr) Q ((pre ++ w) ++ suf) (pc + 3) lv (v.toList ++ rest)) : zAt p l e R s m args below meth c D cl w0 nL cells slots Q ws pc lv st := by
  subst hws; subst hst
  intro H locs ls hP hD hS hl T0 hT X
  have hwsY := pay_in Z.2.2.2.2.1 hG
  have hcode : (Cond.code y bytes maxL none).before args s = true := hwsY _ (by rw [hw]; exact List.mem_cons_self) args s (State.WarmedH.refl s)
  have hpl : e.platform.magicAccessors = ({} : Platform).magicAccessors := by rw [X.admits.platform]
  obtain ⟨mk, methM, cM, kP, vm₁, hnamed, hmethM, hcodeM, -, hlocalsM, -, hkP, -, hW₁, hstep₁⟩ := Steps.initColdArgs (e := e) X.here Z.1 X.warmed hpl Z.2.2.2.1 hy1 ⟨hd.1, hd.2.1⟩ (Z.2.2.2.2.1 _ hlink) (Z.2.2.2.2.1 _ hinst) hcode (f := F0 m pc ls (As.reverse ++ .ref b :: rest)) rfl (argsL := As) (rest := rest) (fun sig h => by
      have h2 := hd.2.2
      rw [h] at h2
      exact hn.trans (Option.some.inj h2).symm) rfl (by rw [Z.2.1]; exact d)
  have X₁ := X.noted hW₁
  have hsz : (F0 m pc ls rest).locals.size = c.maxLocals := hl.1.trans Z.2.2.1.symm
  have hWk : 2 * (F0 m pc ls rest).monitorRoom + (rest.map fun v => v.category).sum ≤ 8 := lv_room hcat
  obtain ⟨o, t, T', L, e1, e2, X', hL, hO, k1, k2⟩ := z_back (U := T0.setVm vm₁) (g := F0 m pc ls rest) (ig := .invokespecial index) (len := 3) (mk := mk) (maxL := maxL) hM hrc hrs hR.1 hR.2 hwsY
    (fun a' U hW => word_at hW (Or.inl (by first | rfl | simp [Cond.onTables, Cond.keeps, Cond.steady])) (Z.2.2.2.2.1 _ hini))
    (fun U mk' hW hn' => by
      obtain ⟨methY, cY, g1, g2, -, g4, -⟩ := Cond.code_spec hn' (hwsY (Cond.code y bytes maxL none) (by rw [hw]; exact List.mem_cons_self) #[] U hW)
      exact ⟨methY, cY, g1, g2, g4⟩)
    X₁ rfl hsz (by rw [Z.2.1]; exact d) hWk (X₁.named hnamed) hf (z_pre Z hP hD hS (by exact hT) X₁.warmed)
  exact z_fin (tysY := tys) (U := T0.setVm vm₁) (st₀ := (T0.setVm vm₁).calling (F0 m pc ls rest) mk (Value.ref b :: As).toArray) hP hD hS hl hT hT X₁.warmed e1 X' hL hO
    (fun v hv => hstep₁ _ fun acts => by rw [doInvoke_state]; exact k1 v hv) (fun q hv => hstep₁ _ fun acts => by rw [doInvoke_state]; exact k2 q hv) kk kx
/-- 'throw new cls("text")' in a method without a table -/
def zNo (w : Cond) : Bool := decide (w ≠ .isRef (.static Jvm.Bundle.tN "UNASSIGNED_STACK" Jvm.Bundle.steD)) && decide (w ≠ .isRef (.static Jvm.Bundle.tN "SUPPRESSED_SENTINEL" Jvm.Bundle.listD)) && decide (w ≠ .laysStatic Jvm.Bundle.tN "UNASSIGNED_STACK" Jvm.Bundle.steD) && decide (w ≠ .laysStatic Jvm.Bundle.tN "SUPPRESSED_SENTINEL" Jvm.Bundle.listD)
theorem z_own {L : List Cond} (hz : zT s) (h : ∀ w ∈ L.filter zNo, w.before args s = true) : ∀ w ∈ L, w.before args s = true := by
  intro w hw
  obtain ⟨⟨a1, -, a3⟩, ⟨b1, -, b3⟩, -⟩ := id hz
  by_cases e1 : w = .isRef (.static Jvm.Bundle.tN "UNASSIGNED_STACK" Jvm.Bundle.steD)
  · rw [e1]; exact a3
  by_cases e2 : w = .isRef (.static Jvm.Bundle.tN "SUPPRESSED_SENTINEL" Jvm.Bundle.listD)
  · rw [e2]; exact b3
  by_cases e3 : w = .laysStatic Jvm.Bundle.tN "UNASSIGNED_STACK" Jvm.Bundle.steD
  · rw [e3]; exact a1
  by_cases e4 : w = .laysStatic Jvm.Bundle.tN "SUPPRESSED_SENTINEL" Jvm.Bundle.listD
  · rw [e4]; exact b1
  exact h w (List.mem_filter.mpr ⟨hw, by simp [zNo, e1, e2, e3, e4]⟩)
/-- this frame, as if its method were called in the heap as it is now -/
theorem z_base {T : State} {locs : List Loc} (X : Stand p l e R s m args below meth c T locs cells slots) (hc : cells + 1 ≤ R.cells) (hs : slots + 6 ≤ R.slots) :
    Stand p l e { frames := R.frames, locals := R.locals, cells := 1, slots := 6 } ((T.setVm s.vm).setFrames (.invoking m args :: below)) m args below meth c T [] 0 0 := by
  obtain ⟨g₀, hg0⟩ := Option.isSome_iff_exists.mp (show (T.setVm s.vm).topJava?.isSome from X.here.top)
  obtain ⟨r, hr⟩ := State.topJava?_eq_some.mp hg0
  obtain ⟨t, ht, -⟩ := State.frames_cons hr
  have hF : ((T.setVm s.vm).setFrames (.invoking m args :: below)).frames = .invoking m args :: below := State.frames_setFrames _ (State.cur_lt_of_frames hr)
  have hl9 : e.platform.stackLimits (T.setVm s.vm).me = e.platform.stackLimits s.me := X.limits
  have hb9 : (T.setVm s.vm).me.stackBytes = s.me.stackBytes := X.bytes
  have hdr : T.heap.toList.drop T.heap.size = [] := List.drop_eq_nil_of_le (Nat.le_of_eq Array.length_toList)
  have hroom : ((T.setVm s.vm).setFrames (.invoking m args :: below)).hasRoom e.platform { frames := R.frames, locals := R.locals, cells := 1, slots := 6 } = true := by
    have h := X.room
    have hU : ((T.setVm s.vm).setFrames (.invoking m args :: below)).localsInUse = s.localsInUse := by
      rw [State.localsInUse_invoking hF (meth := meth) (c := c) X.method X.code, State.localsInUse_invoking X.frames X.method X.code]
    simp only [State.hasRoom, Bool.and_eq_true, decide_eq_true_eq] at h ⊢
    obtain ⟨⟨⟨⟨h1, h2, h3, h4, h5, h6⟩, h7⟩, h8⟩, h9⟩ := h
    rw [X.frames, List.length_cons] at h2 h3
    have q1 := X.heapSize
    have q2 := X.used
    simp only [hF, hU, List.length_cons, State.stackLimits_setFrames, State.stackBytes_setFrames, hl9, hb9]
    refine ⟨⟨⟨⟨by omega, by omega, by omega, by omega, by omega, h6⟩, ?_⟩, ?_⟩, X.book⟩
    · show T.heap.size + 1 ≤ e.platform.maxCells
      omega
    · show T.slotsUsed + 6 ≤ e.platform.maxSlots
      omega
  have hsame : ((T.setVm s.vm).setFrames (.invoking m args :: below)).sameButNew (T.setVm s.vm) [] 0 0 := by
    refine ⟨?_, Nat.le_refl _, Nat.le_refl _, ?_, ?_, fun a c9 h9 => ⟨c9, h9, rfl, rfl, fun _ _ => rfl⟩⟩
    · show T.setVm s.vm = { ((T.setVm s.vm).setFrames (.invoking m args :: below)).setFrames (T.setVm s.vm).frames with heap := T.heap, slotsUsed := T.slotsUsed }
      rw [State.setFrames_setFrames, State.setFrames_self ht]
      rfl
    · show T.slotsUsed = T.slotsUsed + ((T.heap.toList.drop T.heap.size).map (·.slots.size)).sum
      rw [hdr]; rfl
    · show ((T.heap.toList.drop T.heap.size).map (·.slots.size)).sum ≤ 0
      rw [hdr]; exact Nat.le_refl _
  exact ⟨X.admits, X.cas, X.clock, hF, hroom, X.hears, X.method, X.code, X.here, X.tail, X.warmed, by rw [State.stackLimits_setFrames]; rfl, by rw [State.stackBytes_setFrames]; rfl, hsame⟩
theorem z_tab {u U : State} {w : Cond} {a1 a2 : Array Value} (hv : u.vm = U.vm) (hg : (w.onTables || goodWord w) = true) (h : w.before a1 u = true) : w.before a2 U = true := by
  rcases Bool.or_eq_true _ _ ▸ hg with hg | hg
  · exact va_tabs hg hv h
  · exact word_at (by rw [← hv]; exact State.WarmedH.refl u) (good_of_word hg) h
theorem z_throw (Z : zC p s m args meth c cc nL own Ts D cl tys w0) (hlt : l.stackTraces = false) {cls text : String} {names : List String} {ik is ic mr sr mc ms : Nat} {post : zRes → va_W → Prop}
    (hcls : Jvm.Bundle.fit cls = true) (hnames : ∀ n ∈ names, Jvm.Bundle.fit n = true) (hstr : (own, is, text) ∈ zStrs) (hat : ∀ w ∈ Cond.classLink own ik cls :: Cond.initialized cls :: (Jvm.Bundle.ownAtoms own ic cls names).filter zNo, ((w ∈ Ts) ∨ zWk w = true) ∧ (w.onTables || goodWord w) = true)
    (d0 : decode cc pc = .ok (.new ik, 3)) (d3 : decode cc (pc + 3) = .ok (.dup, 1)) (d4 : decode cc (pc + 4) = .ok (.ldc is, 2)) (d6 : decode cc (pc + 6) = .ok (.invokespecial ic, 3)) (d9 : decode cc (pc + 9) = .ok (.athrow, 1))
    (hout : ∀ x ∈ c.exceptionTable.toList, covers x (pc + 9) = false)
    (hRframes : names.length + 3 < R.frames) (hRlocals : 13 * (names.length + 1) + 43 ≤ R.locals) (hRcells : cells + 1 ≤ R.cells) (hRslots : slots + 6 ≤ R.slots) (hc : cells + 1 ≤ mc) (hs : slots + 6 ≤ ms) (hq : post (.inr cls) ws) :
    zAt p l e R s m args below meth c D cl w0 nL cells slots (zEnd below D cl w0 post s mr sr mc ms) ws pc lv [] := by
  intro H locs ls hP hD hS hl T hT X
  have htr : e.platform.stackTraces = false := (show e.platform.stackTraces = l.stackTraces by rw [X.admits.platform]).trans hlt
  have Y := z_base X hRcells hRslots
  obtain ⟨s', hA⟩ : ∃ z, z = (T.setVm s.vm).setFrames (.invoking m args :: below) := ⟨_, rfl⟩
  rw [← hA] at Y
  have hvm : s'.vm = s.vm := by rw [hA]; rfl
  have hhp : s'.heap = H := by rw [hA]; exact hT
  have hW0 : s.WarmedH s'.vm := by rw [hvm]; exact State.WarmedH.refl s
  have hts : ∀ w ∈ Cond.classLink own ik cls :: Cond.initialized cls :: (Jvm.Bundle.ownAtoms own ic cls names).filter zNo, w.before args s' = true := fun w hw => z_tab hvm.symm (hat w hw).2 ((hat w hw).1.elim (Z.2.2.2.2.1 w) (zWk_at Z.2.2.2.2.2.2.2.2))
  have hzT : zT s' := zT_to Z.2.2.2.2.2.2.2.2 Z.2.2.2.2.2.2.1 hW0 (fun q h1 h2 => by rw [hhp]; exact hS.2.1 q h1 h2)
  have hAt : ∀ w ∈ Jvm.Bundle.ownAtoms own ic cls names, w.before args s' = true := z_own hzT (fun w hw => hts w (List.mem_cons_of_mem _ (List.mem_cons_of_mem _ hw)))
  have hown' : s'.vm.findClass own = some m.cls := by rw [hvm]; exact Z.2.2.2.1
  have hins : (Cond.instantiable cls 6).before args s' = true := hAt _ (by simp [Jvm.Bundle.ownAtoms])
  obtain ⟨vm₁, cX, kX, hfX, hkX, -, -, X₁, st1⟩ := Y.newCold Z.1 (own := own) (C := cls) (index := ik) (n := 6) hown' (hts _ List.mem_cons_self) hins (hts _ (List.mem_cons_of_mem _ List.mem_cons_self))
    (g := F0 m pc ls []) rfl (by rw [Z.2.1]; exact d0) (Nat.le_refl _) (Nat.le_refl _)
  generalize hT1 : (T.setVm vm₁).pushCell { cls := cX, slots := kX.instanceTypes.map defaultValue, vm := .none } = T1 at X₁ st1
  have hcellA : T1.heap[T.heap.size]? = some (freshCell cX kX) := by rw [← hT1]; exact State.heap_pushCell_size _ _
  have d3' : decode c.code (pc + 3) = .ok (.dup, 1) := by rw [Z.2.1]; exact d3
  have d4' : decode c.code (pc + 4) = .ok (.ldc is, 2) := by rw [Z.2.1]; exact d4
  obtain ⟨sa, hstr'⟩ := hzT.2.2.1 _ hstr
  have hcat : (Value.ref T.heap.size).category = 1 := rfl
  obtain ⟨U, hsteps, hrun, hend, hW, hsame, ce, hce, hO⟩ := X₁.ctorThrowS Z.1 htr (own := own) (cls := cls) (names := names) (ic := ic) hown' hcls hnames hAt (fun x hx => nomatch hx) hfX hkX hcellA (by rw [hhp, hT]; exact Nat.le_refl _) (msg := .ref sa) rfl
    (g := { method := m, pc := pc + 6, locals := ls, stack := .ref sa :: .ref T.heap.size :: .ref T.heap.size :: [], locked := none }) rfl (hl.1.trans Z.2.2.1.symm) rfl rfl (rest := []) rfl
    (by rw [Z.2.1]; exact d6) (by rw [Z.2.1]; exact d9) hout hRframes (by simp only [List.map_cons, List.map_nil, List.sum_cons, List.sum_nil, hcat]; show 2 * (0 : Nat) + _ + _ ≤ _; omega) Z.2.2.2.2.2.2.2.1
  have hWs : s.WarmedH U.vm := State.WarmedH.trans hW0 hW
  have hcl : s.vm.findClass cls = some ce.cls := by
    have h9 := hO.cls
    rw [hvm] at h9
    exact h9
  obtain ⟨f1, f2⟩ : H.size ≤ U.heap.size ∧ ∀ q : Nat, q < H.size → U.heap[q]? = H[q]? := by
    obtain ⟨-, h2, -, -, -, h6⟩ := hsame
    rw [← hhp]
    refine ⟨h2, fun q hq => ?_⟩
    obtain ⟨c9, e1, e2, e3, e4⟩ := h6 q _ (Array.getElem?_eq_getElem hq)
    have hs9 : c9.slots = (s'.heap[q]).slots := Array.ext_getElem? fun i => e4 i (fun hm => nomatch hm)
    have h9 : c9 = s'.heap[q] := by
      rw [hs9] at e2
      exact e2
    have e5 : U.heap[q]? = some c9 := e1
    rw [e5, h9, Array.getElem?_eq_getElem hq]
  have hall : s.sameButNew ({ U with vm := s.vm } : State) locs mc ms := by
    subst hA
    obtain ⟨e1, e2⟩ := hsame
    rw [State.setFrames_setFrames] at e1
    have h2 : (T.setVm s.vm).sameButNew ({ U with vm := s.vm } : State) [] (0 + 1) (0 + 6) := ⟨e1, e2⟩
    have h3 := X.same.trans h2
    rw [List.append_nil] at h3
    exact h3.mono hc hs
  refine ⟨U, ?_, .threw T.heap.size, hrun, hend, ⟨⟨Nat.le_trans hS.1 f1, fun q h1 h2 => by rw [f2 q (Nat.lt_of_lt_of_le h1 hS.1)]; exact hS.2.1 q h1 h2⟩, .inr cls, ws, hq, hP.kept (fun k q hk => f2 q.1 (hP k q hk).lt), hD, T.heap.size, ce, rfl, hce, hO.vm, hcl⟩, hWs, locs, hall, hS.2.2⟩
  refine st1 _ ?_
  show Steps p.tables e below (T1.setTop { method := m, pc := pc + 3, locals := ls, stack := .ref T.heap.size :: [], locked := none }) _
  jvm_step X₁.here [X₁.here.top, Z.1, d3', Value.category]
  exact X₁.ldcString Z.1 (own := own) (text := text) (index := is) (a := sa) hown' hstr'.1 hstr'.2
    (g := { method := m, pc := pc + 4, locals := ls, stack := .ref T.heap.size :: .ref T.heap.size :: [], locked := none }) rfl d4' _ hsteps
end ZE
section ZM
variable {l : Launch} {y : MethodName} {ws ws' : List Cond} {rm : Room} {D : va_G} {cl : List vw_C} {tys : List (ClassId × FieldType)} {w0 : va_W} {av : List Value} {post : zRes → va_W → Prop} {mr sr mc ms : Nat} {cc : ByteArray} {maxL : Nat} {ret : Option FieldType}
/-- a contract out of the walk of a body -/
theorem z_meth (hy : plainName y.cls = true) (hw : ws = Cond.code y cc maxL ret :: ws') (hlen : (lg_sl av).length ≤ maxL)
    (body : ∀ (p : Program) (e : Env) (s : State) (m : MethodId) (args : Array Value) (below : List Frame) (meth : Method) (c : Code), zC p s m args meth c cc maxL y.cls ws D cl tys w0 → meth.sig.returnType = ret → meth.name = y.name → (∀ (pc : Nat), ∀ x ∈ c.exceptionTable.toList, covers x pc = false) →
      zAt p l e rm s m args below meth c D cl w0 maxL 0 0 (zEnd below D cl w0 post s mr sr mc ms) w0 0 (lv_args 0 av) []) : zMet l y ws rm D cl tys w0 av post mr sr mc ms := by
  refine Jvm.Free.MetFree.of_bodyS (code := cc) (maxLocals := maxL) (ret := ret) hy ?_ ?_
  · intro args s m h hn
    obtain ⟨meth, c, h1, h2, h3, h4, h5, h6, -, -⟩ := Cond.code_spec hn (atoms_spec (ws := ws) h _ (by rw [hw]; exact List.mem_cons_self))
    exact ⟨meth, c, h1, h2, h3, h4, h5, h6⟩
  · intro p e s m args below meth c s₁ B hml hP _
    have hh0 : s₁.heap = s.heap := by rw [B.state]; rfl
    obtain ⟨ha, hP0, hK, hD0, hzT⟩ := hP
    have ht : ∀ (pc : Nat), ∀ x ∈ c.exceptionTable.toList, covers x pc = false := by
      obtain ⟨meth9, c9, h1, h2, -, -, -, -, h7, -⟩ := Cond.code_spec B.named (atoms_spec (ws := ws) B.pre _ (by rw [hw]; exact List.mem_cons_self))
      cases Option.some.inj (h1.symm.trans B.method)
      cases Option.some.inj (h2.symm.trans (Stand.of_body B).code)
      intro pc x hx
      rw [Array.isEmpty_iff.mp h7] at hx
      cases hx
    have k := body p e s m args below meth c ⟨B.exec, B.bytes, hml, findClass_of_methodNamed B.named, atoms_spec (ws := ws) B.pre, hK, hP0, B.notSynchronized, hzT⟩ B.returns (name_of_methodNamed B.named B.method).1 ht
    have hl := lv_entry av (n := maxL) hlen
    obtain ⟨t, a1, o, b1, b2, b3, b4⟩ := k s.heap [] _ hP0 hD0.self va_S.rf hl s₁ hh0 (Stand.of_body B)
    refine ⟨t, o, ?_, b1, b2, b3, b4⟩
    rw [ha, lg_entry_eq]
    exact a1
/-- .. of a body with a table -/
theorem z_methW {hh : List (Nat × Nat × Nat × Nat)} (hy : plainName y.cls = true) (hw : ws = Cond.codeWith y cc maxL ret hh :: ws') (hlen : (lg_sl av).length ≤ maxL)
    (body : ∀ (p : Program) (e : Env) (s : State) (m : MethodId) (args : Array Value) (below : List Frame) (meth : Method) (c : Code), zC p s m args meth c cc maxL y.cls ws D cl tys w0 → meth.sig.returnType = ret → c.exceptionTable.toList = hh.map (fun q => (⟨q.1, q.2.1, q.2.2.1, q.2.2.2⟩ : ExceptionTableEntry)) →
      zAt p l e rm s m args below meth c D cl w0 maxL 0 0 (zEnd below D cl w0 post s mr sr mc ms) w0 0 (lv_args 0 av) []) : zMet l y ws rm D cl tys w0 av post mr sr mc ms := by
  refine Jvm.Free.MetFree.of_bodyS (code := cc) (maxLocals := maxL) (ret := ret) hy ?_ ?_
  · intro args s m h hn
    obtain ⟨m9, meth, c, hn9, h1, h2, h3, h4, -, h5, h6, -⟩ := Cond.codeWith_spec (atoms_spec (ws := ws) h _ (by rw [hw]; exact List.mem_cons_self))
    cases hn.symm.trans hn9
    exact ⟨meth, c, h1, h2, h3, h4, h5, h6⟩
  · intro p e s m args below meth c s₁ B hml hP _
    have hh0 : s₁.heap = s.heap := by rw [B.state]; rfl
    obtain ⟨ha, hP0, hK, hD0, hzT⟩ := hP
    have ht : c.exceptionTable.toList = hh.map (fun q => (⟨q.1, q.2.1, q.2.2.1, q.2.2.2⟩ : ExceptionTableEntry)) := by
      obtain ⟨m9, meth9, c9, hn9, h1, h2, -, -, h6, -⟩ := Cond.codeWith_spec (atoms_spec (ws := ws) B.pre _ (by rw [hw]; exact List.mem_cons_self))
      cases Option.some.inj (hn9.symm.trans B.named)
      cases Option.some.inj (h1.symm.trans B.method)
      cases Option.some.inj (h2.symm.trans (Stand.of_body B).code)
      rw [← h6, List.map_map]
      exact (List.map_id _).symm
    have k := body p e s m args below meth c ⟨B.exec, B.bytes, hml, findClass_of_methodNamed B.named, atoms_spec (ws := ws) B.pre, hK, hP0, B.notSynchronized, hzT⟩ B.returns ht
    have hl := lv_entry av (n := maxL) hlen
    obtain ⟨t, a1, o, b1, b2, b3, b4⟩ := k s.heap [] _ hP0 hD0.self va_S.rf hl s₁ hh0 (Stand.of_body B)
    refine ⟨t, o, ?_, b1, b2, b3, b4⟩
    rw [ha, lg_entry_eq]
    exact a1
end ZM
end
section
/-! the ways in which a method ends: int or void, its world as it was or changed -/
def qi0 (w0 : va_W) (P : Int32 → Prop) (X : String → Prop) : zRes → va_W → Prop := fun r w => w = w0 ∧ (match r with | .inl (some (.int v)) => P v | .inl _ => False | .inr E => X E)
def qv0 (w0 : va_W) (P : Prop) (X : String → Prop) : zRes → va_W → Prop := fun r w => w = w0 ∧ (match r with | .inl none => P | .inl (some _) => False | .inr E => X E)
def qi {S : Type} (f : S → va_W) (P : Int32 → S → Prop) (X : String → S → Prop) : zRes → va_W → Prop := fun r w => ∃ u, w = f u ∧ (match r with | .inl (some (.int v)) => P v u | .inl _ => False | .inr E => X E u)
def qv {S : Type} (f : S → va_W) (P : S → Prop) (X : String → S → Prop) : zRes → va_W → Prop := fun r w => ∃ u, w = f u ∧ (match r with | .inl none => P u | .inl (some _) => False | .inr E => X E u)
def noX : String → Prop := fun _ => False
def noXs {S : Type} : String → S → Prop := fun _ _ => False
/-- what a call of y asks of the words -/
def okV (Ts : List Cond) (own : String) (index : Nat) (C : String) (y : MethodName) (bytes : ByteArray) (maxL : Nat) (ret : Option FieldType) (wsY : List Cond) (n : Nat) : Prop :=
  GoodIn Ts (wsV own index C y wsY) ∧ (∃ ws', wsY = Cond.code y bytes maxL ret :: ws') ∧ y.cls = C ∧ y.cls ≠ "java/lang/invoke/MethodHandle" ∧ y.cls ≠ "java/lang/invoke/VarHandle" ∧ (parseMethodDescriptor y.desc).map (fun d => d.parameters.length) = some n
def okS (Ts : List Cond) (own : String) (index : Nat) (y : MethodName) (maxL : Nat) (wsY : List Cond) (n : Nat) : Prop :=
  GoodIn Ts wsY ∧ (∀ (a' : Array Value) (U : State), (∀ w ∈ wsY, w.before a' U = true) → ∃ mk methY cY, U.methodNamed? y = some mk ∧ U.vm.method? mk = some methY ∧ methY.code = some cY ∧ cY.maxLocals = maxL ∧ parseMethodDescriptor y.desc = some methY.sig) ∧ Cond.methodLink own index y ∈ Ts ∧ Cond.static y ∈ Ts ∧ Cond.initialized y.cls ∈ Ts ∧ y.cls ≠ "java/lang/invoke/MethodHandle" ∧ y.cls ≠ "java/lang/invoke/VarHandle" ∧ (parseMethodDescriptor y.desc).map (fun d => d.parameters.length) = some n
section ZV
variable {p : Program} {l : Launch} {e : Env} {R : Room} {s : State} {m : MethodId} {args : Array Value} {below : List Frame} {meth : Method} {c : Code} {cells slots nL : Nat} {Q : State → Prop} {D : va_G} {cl : List vw_C} {tys : List (ClassId × FieldType)} {w0 : va_W} {cc : ByteArray} {own : String} {Ts : List Cond} {ws ws' pre wc suf : va_W} {pc : Nat} {lv lv' : List (Nat × Value)} {st : List Value}
variable {C : String} {y : MethodName} {bytes : ByteArray} {maxL mr sr mc ms n index ci N : Nat} {ret : Option FieldType} {wsY : List Cond} {rm : Room} {b : Nat} {As rest : List Value} {fs : List Value} {T : u_T}
theorem z_Vi0 (Z : zC p s m args meth c cc nL own Ts D cl tys w0) {P : Int32 → Prop} {X : String → Prop} (hM : zMet l y wsY rm D cl tys wc (.ref b :: As) (qi0 wc P X) mr sr mc ms) (ok : okV Ts own index C y bytes maxL ret wsY n) (hrc : rm.cells = mc) (hrs : rm.slots = ms) (hR : rm.frames + 1 ≤ R.frames ∧ 8 + (maxL + 11) + rm.locals ≤ R.locals)
    (hws : ws = (pre ++ wc) ++ suf) (he : wc[0]? = some (b, .inr (ci, fs))) (hc : cl[ci]? = some (C, T, N)) (hn : As.length = n) (hst : st = As.reverse ++ .ref b :: rest) (hcat : (rest.map fun v => v.category).sum ≤ 8) (d : decode cc pc = .ok (.invokevirtual index, 3)) (hf : cells + mc ≤ R.cells ∧ slots + ms ≤ R.slots)
    (kx : ∀ E : String, X E → zX p l e R s m args below meth c D cl w0 nL (cells + mc) (slots + ms) Q ((pre ++ wc) ++ suf) pc lv E) (kk : ∀ v : Int32, P v → zAt p l e R s m args below meth c D cl w0 nL (cells + mr) (slots + sr) Q ((pre ++ wc) ++ suf) (pc + 3) lv (.int v :: rest)) : zAt p l e R s m args below meth c D cl w0 nL cells slots Q ws pc lv st := by
  obtain ⟨hG, ⟨wsY', hw⟩, hd⟩ := ok
  exact z_callV Z hM hG hw hrc hrs hd hR hws he hc hn hst hcat d hf (fun E w h => by obtain ⟨rfl, h⟩ := h; exact kx E h) (fun v w h => by
    obtain ⟨rfl, h⟩ := h
    rcases v with _ | v
    · exact h.elim
    · cases v <;> first | exact h.elim | (exact kk _ h))
theorem z_Wi0 (Z : zC p s m args meth c cc nL own Ts D cl tys w0) {P : Int32 → Prop} {X : String → Prop} (hM : zMet l y wsY rm D cl tys ws (.ref b :: As) (qi0 ws P X) mr sr mc ms) (ok : okV Ts own index C y bytes maxL ret wsY n) (hrc : rm.cells = mc) (hrs : rm.slots = ms) (hR : rm.frames + 1 ≤ R.frames ∧ 8 + (maxL + 11) + rm.locals ≤ R.locals)
    (he : ws[0]? = some (b, .inr (ci, fs))) (hc : cl[ci]? = some (C, T, N)) (hn : As.length = n) (hst : st = As.reverse ++ .ref b :: rest) (hcat : (rest.map fun v => v.category).sum ≤ 8) (d : decode cc pc = .ok (.invokevirtual index, 3)) (hf : cells + mc ≤ R.cells ∧ slots + ms ≤ R.slots)
    (kx : ∀ E : String, X E → zX p l e R s m args below meth c D cl w0 nL (cells + mc) (slots + ms) Q ws pc lv E) (kk : ∀ v : Int32, P v → zAt p l e R s m args below meth c D cl w0 nL (cells + mr) (slots + sr) Q ws (pc + 3) lv (.int v :: rest)) : zAt p l e R s m args below meth c D cl w0 nL cells slots Q ws pc lv st :=
  z_Vi0 (pre := []) (suf := []) Z hM ok hrc hrs hR (by rw [List.nil_append, List.append_nil]) he hc hn hst hcat d hf (fun E h => by rw [List.nil_append, List.append_nil]; exact kx E h) (fun v h => by rw [List.nil_append, List.append_nil]; exact kk v h)
theorem z_Ti0 (Z : zC p s m args meth c cc nL own Ts D cl tys w0) {P : Int32 → Prop} {X : String → Prop} (hM : zMet l y wsY rm D cl tys wc As (qi0 wc P X) mr sr mc ms) (ok : okS Ts own index y maxL wsY n) (hrc : rm.cells = mc) (hrs : rm.slots = ms) (hR : rm.frames + 1 ≤ R.frames ∧ 8 + (maxL + 11) + rm.locals ≤ R.locals)
    (hws : ws = (pre ++ wc) ++ suf) (hn : As.length = n) (hst : st = As.reverse ++ rest) (hcat : (rest.map fun v => v.category).sum ≤ 8) (d : decode cc pc = .ok (.invokestatic index, 3)) (hf : cells + mc ≤ R.cells ∧ slots + ms ≤ R.slots)
    (kx : ∀ E : String, X E → zX p l e R s m args below meth c D cl w0 nL (cells + mc) (slots + ms) Q ((pre ++ wc) ++ suf) pc lv E) (kk : ∀ v : Int32, P v → zAt p l e R s m args below meth c D cl w0 nL (cells + mr) (slots + sr) Q ((pre ++ wc) ++ suf) (pc + 3) lv (.int v :: rest)) : zAt p l e R s m args below meth c D cl w0 nL cells slots Q ws pc lv st := by
  obtain ⟨hG, hco, h1, h2, h3, hd⟩ := ok
  exact z_callS Z hM hG hco hrc hrs h1 h2 h3 hd hR hws hn hst hcat d hf (fun E w h => by obtain ⟨rfl, h⟩ := h; exact kx E h) (fun v w h => by
    obtain ⟨rfl, h⟩ := h
    rcases v with _ | v
    · exact h.elim
    · cases v <;> first | exact h.elim | (exact kk _ h))
theorem z_Vv0 (Z : zC p s m args meth c cc nL own Ts D cl tys w0) {P : Prop} {X : String → Prop} (hM : zMet l y wsY rm D cl tys wc (.ref b :: As) (qv0 wc P X) mr sr mc ms) (ok : okV Ts own index C y bytes maxL ret wsY n) (hrc : rm.cells = mc) (hrs : rm.slots = ms) (hR : rm.frames + 1 ≤ R.frames ∧ 8 + (maxL + 11) + rm.locals ≤ R.locals)
    (hws : ws = (pre ++ wc) ++ suf) (he : wc[0]? = some (b, .inr (ci, fs))) (hc : cl[ci]? = some (C, T, N)) (hn : As.length = n) (hst : st = As.reverse ++ .ref b :: rest) (hcat : (rest.map fun v => v.category).sum ≤ 8) (d : decode cc pc = .ok (.invokevirtual index, 3)) (hf : cells + mc ≤ R.cells ∧ slots + ms ≤ R.slots)
    (kx : ∀ E : String, X E → zX p l e R s m args below meth c D cl w0 nL (cells + mc) (slots + ms) Q ((pre ++ wc) ++ suf) pc lv E) (kk : P → zAt p l e R s m args below meth c D cl w0 nL (cells + mr) (slots + sr) Q ((pre ++ wc) ++ suf) (pc + 3) lv rest) : zAt p l e R s m args below meth c D cl w0 nL cells slots Q ws pc lv st := by
  obtain ⟨hG, ⟨wsY', hw⟩, hd⟩ := ok
  exact z_callV Z hM hG hw hrc hrs hd hR hws he hc hn hst hcat d hf (fun E w h => by obtain ⟨rfl, h⟩ := h; exact kx E h) (fun v w h => by
    obtain ⟨rfl, h⟩ := h
    rcases v with _ | v
    · exact kk h
    · exact h.elim)
theorem z_Wv0 (Z : zC p s m args meth c cc nL own Ts D cl tys w0) {P : Prop} {X : String → Prop} (hM : zMet l y wsY rm D cl tys ws (.ref b :: As) (qv0 ws P X) mr sr mc ms) (ok : okV Ts own index C y bytes maxL ret wsY n) (hrc : rm.cells = mc) (hrs : rm.slots = ms) (hR : rm.frames + 1 ≤ R.frames ∧ 8 + (maxL + 11) + rm.locals ≤ R.locals)
    (he : ws[0]? = some (b, .inr (ci, fs))) (hc : cl[ci]? = some (C, T, N)) (hn : As.length = n) (hst : st = As.reverse ++ .ref b :: rest) (hcat : (rest.map fun v => v.category).sum ≤ 8) (d : decode cc pc = .ok (.invokevirtual index, 3)) (hf : cells + mc ≤ R.cells ∧ slots + ms ≤ R.slots)
    (kx : ∀ E : String, X E → zX p l e R s m args below meth c D cl w0 nL (cells + mc) (slots + ms) Q ws pc lv E) (kk : P → zAt p l e R s m args below meth c D cl w0 nL (cells + mr) (slots + sr) Q ws (pc + 3) lv rest) : zAt p l e R s m args below meth c D cl w0 nL cells slots Q ws pc lv st :=
  z_Vv0 (pre := []) (suf := []) Z hM ok hrc hrs hR (by rw [List.nil_append, List.append_nil]) he hc hn hst hcat d hf (fun E h => by rw [List.nil_append, List.append_nil]; exact kx E h) (fun h => by rw [List.nil_append, List.append_nil]; exact kk h)
theorem z_Tv0 (Z : zC p s m args meth c cc nL own Ts D cl tys w0) {P : Prop} {X : String → Prop} (hM : zMet l y wsY rm D cl tys wc As (qv0 wc P X) mr sr mc ms) (ok : okS Ts own index y maxL wsY n) (hrc : rm.cells = mc) (hrs : rm.slots = ms) (hR : rm.frames + 1 ≤ R.frames ∧ 8 + (maxL + 11) + rm.locals ≤ R.locals)
    (hws : ws = (pre ++ wc) ++ suf) (hn : As.length = n) (hst : st = As.reverse ++ rest) (hcat : (rest.map fun v => v.category).sum ≤ 8) (d : decode cc pc = .ok (.invokestatic index, 3)) (hf : cells + mc ≤ R.cells ∧ slots + ms ≤ R.slots)
    (kx : ∀ E : String, X E → zX p l e R s m args below meth c D cl w0 nL (cells + mc) (slots + ms) Q ((pre ++ wc) ++ suf) pc lv E) (kk : P → zAt p l e R s m args below meth c D cl w0 nL (cells + mr) (slots + sr) Q ((pre ++ wc) ++ suf) (pc + 3) lv rest) : zAt p l e R s m args below meth c D cl w0 nL cells slots Q ws pc lv st := by
  obtain ⟨hG, hco, h1, h2, h3, hd⟩ := ok
  exact z_callS Z hM hG hco hrc hrs h1 h2 h3 hd hR hws hn hst hcat d hf (fun E w h => by obtain ⟨rfl, h⟩ := h; exact kx E h) (fun v w h => by
    obtain ⟨rfl, h⟩ := h
    rcases v with _ | v
    · exact kk h
    · exact h.elim)
theorem z_Vi (Z : zC p s m args meth c cc nL own Ts D cl tys w0) {S : Type} {f : S → va_W} {P : Int32 → S → Prop} {X : String → S → Prop} (hM : zMet l y wsY rm D cl tys wc (.ref b :: As) (qi f P X) mr sr mc ms) (ok : okV Ts own index C y bytes maxL ret wsY n) (hrc : rm.cells = mc) (hrs : rm.slots = ms) (hR : rm.frames + 1 ≤ R.frames ∧ 8 + (maxL + 11) + rm.locals ≤ R.locals)
    (hws : ws = (pre ++ wc) ++ suf) (he : wc[0]? = some (b, .inr (ci, fs))) (hc : cl[ci]? = some (C, T, N)) (hn : As.length = n) (hst : st = As.reverse ++ .ref b :: rest) (hcat : (rest.map fun v => v.category).sum ≤ 8) (d : decode cc pc = .ok (.invokevirtual index, 3)) (hf : cells + mc ≤ R.cells ∧ slots + ms ≤ R.slots)
    (kx : ∀ (E : String) (u : S), X E u → zX p l e R s m args below meth c D cl w0 nL (cells + mc) (slots + ms) Q ((pre ++ f u) ++ suf) pc lv E) (kk : ∀ (v : Int32) (u : S), P v u → zAt p l e R s m args below meth c D cl w0 nL (cells + mr) (slots + sr) Q ((pre ++ f u) ++ suf) (pc + 3) lv (.int v :: rest)) : zAt p l e R s m args below meth c D cl w0 nL cells slots Q ws pc lv st := by
  obtain ⟨hG, ⟨wsY', hw⟩, hd⟩ := ok
  exact z_callV Z hM hG hw hrc hrs hd hR hws he hc hn hst hcat d hf (fun E w h => by obtain ⟨u, rfl, h⟩ := h; exact kx E u h) (fun v w h => by
    obtain ⟨u, rfl, h⟩ := h
    rcases v with _ | v
    · exact h.elim
    · cases v <;> first | exact h.elim | (exact kk _ u h))
theorem z_Wi (Z : zC p s m args meth c cc nL own Ts D cl tys w0) {S : Type} {f : S → va_W} {P : Int32 → S → Prop} {X : String → S → Prop} (hM : zMet l y wsY rm D cl tys ws (.ref b :: As) (qi f P X) mr sr mc ms) (ok : okV Ts own index C y bytes maxL ret wsY n) (hrc : rm.cells = mc) (hrs : rm.slots = ms) (hR : rm.frames + 1 ≤ R.frames ∧ 8 + (maxL + 11) + rm.locals ≤ R.locals)
    (he : ws[0]? = some (b, .inr (ci, fs))) (hc : cl[ci]? = some (C, T, N)) (hn : As.length = n) (hst : st = As.reverse ++ .ref b :: rest) (hcat : (rest.map fun v => v.category).sum ≤ 8) (d : decode cc pc = .ok (.invokevirtual index, 3)) (hf : cells + mc ≤ R.cells ∧ slots + ms ≤ R.slots)
    (kx : ∀ (E : String) (u : S), X E u → zX p l e R s m args below meth c D cl w0 nL (cells + mc) (slots + ms) Q (f u) pc lv E) (kk : ∀ (v : Int32) (u : S), P v u → zAt p l e R s m args below meth c D cl w0 nL (cells + mr) (slots + sr) Q (f u) (pc + 3) lv (.int v :: rest)) : zAt p l e R s m args below meth c D cl w0 nL cells slots Q ws pc lv st :=
  z_Vi (pre := []) (suf := []) Z hM ok hrc hrs hR (by rw [List.nil_append, List.append_nil]) he hc hn hst hcat d hf (fun E u h => by rw [List.nil_append, List.append_nil]; exact kx E u h) (fun v u h => by rw [List.nil_append, List.append_nil]; exact kk v u h)
theorem z_Ti (Z : zC p s m args meth c cc nL own Ts D cl tys w0) {S : Type} {f : S → va_W} {P : Int32 → S → Prop} {X : String → S → Prop} (hM : zMet l y wsY rm D cl tys wc As (qi f P X) mr sr mc ms) (ok : okS Ts own index y maxL wsY n) (hrc : rm.cells = mc) (hrs : rm.slots = ms) (hR : rm.frames + 1 ≤ R.frames ∧ 8 + (maxL + 11) + rm.locals ≤ R.locals)
    (hws : ws = (pre ++ wc) ++ suf) (hn : As.length = n) (hst : st = As.reverse ++ rest) (hcat : (rest.map fun v => v.category).sum ≤ 8) (d : decode cc pc = .ok (.invokestatic index, 3)) (hf : cells + mc ≤ R.cells ∧ slots + ms ≤ R.slots)
    (kx : ∀ (E : String) (u : S), X E u → zX p l e R s m args below meth c D cl w0 nL (cells + mc) (slots + ms) Q ((pre ++ f u) ++ suf) pc lv E) (kk : ∀ (v : Int32) (u : S), P v u → zAt p l e R s m args below meth c D cl w0 nL (cells + mr) (slots + sr) Q ((pre ++ f u) ++ suf) (pc + 3) lv (.int v :: rest)) : zAt p l e R s m args below meth c D cl w0 nL cells slots Q ws pc lv st := by
  obtain ⟨hG, hco, h1, h2, h3, hd⟩ := ok
  exact z_callS Z hM hG hco hrc hrs h1 h2 h3 hd hR hws hn hst hcat d hf (fun E w h => by obtain ⟨u, rfl, h⟩ := h; exact kx E u h) (fun v w h => by
    obtain ⟨u, rfl, h⟩ := h
    rcases v with _ | v
    · exact h.elim
    · cases v <;> first | exact h.elim | (exact kk _ u h))
theorem z_Vv (Z : zC p s m args meth c cc nL own Ts D cl tys w0) {S : Type} {f : S → va_W} {P : S → Prop} {X : String → S → Prop} (hM : zMet l y wsY rm D cl tys wc (.ref b :: As) (qv f P X) mr sr mc ms) (ok : okV Ts own index C y bytes maxL ret wsY n) (hrc : rm.cells = mc) (hrs : rm.slots = ms) (hR : rm.frames + 1 ≤ R.frames ∧ 8 + (maxL + 11) + rm.locals ≤ R.locals)
    (hws : ws = (pre ++ wc) ++ suf) (he : wc[0]? = some (b, .inr (ci, fs))) (hc : cl[ci]? = some (C, T, N)) (hn : As.length = n) (hst : st = As.reverse ++ .ref b :: rest) (hcat : (rest.map fun v => v.category).sum ≤ 8) (d : decode cc pc = .ok (.invokevirtual index, 3)) (hf : cells + mc ≤ R.cells ∧ slots + ms ≤ R.slots)
    (kx : ∀ (E : String) (u : S), X E u → zX p l e R s m args below meth c D cl w0 nL (cells + mc) (slots + ms) Q ((pre ++ f u) ++ suf) pc lv E) (kk : ∀ u : S, P u → zAt p l e R s m args below meth c D cl w0 nL (cells + mr) (slots + sr) Q ((pre ++ f u) ++ suf) (pc + 3) lv rest) : zAt p l e R s m args below meth c D cl w0 nL cells slots Q ws pc lv st := by
  obtain ⟨hG, ⟨wsY', hw⟩, hd⟩ := ok
  exact z_callV Z hM hG hw hrc hrs hd hR hws he hc hn hst hcat d hf (fun E w h => by obtain ⟨u, rfl, h⟩ := h; exact kx E u h) (fun v w h => by
    obtain ⟨u, rfl, h⟩ := h
    rcases v with _ | v
    · exact kk u h
    · exact h.elim)
theorem z_Wv (Z : zC p s m args meth c cc nL own Ts D cl tys w0) {S : Type} {f : S → va_W} {P : S → Prop} {X : String → S → Prop} (hM : zMet l y wsY rm D cl tys ws (.ref b :: As) (qv f P X) mr sr mc ms) (ok : okV Ts own index C y bytes maxL ret wsY n) (hrc : rm.cells = mc) (hrs : rm.slots = ms) (hR : rm.frames + 1 ≤ R.frames ∧ 8 + (maxL + 11) + rm.locals ≤ R.locals)
    (he : ws[0]? = some (b, .inr (ci, fs))) (hc : cl[ci]? = some (C, T, N)) (hn : As.length = n) (hst : st = As.reverse ++ .ref b :: rest) (hcat : (rest.map fun v => v.category).sum ≤ 8) (d : decode cc pc = .ok (.invokevirtual index, 3)) (hf : cells + mc ≤ R.cells ∧ slots + ms ≤ R.slots)
    (kx : ∀ (E : String) (u : S), X E u → zX p l e R s m args below meth c D cl w0 nL (cells + mc) (slots + ms) Q (f u) pc lv E) (kk : ∀ u : S, P u → zAt p l e R s m args below meth c D cl w0 nL (cells + mr) (slots + sr) Q (f u) (pc + 3) lv rest) : zAt p l e R s m args below meth c D cl w0 nL cells slots Q ws pc lv st :=
  z_Vv (pre := []) (suf := []) Z hM ok hrc hrs hR (by rw [List.nil_append, List.append_nil]) he hc hn hst hcat d hf (fun E u h => by rw [List.nil_append, List.append_nil]; exact kx E u h) (fun u h => by rw [List.nil_append, List.append_nil]; exact kk u h)
theorem z_Tv (Z : zC p s m args meth c cc nL own Ts D cl tys w0) {S : Type} {f : S → va_W} {P : S → Prop} {X : String → S → Prop} (hM : zMet l y wsY rm D cl tys wc As (qv f P X) mr sr mc ms) (ok : okS Ts own index y maxL wsY n) (hrc : rm.cells = mc) (hrs : rm.slots = ms) (hR : rm.frames + 1 ≤ R.frames ∧ 8 + (maxL + 11) + rm.locals ≤ R.locals)
    (hws : ws = (pre ++ wc) ++ suf) (hn : As.length = n) (hst : st = As.reverse ++ rest) (hcat : (rest.map fun v => v.category).sum ≤ 8) (d : decode cc pc = .ok (.invokestatic index, 3)) (hf : cells + mc ≤ R.cells ∧ slots + ms ≤ R.slots)
    (kx : ∀ (E : String) (u : S), X E u → zX p l e R s m args below meth c D cl w0 nL (cells + mc) (slots + ms) Q ((pre ++ f u) ++ suf) pc lv E) (kk : ∀ u : S, P u → zAt p l e R s m args below meth c D cl w0 nL (cells + mr) (slots + sr) Q ((pre ++ f u) ++ suf) (pc + 3) lv rest) : zAt p l e R s m args below meth c D cl w0 nL cells slots Q ws pc lv st := by
  obtain ⟨hG, hco, h1, h2, h3, hd⟩ := ok
  exact z_callS Z hM hG hco hrc hrs h1 h2 h3 hd hR hws hn hst hcat d hf (fun E w h => by obtain ⟨u, rfl, h⟩ := h; exact kx E u h) (fun v w h => by
    obtain ⟨u, rfl, h⟩ := h
    rcases v with _ | v
    · exact kk u h
    · exact h.elim)
theorem z_S0 (Z : zC p s m args meth c cc nL own Ts D cl tys w0) {P : Int32 → Prop} (hM : zMet l y wsY rm D cl tys [] As (qi0 [] P noX) mr sr mc ms) (ok : okS Ts own index y maxL wsY n) (hrc : rm.cells = mc) (hrs : rm.slots = ms) (hR : rm.frames + 1 ≤ R.frames ∧ 8 + (maxL + 11) + rm.locals ≤ R.locals)
    (hn : As.length = n) (hst : st = As.reverse ++ rest) (hcat : (rest.map fun v => v.category).sum ≤ 8) (d : decode cc pc = .ok (.invokestatic index, 3)) (hf : cells + mc ≤ R.cells ∧ slots + ms ≤ R.slots)
    (kk : ∀ v : Int32, P v → zAt p l e R s m args below meth c D cl w0 nL (cells + mr) (slots + sr) Q ws (pc + 3) lv (.int v :: rest)) : zAt p l e R s m args below meth c D cl w0 nL cells slots Q ws pc lv st :=
  z_Ti0 (pre := ws) (wc := []) (suf := []) Z hM ok hrc hrs hR (by rw [List.append_nil, List.append_nil]) hn hst hcat d hf (fun E h => h.elim) (fun v h => by rw [List.append_nil, List.append_nil]; exact kk v h)
/-- ends -/
theorem z_ri0 (Z : zC p s m args meth c cc nL own Ts D cl tys w0) {ty : FieldType} {v : Int32} {P : Int32 → Prop} {X : String → Prop} (hr : meth.sig.returnType = some ty) (hn : narrow ty (.int v) = .int v) (d : decode cc pc = .ok (.ireturn, 1)) (hc : cells ≤ mr) (hs : slots ≤ sr) (hq : P v) : zAt p l e R s m args below meth c D cl w0 nL cells slots (zEnd below D cl w0 (qi0 ws P X) s mr sr mc ms) ws pc lv [.int v] := z_iret Z hr hn d hc hs ⟨rfl, hq⟩
theorem z_rv0 (Z : zC p s m args meth c cc nL own Ts D cl tys w0) {P : Prop} {X : String → Prop} (hr : meth.sig.returnType = none) (d : decode cc pc = .ok (.return_, 1)) (hc : cells ≤ mr) (hs : slots ≤ sr) (hq : P) : zAt p l e R s m args below meth c D cl w0 nL cells slots (zEnd below D cl w0 (qv0 ws P X) s mr sr mc ms) ws pc lv [] := z_vret Z hr d hc hs ⟨rfl, hq⟩
theorem z_ri (Z : zC p s m args meth c cc nL own Ts D cl tys w0) {S : Type} {f : S → va_W} (u : S) {ty : FieldType} {v : Int32} {P : Int32 → S → Prop} {X : String → S → Prop} (hr : meth.sig.returnType = some ty) (hn : narrow ty (.int v) = .int v) (d : decode cc pc = .ok (.ireturn, 1)) (hc : cells ≤ mr) (hs : slots ≤ sr) (hw : ws = f u) (hq : P v u) : zAt p l e R s m args below meth c D cl w0 nL cells slots (zEnd below D cl w0 (qi f P X) s mr sr mc ms) ws pc lv [.int v] := z_iret Z hr hn d hc hs ⟨u, hw, hq⟩
theorem z_rv (Z : zC p s m args meth c cc nL own Ts D cl tys w0) {S : Type} {f : S → va_W} (u : S) {P : S → Prop} {X : String → S → Prop} (hr : meth.sig.returnType = none) (d : decode cc pc = .ok (.return_, 1)) (hc : cells ≤ mr) (hs : slots ≤ sr) (hw : ws = f u) (hq : P u) : zAt p l e R s m args below meth c D cl w0 nL cells slots (zEnd below D cl w0 (qv f P X) s mr sr mc ms) ws pc lv [] := z_vret Z hr d hc hs ⟨u, hw, hq⟩
end ZV
theorem zi_0 : Int32.ofInt 0 = nI 0 := by decide
theorem zi_1 : Int32.ofInt 1 = nI 1 := by decide
theorem zi_2 : Int32.ofInt 2 = nI 2 := by decide
theorem zi_3 : Int32.ofInt 3 = nI 3 := by decide
theorem zi_4 : Int32.ofInt 4 = nI 4 := by decide
theorem zi_5 : Int32.ofInt 5 = nI 5 := by decide
theorem zi_m1 : Int32.ofInt (-1) = (-1 : Int32) := by decide
theorem zb_6 : (Int8.ofInt 6).toInt32 = nI 6 := by decide
theorem zb_23 : (Int8.ofInt 23).toInt32 = nI 23 := by decide
theorem zb_24 : (Int8.ofInt 24).toInt32 = nI 24 := by decide
theorem zb_72 : (Int8.ofInt 72).toInt32 = nI 72 := by decide
theorem zb_96 : (Int8.ofInt 96).toInt32 = nI 96 := by decide
end
section
/-! the words that the two classes' methods rest on, and how a call finds them -/
def zNames : List String := ["java/lang/RuntimeException", "java/lang/Exception"]
theorem zNames_fit : ∀ n ∈ zNames, Jvm.Bundle.fit n = true := by decide +kernel
def wX0 : List Cond := [.initialized R_X, .fieldLink R_X 9 "EphemeronHeap" "kinds" "[I", .fieldLink R_X 13 "EphemeronHeap" "serials" "[I", .fieldLink R_X 16 "EphemeronHeap" "fields" "[I", .fieldLink R_X 19 "EphemeronHeap" "keys" "[I", .fieldLink R_X 22 "EphemeronHeap" "values" "[I", .fieldLink R_X 25 "EphemeronHeap" "entryCounts" "[I", .fieldLink R_X 28 "EphemeronHeap" "states" "[I", .fieldLink R_X 31 "EphemeronHeap" "actions" "[I", .fieldLink R_X 34 "EphemeronHeap" "targets" "[I", .fieldLink R_X 37 "EphemeronHeap" "roots" "[I", .fieldLink R_X 40 "EphemeronHeap" "queue" "[I", .fieldLink R_X 110 "EphemeronHeap" "timesCollected" "I", .fieldLink R_X 124 "EphemeronHeap" "occupied" "I", .fieldLink R_X 138 "EphemeronHeap" "queueLength" "I", .fieldLink R_X 171 "EphemeronHeap" "thingsMade" "I", .methodLink R_X 50 y_leastFreeCell, .instanceMethod y_leastFreeCell, .selects R_X y_leastFreeCell y_leastFreeCell, .code y_leastFreeCell b_leastFreeCell 2 (some .int), .methodLink R_X 54 y_collect, .instanceMethod y_collect, .selects R_X y_collect y_collect, .code y_collect b_collect 4 (some .int), .methodLink R_X 62 y_placeThing, .instanceMethod y_placeThing, .selects R_X y_placeThing y_placeThing, .code y_placeThing b_placeThing 3 none, .methodLink R_X 66 y_requireThing, .instanceMethod y_requireThing, .selects R_X y_requireThing y_requireThing, .code y_requireThing b_requireThing 2 none, .methodLink R_X 70 y_requireThingOrNone, .instanceMethod y_requireThingOrNone, .selects R_X y_requireThingOrNone y_requireThingOrNone, .code y_requireThingOrNone b_requireThingOrNone 2 none, .methodLink R_X 73 y_requireField, .instanceMethod y_requireField, .selects R_X y_requireField y_requireField, .code y_requireField b_requireField 3 none, .methodLink R_X 76 y_fieldSlot, .static y_fieldSlot, .code y_fieldSlot b_fieldSlot 2 (some .int), .methodLink R_X 80 y_requireTable, .instanceMethod y_requireTable, .selects R_X y_requireTable y_requireTable, .code y_requireTable b_requireTable 2 none, .methodLink R_X 83 y_entryOf, .instanceMethod y_entryOf, .selects R_X y_entryOf y_entryOf, .code y_entryOf b_entryOf 4 (some .int), .methodLink R_X 86 y_entrySlot, .static y_entrySlot, .code y_entrySlot b_entrySlot 2 (some .int), .methodLink R_X 91 y_appendEntry, .instanceMethod y_appendEntry, .selects R_X y_appendEntry y_appendEntry, .code y_appendEntry b_appendEntry 5 none, .methodLink R_X 95 y_dropEntry, .instanceMethod y_dropEntry, .selects R_X y_dropEntry y_dropEntry, .code y_dropEntry b_dropEntry 5 none, .methodLink R_X 103 y_requireRoot, .instanceMethod y_requireRoot, .selects R_X y_requireRoot y_requireRoot, .code y_requireRoot b_requireRoot 2 none, .methodLink R_X 114 y_thingsInRoots, .instanceMethod y_thingsInRoots, .selects R_X y_thingsInRoots y_thingsInRoots, .code y_thingsInRoots b_thingsInRoots 3 (some .int), .methodLink R_X 117 y_closureOf, .instanceMethod y_closureOf, .selects R_X y_closureOf y_closureOf, .code y_closureOf b_closureOf 5 (some .int), .methodLink R_X 121 y_forgetOutside, .instanceMethod y_forgetOutside, .selects R_X y_forgetOutside y_forgetOutside, .code y_forgetOutside b_forgetOutside 3 none, .methodLink R_X 127 y_queueWaiting, .instanceMethod y_queueWaiting, .selects R_X y_queueWaiting y_queueWaiting, .code y_queueWaiting b_queueWaiting 3 none, .methodLink R_X 130 y_thingsInQueue, .instanceMethod y_thingsInQueue, .selects R_X y_thingsInQueue y_thingsInQueue, .code y_thingsInQueue b_thingsInQueue 3 (some .int), .methodLink R_X 133 y_bitCount, .static y_bitCount, .initialized "java/lang/Integer", .code y_bitCount b_bitCount 1 (some .int), .constant "java/lang/Integer" 265 1431655765, .constant "java/lang/Integer" 266 858993459, .constant "java/lang/Integer" 267 252645135, .methodLink R_X 146 y_takeFirstQueued, .instanceMethod y_takeFirstQueued, .selects R_X y_takeFirstQueued y_takeFirstQueued, .code y_takeFirstQueued b_takeFirstQueued 3 (some .int), .methodLink R_X 149 y_performAction, .instanceMethod y_performAction, .selects R_X y_performAction y_performAction, .code y_performAction b_performAction 2 none, .methodLink R_X 152 y_contains, .static y_contains, .code y_contains b_contains 2 (some .boolean), .methodLink R_X 156 y_hasThing, .instanceMethod y_hasThing, .selects R_X y_hasThing y_hasThing, .code y_hasThing b_hasThing 2 (some .boolean), .methodLink R_X 162 y_fieldCount, .static y_fieldCount, .code y_fieldCount b_fieldCount 1 (some .int), .methodLink R_X 174 y_emptyThing, .instanceMethod y_emptyThing, .selects R_X y_emptyThing y_emptyThing, .code y_emptyThing b_emptyThing 3 none, .methodLink R_X 177 y_copyEntry, .instanceMethod y_copyEntry, .selects R_X y_copyEntry y_copyEntry, .code y_copyEntry b_copyEntry 4 none, .methodLink R_X 180 y_withThingsHeld, .instanceMethod y_withThingsHeld, .selects R_X y_withThingsHeld y_withThingsHeld, .code y_withThingsHeld b_withThingsHeld 4 (some .int), .methodLink R_X 183 y_thingsHeldBy, .instanceMethod y_thingsHeldBy, .selects R_X y_thingsHeldBy y_thingsHeldBy, .code y_thingsHeldBy b_thingsHeldBy 3 (some .int), .methodLink R_X 186 y_thingsInFields, .instanceMethod y_thingsInFields, .selects R_X y_thingsInFields y_thingsInFields, .code y_thingsInFields b_thingsInFields 5 (some .int), .methodLink R_X 189 y_valuesOfKeysIn, .instanceMethod y_valuesOfKeysIn, .selects R_X y_valuesOfKeysIn y_valuesOfKeysIn, .code y_valuesOfKeysIn b_valuesOfKeysIn 6 (some .int), .methodLink R_X 192 y_forgetReferentOutside, .instanceMethod y_forgetReferentOutside, .selects R_X y_forgetReferentOutside y_forgetReferentOutside, .code y_forgetReferentOutside b_forgetReferentOutside 4 none, .methodLink R_X 195 y_forgetEntriesOutside, .instanceMethod y_forgetEntriesOutside, .selects R_X y_forgetEntriesOutside y_forgetEntriesOutside, .code y_forgetEntriesOutside b_forgetEntriesOutside 5 none]
def wT_IllegalArgumentException : List Cond := .classLink R_X 43 "java/lang/IllegalArgumentException" :: .initialized "java/lang/IllegalArgumentException" :: (Jvm.Bundle.ownAtoms R_X 47 "java/lang/IllegalArgumentException" zNames).filter zNo
def wT_IllegalStateException : List Cond := .classLink R_X 57 "java/lang/IllegalStateException" :: .initialized "java/lang/IllegalStateException" :: (Jvm.Bundle.ownAtoms R_X 61 "java/lang/IllegalStateException" zNames).filter zNo
def wT_IndexOutOfBoundsException : List Cond := .classLink R_X 98 "java/lang/IndexOutOfBoundsException" :: .initialized "java/lang/IndexOutOfBoundsException" :: (Jvm.Bundle.ownAtoms R_X 102 "java/lang/IndexOutOfBoundsException" zNames).filter zNo
def wT_NoSuchElementException : List Cond := .classLink R_X 141 "java/util/NoSuchElementException" :: .initialized "java/util/NoSuchElementException" :: (Jvm.Bundle.ownAtoms R_X 145 "java/util/NoSuchElementException" zNames).filter zNo
def wX : List Cond := wX0 ++ (u_ws R_X F_X 15 ++ ((wT_IllegalArgumentException ++ wT_IllegalStateException ++ wT_IndexOutOfBoundsException ++ wT_NoSuchElementException).filter goodWord))
def wM0 : List Cond := [.initialized R_M, .fieldLink R_M 7 "EphemeronHeapModel" "kinds" "[I", .fieldLink R_M 13 "EphemeronHeapModel" "serials" "[I", .fieldLink R_M 16 "EphemeronHeapModel" "fields" "[I", .fieldLink R_M 19 "EphemeronHeapModel" "entries" "[I", .fieldLink R_M 22 "EphemeronHeapModel" "keys" "[I", .fieldLink R_M 25 "EphemeronHeapModel" "values" "[I", .fieldLink R_M 28 "EphemeronHeapModel" "states" "[I", .fieldLink R_M 31 "EphemeronHeapModel" "actions" "[I", .fieldLink R_M 34 "EphemeronHeapModel" "places" "[I", .fieldLink R_M 37 "EphemeronHeapModel" "roots" "[I", .fieldLink R_M 40 "EphemeronHeapModel" "queue" "[I", .fieldLink R_M 43 "EphemeronHeapModel" "in" "[Z", .fieldLink R_M 47 "EphemeronHeapModel" "thrown" "I", .fieldLink R_M 58 "EphemeronHeapModel" "made" "I", .fieldLink R_M 90 "EphemeronHeapModel" "collections" "I", .fieldLink R_M 99 "EphemeronHeapModel" "waiting" "I", .methodLink R_M 51 y_m_freeCell, .instanceMethod y_m_freeCell, .selects R_M y_m_freeCell y_m_freeCell, .code y_m_freeCell b_m_freeCell 3 (some .int), .methodLink R_M 55 y_m_gather, .instanceMethod y_m_gather, .selects R_M y_m_gather y_m_gather, .code y_m_gather b_m_gather 3 (some .int), .methodLink R_M 61 y_m_lose, .instanceMethod y_m_lose, .selects R_M y_m_lose y_m_lose, .code y_m_lose b_m_lose 3 none, .methodLink R_M 65 y_m_isThing, .instanceMethod y_m_isThing, .selects R_M y_m_isThing y_m_isThing, .code y_m_isThing b_m_isThing 2 (some .boolean), .methodLink R_M 69 y_m_isField, .instanceMethod y_m_isField, .selects R_M y_m_isField y_m_isField, .code y_m_isField b_m_isField 3 (some .boolean), .methodLink R_M 73 y_m_entryOf, .instanceMethod y_m_entryOf, .selects R_M y_m_entryOf y_m_entryOf, .code y_m_entryOf b_m_entryOf 5 (some .int), .methodLink R_M 77 y_m_isTable, .instanceMethod y_m_isTable, .selects R_M y_m_isTable y_m_isTable, .code y_m_isTable b_m_isTable 3 (some .boolean), .methodLink R_M 80 y_m_dropEntry, .instanceMethod y_m_dropEntry, .selects R_M y_m_dropEntry y_m_dropEntry, .code y_m_dropEntry b_m_dropEntry 4 none, .methodLink R_M 84 y_m_isRoot, .static y_m_isRoot, .code y_m_isRoot b_m_isRoot 1 (some .boolean), .methodLink R_M 87 y_m_add, .instanceMethod y_m_add, .selects R_M y_m_add y_m_add, .code y_m_add b_m_add 2 (some .boolean), .methodLink R_M 93 y_m_close, .instanceMethod y_m_close, .selects R_M y_m_close y_m_close, .code y_m_close b_m_close 4 none, .methodLink R_M 96 y_m_forget, .instanceMethod y_m_forget, .selects R_M y_m_forget y_m_forget, .code y_m_forget b_m_forget 4 none]
def wM : List Cond := wM0 ++ u_ws R_M F_M 16
theorem inX_0 {w : Cond} (h : w ∈ wX0) : w ∈ wX := List.mem_append_left _ h
theorem inX_u : ∀ w ∈ u_ws R_X F_X 15, w ∈ wX := fun w h => List.mem_append_right _ (List.mem_append_left _ h)
theorem lk_X_kinds : Cond.fieldLink R_X 9 "EphemeronHeap" "kinds" "[I" ∈ wX := inX_0 (List.mem_of_getElem? (i := 1) rfl)
theorem lk_X_serials : Cond.fieldLink R_X 13 "EphemeronHeap" "serials" "[I" ∈ wX := inX_0 (List.mem_of_getElem? (i := 2) rfl)
theorem lk_X_fields : Cond.fieldLink R_X 16 "EphemeronHeap" "fields" "[I" ∈ wX := inX_0 (List.mem_of_getElem? (i := 3) rfl)
theorem lk_X_keys : Cond.fieldLink R_X 19 "EphemeronHeap" "keys" "[I" ∈ wX := inX_0 (List.mem_of_getElem? (i := 4) rfl)
theorem lk_X_values : Cond.fieldLink R_X 22 "EphemeronHeap" "values" "[I" ∈ wX := inX_0 (List.mem_of_getElem? (i := 5) rfl)
theorem lk_X_entryCounts : Cond.fieldLink R_X 25 "EphemeronHeap" "entryCounts" "[I" ∈ wX := inX_0 (List.mem_of_getElem? (i := 6) rfl)
theorem lk_X_states : Cond.fieldLink R_X 28 "EphemeronHeap" "states" "[I" ∈ wX := inX_0 (List.mem_of_getElem? (i := 7) rfl)
theorem lk_X_actions : Cond.fieldLink R_X 31 "EphemeronHeap" "actions" "[I" ∈ wX := inX_0 (List.mem_of_getElem? (i := 8) rfl)
theorem lk_X_targets : Cond.fieldLink R_X 34 "EphemeronHeap" "targets" "[I" ∈ wX := inX_0 (List.mem_of_getElem? (i := 9) rfl)
theorem lk_X_roots : Cond.fieldLink R_X 37 "EphemeronHeap" "roots" "[I" ∈ wX := inX_0 (List.mem_of_getElem? (i := 10) rfl)
theorem lk_X_queue : Cond.fieldLink R_X 40 "EphemeronHeap" "queue" "[I" ∈ wX := inX_0 (List.mem_of_getElem? (i := 11) rfl)
theorem lk_X_timesCollected : Cond.fieldLink R_X 110 "EphemeronHeap" "timesCollected" "I" ∈ wX := inX_0 (List.mem_of_getElem? (i := 12) rfl)
theorem lk_X_occupied : Cond.fieldLink R_X 124 "EphemeronHeap" "occupied" "I" ∈ wX := inX_0 (List.mem_of_getElem? (i := 13) rfl)
theorem lk_X_queueLength : Cond.fieldLink R_X 138 "EphemeronHeap" "queueLength" "I" ∈ wX := inX_0 (List.mem_of_getElem? (i := 14) rfl)
theorem lk_X_thingsMade : Cond.fieldLink R_X 171 "EphemeronHeap" "thingsMade" "I" ∈ wX := inX_0 (List.mem_of_getElem? (i := 15) rfl)
theorem good_X : ∀ w ∈ wX, goodWord w = true := by
  have h : wX.all goodWord = true := by decide +kernel
  exact List.all_eq_true.mp h
theorem inM_0 {w : Cond} (h : w ∈ wM0) : w ∈ wM := List.mem_append_left _ h
theorem inM_u : ∀ w ∈ u_ws R_M F_M 16, w ∈ wM := fun w h => List.mem_append_right _ h
theorem lk_M_kinds : Cond.fieldLink R_M 7 "EphemeronHeapModel" "kinds" "[I" ∈ wM := inM_0 (List.mem_of_getElem? (i := 1) rfl)
theorem lk_M_serials : Cond.fieldLink R_M 13 "EphemeronHeapModel" "serials" "[I" ∈ wM := inM_0 (List.mem_of_getElem? (i := 2) rfl)
theorem lk_M_fields : Cond.fieldLink R_M 16 "EphemeronHeapModel" "fields" "[I" ∈ wM := inM_0 (List.mem_of_getElem? (i := 3) rfl)
theorem lk_M_entries : Cond.fieldLink R_M 19 "EphemeronHeapModel" "entries" "[I" ∈ wM := inM_0 (List.mem_of_getElem? (i := 4) rfl)
theorem lk_M_keys : Cond.fieldLink R_M 22 "EphemeronHeapModel" "keys" "[I" ∈ wM := inM_0 (List.mem_of_getElem? (i := 5) rfl)
theorem lk_M_values : Cond.fieldLink R_M 25 "EphemeronHeapModel" "values" "[I" ∈ wM := inM_0 (List.mem_of_getElem? (i := 6) rfl)
theorem lk_M_states : Cond.fieldLink R_M 28 "EphemeronHeapModel" "states" "[I" ∈ wM := inM_0 (List.mem_of_getElem? (i := 7) rfl)
theorem lk_M_actions : Cond.fieldLink R_M 31 "EphemeronHeapModel" "actions" "[I" ∈ wM := inM_0 (List.mem_of_getElem? (i := 8) rfl)
theorem lk_M_places : Cond.fieldLink R_M 34 "EphemeronHeapModel" "places" "[I" ∈ wM := inM_0 (List.mem_of_getElem? (i := 9) rfl)
theorem lk_M_roots : Cond.fieldLink R_M 37 "EphemeronHeapModel" "roots" "[I" ∈ wM := inM_0 (List.mem_of_getElem? (i := 10) rfl)
theorem lk_M_queue : Cond.fieldLink R_M 40 "EphemeronHeapModel" "queue" "[I" ∈ wM := inM_0 (List.mem_of_getElem? (i := 11) rfl)
theorem lk_M_in : Cond.fieldLink R_M 43 "EphemeronHeapModel" "in" "[Z" ∈ wM := inM_0 (List.mem_of_getElem? (i := 12) rfl)
theorem lk_M_thrown : Cond.fieldLink R_M 47 "EphemeronHeapModel" "thrown" "I" ∈ wM := inM_0 (List.mem_of_getElem? (i := 13) rfl)
theorem lk_M_made : Cond.fieldLink R_M 58 "EphemeronHeapModel" "made" "I" ∈ wM := inM_0 (List.mem_of_getElem? (i := 14) rfl)
theorem lk_M_collections : Cond.fieldLink R_M 90 "EphemeronHeapModel" "collections" "I" ∈ wM := inM_0 (List.mem_of_getElem? (i := 15) rfl)
theorem lk_M_waiting : Cond.fieldLink R_M 99 "EphemeronHeapModel" "waiting" "I" ∈ wM := inM_0 (List.mem_of_getElem? (i := 16) rfl)
theorem good_M : ∀ w ∈ wM, goodWord w = true := by
  have h : wM.all goodWord = true := by decide +kernel
  exact List.all_eq_true.mp h
theorem goodC {W : List Cond} (hg : ∀ w ∈ W, goodWord w = true) (c0 : Cond) {L : List Cond} (h : ∀ w ∈ L, w ∈ W) : GoodIn (c0 :: W) L := fun w hw => ⟨List.mem_cons_of_mem _ (h w hw), good_of_word (hg w (h w hw))⟩
def w_make : List Cond := .code y_make b_make 3 (some .int) :: wX
abbrev rm_make : Room := { frames := 6, cells := 1, slots := 6, locals := 138 }
def w_set : List Cond := .code y_set b_set 4 none :: wX
abbrev rm_set : Room := { frames := 8, cells := 1, slots := 6, locals := 124 }
def w_get : List Cond := .code y_get b_get 3 (some .int) :: wX
abbrev rm_get : Room := { frames := 7, cells := 1, slots := 6, locals := 104 }
def w_put : List Cond := .code y_put b_put 5 (some .boolean) :: wX
abbrev rm_put : Room := { frames := 7, cells := 1, slots := 6, locals := 103 }
def w_find : List Cond := .code y_find b_find 4 (some .int) :: wX
abbrev rm_find : Room := { frames := 7, cells := 1, slots := 6, locals := 103 }
def w_remove : List Cond := .code y_remove b_remove 4 (some .boolean) :: wX
abbrev rm_remove : Room := { frames := 7, cells := 1, slots := 6, locals := 103 }
def w_key : List Cond := .code y_key b_key 3 (some .int) :: wX
abbrev rm_key : Room := { frames := 7, cells := 1, slots := 6, locals := 103 }
def w_root : List Cond := .code y_root b_root 3 none :: wX
abbrev rm_root : Room := { frames := 8, cells := 1, slots := 6, locals := 124 }
def w_rootAt : List Cond := .code y_rootAt b_rootAt 2 (some .int) :: wX
abbrev rm_rootAt : Room := { frames := 7, cells := 1, slots := 6, locals := 103 }
def w_guard : List Cond := .code y_guard b_guard 4 none :: wX
abbrev rm_guard : Room := { frames := 7, cells := 1, slots := 6, locals := 103 }
def w_collect : List Cond := .code y_collect b_collect 4 (some .int) :: wX
abbrev rm_collect : Room := { frames := 5, cells := 0, slots := 0, locals := 115 }
def w_run : List Cond := .code y_run b_run 2 (some .int) :: wX
abbrev rm_run : Room := { frames := 6, cells := 1, slots := 6, locals := 82 }
def w_queued : List Cond := .code y_queued b_queued 1 (some .int) :: wX
abbrev rm_queued : Room := { frames := 0, cells := 0, slots := 0, locals := 0 }
def w_used : List Cond := .code y_used b_used 1 (some .int) :: wX
abbrev rm_used : Room := { frames := 0, cells := 0, slots := 0, locals := 0 }
def w_kind : List Cond := .code y_kind b_kind 2 (some .int) :: wX
abbrev rm_kind : Room := { frames := 7, cells := 1, slots := 6, locals := 103 }
def w_serial : List Cond := .code y_serial b_serial 2 (some .int) :: wX
abbrev rm_serial : Room := { frames := 7, cells := 1, slots := 6, locals := 103 }
def w_collections : List Cond := .code y_collections b_collections 1 (some .int) :: wX
abbrev rm_collections : Room := { frames := 0, cells := 0, slots := 0, locals := 0 }
def w_contains : List Cond := .code y_contains b_contains 2 (some .boolean) :: wX
abbrev rm_contains : Room := { frames := 0, cells := 0, slots := 0, locals := 0 }
def w_hasThing : List Cond := .code y_hasThing b_hasThing 2 (some .boolean) :: wX
abbrev rm_hasThing : Room := { frames := 1, cells := 0, slots := 0, locals := 21 }
def w_requireThing : List Cond := .code y_requireThing b_requireThing 2 none :: wX
abbrev rm_requireThing : Room := { frames := 6, cells := 1, slots := 6, locals := 82 }
def w_requireThingOrNone : List Cond := .code y_requireThingOrNone b_requireThingOrNone 2 none :: wX
abbrev rm_requireThingOrNone : Room := { frames := 7, cells := 1, slots := 6, locals := 103 }
def w_requireField : List Cond := .code y_requireField b_requireField 3 none :: wX
abbrev rm_requireField : Room := { frames := 6, cells := 1, slots := 6, locals := 82 }
def w_requireTable : List Cond := .code y_requireTable b_requireTable 2 none :: wX
abbrev rm_requireTable : Room := { frames := 6, cells := 1, slots := 6, locals := 82 }
def w_requireRoot : List Cond := .code y_requireRoot b_requireRoot 2 none :: wX
abbrev rm_requireRoot : Room := { frames := 6, cells := 1, slots := 6, locals := 82 }
def w_fieldCount : List Cond := .code y_fieldCount b_fieldCount 1 (some .int) :: wX
abbrev rm_fieldCount : Room := { frames := 0, cells := 0, slots := 0, locals := 0 }
def w_fieldSlot : List Cond := .code y_fieldSlot b_fieldSlot 2 (some .int) :: wX
abbrev rm_fieldSlot : Room := { frames := 0, cells := 0, slots := 0, locals := 0 }
def w_entrySlot : List Cond := .code y_entrySlot b_entrySlot 2 (some .int) :: wX
abbrev rm_entrySlot : Room := { frames := 0, cells := 0, slots := 0, locals := 0 }
def w_leastFreeCell : List Cond := .code y_leastFreeCell b_leastFreeCell 2 (some .int) :: wX
abbrev rm_leastFreeCell : Room := { frames := 1, cells := 0, slots := 0, locals := 21 }
def w_placeThing : List Cond := .code y_placeThing b_placeThing 3 none :: wX
abbrev rm_placeThing : Room := { frames := 2, cells := 0, slots := 0, locals := 43 }
def w_emptyThing : List Cond := .code y_emptyThing b_emptyThing 3 none :: wX
abbrev rm_emptyThing : Room := { frames := 1, cells := 0, slots := 0, locals := 21 }
def w_entryOf : List Cond := .code y_entryOf b_entryOf 4 (some .int) :: wX
abbrev rm_entryOf : Room := { frames := 1, cells := 0, slots := 0, locals := 21 }
def w_appendEntry : List Cond := .code y_appendEntry b_appendEntry 5 none :: wX
abbrev rm_appendEntry : Room := { frames := 1, cells := 0, slots := 0, locals := 21 }
def w_dropEntry : List Cond := .code y_dropEntry b_dropEntry 5 none :: wX
abbrev rm_dropEntry : Room := { frames := 2, cells := 0, slots := 0, locals := 44 }
def w_copyEntry : List Cond := .code y_copyEntry b_copyEntry 4 none :: wX
abbrev rm_copyEntry : Room := { frames := 1, cells := 0, slots := 0, locals := 21 }
def w_thingsInRoots : List Cond := .code y_thingsInRoots b_thingsInRoots 3 (some .int) :: wX
abbrev rm_thingsInRoots : Room := { frames := 0, cells := 0, slots := 0, locals := 0 }
def w_thingsInQueue : List Cond := .code y_thingsInQueue b_thingsInQueue 3 (some .int) :: wX
abbrev rm_thingsInQueue : Room := { frames := 0, cells := 0, slots := 0, locals := 0 }
def w_closureOf : List Cond := .code y_closureOf b_closureOf 5 (some .int) :: wX
abbrev rm_closureOf : Room := { frames := 4, cells := 0, slots := 0, locals := 91 }
def w_withThingsHeld : List Cond := .code y_withThingsHeld b_withThingsHeld 4 (some .int) :: wX
abbrev rm_withThingsHeld : Room := { frames := 3, cells := 0, slots := 0, locals := 68 }
def w_thingsHeldBy : List Cond := .code y_thingsHeldBy b_thingsHeldBy 3 (some .int) :: wX
abbrev rm_thingsHeldBy : Room := { frames := 2, cells := 0, slots := 0, locals := 46 }
def w_thingsInFields : List Cond := .code y_thingsInFields b_thingsInFields 5 (some .int) :: wX
abbrev rm_thingsInFields : Room := { frames := 1, cells := 0, slots := 0, locals := 21 }
def w_valuesOfKeysIn : List Cond := .code y_valuesOfKeysIn b_valuesOfKeysIn 6 (some .int) :: wX
abbrev rm_valuesOfKeysIn : Room := { frames := 1, cells := 0, slots := 0, locals := 21 }
def w_forgetOutside : List Cond := .code y_forgetOutside b_forgetOutside 3 none :: wX
abbrev rm_forgetOutside : Room := { frames := 3, cells := 0, slots := 0, locals := 68 }
def w_forgetReferentOutside : List Cond := .code y_forgetReferentOutside b_forgetReferentOutside 4 none :: wX
abbrev rm_forgetReferentOutside : Room := { frames := 1, cells := 0, slots := 0, locals := 21 }
def w_forgetEntriesOutside : List Cond := .code y_forgetEntriesOutside b_forgetEntriesOutside 5 none :: wX
abbrev rm_forgetEntriesOutside : Room := { frames := 2, cells := 0, slots := 0, locals := 44 }
def w_queueWaiting : List Cond := .code y_queueWaiting b_queueWaiting 3 none :: wX
abbrev rm_queueWaiting : Room := { frames := 1, cells := 0, slots := 0, locals := 21 }
def w_takeFirstQueued : List Cond := .code y_takeFirstQueued b_takeFirstQueued 3 (some .int) :: wX
abbrev rm_takeFirstQueued : Room := { frames := 0, cells := 0, slots := 0, locals := 0 }
def w_performAction : List Cond := .code y_performAction b_performAction 2 none :: wX
abbrev rm_performAction : Room := { frames := 2, cells := 0, slots := 0, locals := 43 }
def w_m_thrown : List Cond := .code y_m_thrown b_m_thrown 1 (some .int) :: wM
abbrev rm_m_thrown : Room := { frames := 0, cells := 0, slots := 0, locals := 0 }
def w_m_isThing : List Cond := .code y_m_isThing b_m_isThing 2 (some .boolean) :: wM
abbrev rm_m_isThing : Room := { frames := 0, cells := 0, slots := 0, locals := 0 }
def w_m_isRoot : List Cond := .code y_m_isRoot b_m_isRoot 1 (some .boolean) :: wM
abbrev rm_m_isRoot : Room := { frames := 0, cells := 0, slots := 0, locals := 0 }
def w_m_isField : List Cond := .code y_m_isField b_m_isField 3 (some .boolean) :: wM
abbrev rm_m_isField : Room := { frames := 0, cells := 0, slots := 0, locals := 0 }
def w_m_freeCell : List Cond := .code y_m_freeCell b_m_freeCell 3 (some .int) :: wM
abbrev rm_m_freeCell : Room := { frames := 0, cells := 0, slots := 0, locals := 0 }
def w_m_make : List Cond := .code y_m_make b_m_make 3 (some .int) :: wM
abbrev rm_m_make : Room := { frames := 3, cells := 0, slots := 0, locals := 68 }
def w_m_lose : List Cond := .code y_m_lose b_m_lose 3 none :: wM
abbrev rm_m_lose : Room := { frames := 0, cells := 0, slots := 0, locals := 0 }
def w_m_set : List Cond := .code y_m_set b_m_set 4 none :: wM
abbrev rm_m_set : Room := { frames := 1, cells := 0, slots := 0, locals := 22 }
def w_m_get : List Cond := .code y_m_get b_m_get 3 (some .int) :: wM
abbrev rm_m_get : Room := { frames := 1, cells := 0, slots := 0, locals := 22 }
def w_m_entryOf : List Cond := .code y_m_entryOf b_m_entryOf 5 (some .int) :: wM
abbrev rm_m_entryOf : Room := { frames := 0, cells := 0, slots := 0, locals := 0 }
def w_m_dropEntry : List Cond := .code y_m_dropEntry b_m_dropEntry 4 none :: wM
abbrev rm_m_dropEntry : Room := { frames := 0, cells := 0, slots := 0, locals := 0 }
def w_m_put : List Cond := .code y_m_put b_m_put 6 (some .boolean) :: wM
abbrev rm_m_put : Room := { frames := 1, cells := 0, slots := 0, locals := 24 }
def w_m_isTable : List Cond := .code y_m_isTable b_m_isTable 3 (some .boolean) :: wM
abbrev rm_m_isTable : Room := { frames := 1, cells := 0, slots := 0, locals := 21 }
def w_m_find : List Cond := .code y_m_find b_m_find 4 (some .int) :: wM
abbrev rm_m_find : Room := { frames := 2, cells := 0, slots := 0, locals := 43 }
def w_m_remove : List Cond := .code y_m_remove b_m_remove 4 (some .boolean) :: wM
abbrev rm_m_remove : Room := { frames := 2, cells := 0, slots := 0, locals := 43 }
def w_m_key : List Cond := .code y_m_key b_m_key 3 (some .int) :: wM
abbrev rm_m_key : Room := { frames := 1, cells := 0, slots := 0, locals := 21 }
def w_m_root : List Cond := .code y_m_root b_m_root 3 none :: wM
abbrev rm_m_root : Room := { frames := 1, cells := 0, slots := 0, locals := 21 }
def w_m_rootAt : List Cond := .code y_m_rootAt b_m_rootAt 2 (some .int) :: wM
abbrev rm_m_rootAt : Room := { frames := 1, cells := 0, slots := 0, locals := 20 }
def w_m_guard : List Cond := .code y_m_guard b_m_guard 4 none :: wM
abbrev rm_m_guard : Room := { frames := 1, cells := 0, slots := 0, locals := 21 }
def w_m_close : List Cond := .code y_m_close b_m_close 4 none :: wM
abbrev rm_m_close : Room := { frames := 1, cells := 0, slots := 0, locals := 21 }
def w_m_add : List Cond := .code y_m_add b_m_add 2 (some .boolean) :: wM
abbrev rm_m_add : Room := { frames := 0, cells := 0, slots := 0, locals := 0 }
def w_m_forget : List Cond := .code y_m_forget b_m_forget 4 none :: wM
abbrev rm_m_forget : Room := { frames := 1, cells := 0, slots := 0, locals := 23 }
def w_m_gather : List Cond := .code y_m_gather b_m_gather 3 (some .int) :: wM
abbrev rm_m_gather : Room := { frames := 2, cells := 0, slots := 0, locals := 46 }
def w_m_collect : List Cond := .code y_m_collect b_m_collect 1 (some .int) :: wM
abbrev rm_m_collect : Room := { frames := 3, cells := 0, slots := 0, locals := 68 }
def w_m_run : List Cond := .code y_m_run b_m_run 3 (some .int) :: wM
abbrev rm_m_run : Room := { frames := 1, cells := 0, slots := 0, locals := 22 }
def w_m_queued : List Cond := .code y_m_queued b_m_queued 1 (some .int) :: wM
abbrev rm_m_queued : Room := { frames := 0, cells := 0, slots := 0, locals := 0 }
def w_m_used : List Cond := .code y_m_used b_m_used 3 (some .int) :: wM
abbrev rm_m_used : Room := { frames := 0, cells := 0, slots := 0, locals := 0 }
def w_m_kind : List Cond := .code y_m_kind b_m_kind 2 (some .int) :: wM
abbrev rm_m_kind : Room := { frames := 1, cells := 0, slots := 0, locals := 21 }
def w_m_serial : List Cond := .code y_m_serial b_m_serial 2 (some .int) :: wM
abbrev rm_m_serial : Room := { frames := 1, cells := 0, slots := 0, locals := 21 }
def w_m_collections : List Cond := .code y_m_collections b_m_collections 1 (some .int) :: wM
abbrev rm_m_collections : Room := { frames := 0, cells := 0, slots := 0, locals := 0 }
def w_bitCount : List Cond := .code y_bitCount b_bitCount 1 (some .int) :: wX
abbrev rm_bitCount : Room := { frames := 0, cells := 0, slots := 0, locals := 0 }
theorem at_IllegalArgumentException (c0 : Cond) : ∀ w ∈ wT_IllegalArgumentException, (w ∈ c0 :: wX ∨ zWk w = true) ∧ (w.onTables || goodWord w) = true := by
  have h : wT_IllegalArgumentException.all (fun w => (goodWord w || zWk w) && (w.onTables || goodWord w)) = true := by decide +kernel
  intro w hw
  have h1 := List.all_eq_true.mp h w hw
  rw [Bool.and_eq_true, Bool.or_eq_true] at h1
  refine ⟨h1.1.imp (fun hg => List.mem_cons_of_mem _ (List.mem_append_right _ (List.mem_append_right _ (List.mem_filter.mpr ⟨?_, hg⟩)))) id, h1.2⟩
  simp only [List.mem_append]; simp [hw]
theorem at_IllegalStateException (c0 : Cond) : ∀ w ∈ wT_IllegalStateException, (w ∈ c0 :: wX ∨ zWk w = true) ∧ (w.onTables || goodWord w) = true := by
  have h : wT_IllegalStateException.all (fun w => (goodWord w || zWk w) && (w.onTables || goodWord w)) = true := by decide +kernel
  intro w hw
  have h1 := List.all_eq_true.mp h w hw
  rw [Bool.and_eq_true, Bool.or_eq_true] at h1
  refine ⟨h1.1.imp (fun hg => List.mem_cons_of_mem _ (List.mem_append_right _ (List.mem_append_right _ (List.mem_filter.mpr ⟨?_, hg⟩)))) id, h1.2⟩
  simp only [List.mem_append]; simp [hw]
theorem at_IndexOutOfBoundsException (c0 : Cond) : ∀ w ∈ wT_IndexOutOfBoundsException, (w ∈ c0 :: wX ∨ zWk w = true) ∧ (w.onTables || goodWord w) = true := by
  have h : wT_IndexOutOfBoundsException.all (fun w => (goodWord w || zWk w) && (w.onTables || goodWord w)) = true := by decide +kernel
  intro w hw
  have h1 := List.all_eq_true.mp h w hw
  rw [Bool.and_eq_true, Bool.or_eq_true] at h1
  refine ⟨h1.1.imp (fun hg => List.mem_cons_of_mem _ (List.mem_append_right _ (List.mem_append_right _ (List.mem_filter.mpr ⟨?_, hg⟩)))) id, h1.2⟩
  simp only [List.mem_append]; simp [hw]
theorem at_NoSuchElementException (c0 : Cond) : ∀ w ∈ wT_NoSuchElementException, (w ∈ c0 :: wX ∨ zWk w = true) ∧ (w.onTables || goodWord w) = true := by
  have h : wT_NoSuchElementException.all (fun w => (goodWord w || zWk w) && (w.onTables || goodWord w)) = true := by decide +kernel
  intro w hw
  have h1 := List.all_eq_true.mp h w hw
  rw [Bool.and_eq_true, Bool.or_eq_true] at h1
  refine ⟨h1.1.imp (fun hg => List.mem_cons_of_mem _ (List.mem_append_right _ (List.mem_append_right _ (List.mem_filter.mpr ⟨?_, hg⟩)))) id, h1.2⟩
  simp only [List.mem_append]; simp [hw]
theorem st_45 : (R_X, 45, "no such kind") ∈ zStrs := List.mem_of_getElem? (i := 0) rfl
theorem st_59 : (R_X, 59, "no cell is free") ∈ zStrs := List.mem_of_getElem? (i := 1) rfl
theorem st_160 : (R_X, 160, "no thing in this cell") ∈ zStrs := List.mem_of_getElem? (i := 2) rfl
theorem st_165 : (R_X, 165, "no such field") ∈ zStrs := List.mem_of_getElem? (i := 3) rfl
theorem st_167 : (R_X, 167, "no table") ∈ zStrs := List.mem_of_getElem? (i := 4) rfl
theorem st_89 : (R_X, 89, "the table is full") ∈ zStrs := List.mem_of_getElem? (i := 5) rfl
theorem st_100 : (R_X, 100, "no such entry") ∈ zStrs := List.mem_of_getElem? (i := 6) rfl
theorem st_169 : (R_X, 169, "no such root") ∈ zStrs := List.mem_of_getElem? (i := 7) rfl
theorem st_106 : (R_X, 106, "no such action") ∈ zStrs := List.mem_of_getElem? (i := 8) rfl
theorem st_108 : (R_X, 108, "the thing has a finaliser") ∈ zStrs := List.mem_of_getElem? (i := 9) rfl
theorem st_143 : (R_X, 143, "the queue is empty") ∈ zStrs := List.mem_of_getElem? (i := 10) rfl
theorem ok_leastFreeCell (c0 : Cond) : okV (c0 :: wX) R_X 50 R_X y_leastFreeCell b_leastFreeCell 2 (some .int) w_leastFreeCell 0 := ⟨goodC good_X c0 (fun w hw => by
    rcases List.mem_append.mp hw with h | h
    · rcases List.mem_cons.mp h with e | h
      · rw [e]; exact (inX_0 (List.mem_of_getElem? (i := 16) rfl))
      · rcases List.mem_cons.mp h with e | h
        · rw [e]; exact (inX_0 (List.mem_of_getElem? (i := 17) rfl))
        · rcases List.mem_cons.mp h with e | h
          · rw [e]; exact (inX_0 (List.mem_of_getElem? (i := 18) rfl))
          · rcases List.mem_cons.mp h with e | h
            · rw [e]; exact inX_0 (List.mem_of_getElem? (i := 0) rfl)
            · cases h
    · exact (fun w hw => (List.mem_cons.mp hw).elim (fun e => e ▸ (inX_0 (List.mem_of_getElem? (i := 19) rfl))) id) w h), ⟨_, rfl⟩, by decide, by decide, by decide, by decide +kernel⟩
theorem ok_collect (c0 : Cond) : okV (c0 :: wX) R_X 54 R_X y_collect b_collect 4 (some .int) w_collect 0 := ⟨goodC good_X c0 (fun w hw => by
    rcases List.mem_append.mp hw with h | h
    · rcases List.mem_cons.mp h with e | h
      · rw [e]; exact (inX_0 (List.mem_of_getElem? (i := 20) rfl))
      · rcases List.mem_cons.mp h with e | h
        · rw [e]; exact (inX_0 (List.mem_of_getElem? (i := 21) rfl))
        · rcases List.mem_cons.mp h with e | h
          · rw [e]; exact (inX_0 (List.mem_of_getElem? (i := 22) rfl))
          · rcases List.mem_cons.mp h with e | h
            · rw [e]; exact inX_0 (List.mem_of_getElem? (i := 0) rfl)
            · cases h
    · exact (fun w hw => (List.mem_cons.mp hw).elim (fun e => e ▸ (inX_0 (List.mem_of_getElem? (i := 23) rfl))) id) w h), ⟨_, rfl⟩, by decide, by decide, by decide, by decide +kernel⟩
theorem ok_placeThing (c0 : Cond) : okV (c0 :: wX) R_X 62 R_X y_placeThing b_placeThing 3 none w_placeThing 2 := ⟨goodC good_X c0 (fun w hw => by
    rcases List.mem_append.mp hw with h | h
    · rcases List.mem_cons.mp h with e | h
      · rw [e]; exact (inX_0 (List.mem_of_getElem? (i := 24) rfl))
      · rcases List.mem_cons.mp h with e | h
        · rw [e]; exact (inX_0 (List.mem_of_getElem? (i := 25) rfl))
        · rcases List.mem_cons.mp h with e | h
          · rw [e]; exact (inX_0 (List.mem_of_getElem? (i := 26) rfl))
          · rcases List.mem_cons.mp h with e | h
            · rw [e]; exact inX_0 (List.mem_of_getElem? (i := 0) rfl)
            · cases h
    · exact (fun w hw => (List.mem_cons.mp hw).elim (fun e => e ▸ (inX_0 (List.mem_of_getElem? (i := 27) rfl))) id) w h), ⟨_, rfl⟩, by decide, by decide, by decide, by decide +kernel⟩
theorem ok_requireThing (c0 : Cond) : okV (c0 :: wX) R_X 66 R_X y_requireThing b_requireThing 2 none w_requireThing 1 := ⟨goodC good_X c0 (fun w hw => by
    rcases List.mem_append.mp hw with h | h
    · rcases List.mem_cons.mp h with e | h
      · rw [e]; exact (inX_0 (List.mem_of_getElem? (i := 28) rfl))
      · rcases List.mem_cons.mp h with e | h
        · rw [e]; exact (inX_0 (List.mem_of_getElem? (i := 29) rfl))
        · rcases List.mem_cons.mp h with e | h
          · rw [e]; exact (inX_0 (List.mem_of_getElem? (i := 30) rfl))
          · rcases List.mem_cons.mp h with e | h
            · rw [e]; exact inX_0 (List.mem_of_getElem? (i := 0) rfl)
            · cases h
    · exact (fun w hw => (List.mem_cons.mp hw).elim (fun e => e ▸ (inX_0 (List.mem_of_getElem? (i := 31) rfl))) id) w h), ⟨_, rfl⟩, by decide, by decide, by decide, by decide +kernel⟩
theorem ok_requireThingOrNone (c0 : Cond) : okV (c0 :: wX) R_X 70 R_X y_requireThingOrNone b_requireThingOrNone 2 none w_requireThingOrNone 1 := ⟨goodC good_X c0 (fun w hw => by
    rcases List.mem_append.mp hw with h | h
    · rcases List.mem_cons.mp h with e | h
      · rw [e]; exact (inX_0 (List.mem_of_getElem? (i := 32) rfl))
      · rcases List.mem_cons.mp h with e | h
        · rw [e]; exact (inX_0 (List.mem_of_getElem? (i := 33) rfl))
        · rcases List.mem_cons.mp h with e | h
          · rw [e]; exact (inX_0 (List.mem_of_getElem? (i := 34) rfl))
          · rcases List.mem_cons.mp h with e | h
            · rw [e]; exact inX_0 (List.mem_of_getElem? (i := 0) rfl)
            · cases h
    · exact (fun w hw => (List.mem_cons.mp hw).elim (fun e => e ▸ (inX_0 (List.mem_of_getElem? (i := 35) rfl))) id) w h), ⟨_, rfl⟩, by decide, by decide, by decide, by decide +kernel⟩
theorem ok_requireField (c0 : Cond) : okV (c0 :: wX) R_X 73 R_X y_requireField b_requireField 3 none w_requireField 2 := ⟨goodC good_X c0 (fun w hw => by
    rcases List.mem_append.mp hw with h | h
    · rcases List.mem_cons.mp h with e | h
      · rw [e]; exact (inX_0 (List.mem_of_getElem? (i := 36) rfl))
      · rcases List.mem_cons.mp h with e | h
        · rw [e]; exact (inX_0 (List.mem_of_getElem? (i := 37) rfl))
        · rcases List.mem_cons.mp h with e | h
          · rw [e]; exact (inX_0 (List.mem_of_getElem? (i := 38) rfl))
          · rcases List.mem_cons.mp h with e | h
            · rw [e]; exact inX_0 (List.mem_of_getElem? (i := 0) rfl)
            · cases h
    · exact (fun w hw => (List.mem_cons.mp hw).elim (fun e => e ▸ (inX_0 (List.mem_of_getElem? (i := 39) rfl))) id) w h), ⟨_, rfl⟩, by decide, by decide, by decide, by decide +kernel⟩
theorem ok_fieldSlot (c0 : Cond) : okS (c0 :: wX) R_X 76 y_fieldSlot 2 w_fieldSlot 2 := ⟨goodC good_X c0 (fun w hw => (List.mem_cons.mp hw).elim (fun e => e ▸ (inX_0 (List.mem_of_getElem? (i := 42) rfl))) id), z_code rfl, List.mem_cons_of_mem _ (inX_0 (List.mem_of_getElem? (i := 40) rfl)), List.mem_cons_of_mem _ (inX_0 (List.mem_of_getElem? (i := 41) rfl)), List.mem_cons_of_mem _ (inX_0 (List.mem_of_getElem? (i := 0) rfl)), by decide, by decide, by decide +kernel⟩
theorem ok_requireTable (c0 : Cond) : okV (c0 :: wX) R_X 80 R_X y_requireTable b_requireTable 2 none w_requireTable 1 := ⟨goodC good_X c0 (fun w hw => by
    rcases List.mem_append.mp hw with h | h
    · rcases List.mem_cons.mp h with e | h
      · rw [e]; exact (inX_0 (List.mem_of_getElem? (i := 43) rfl))
      · rcases List.mem_cons.mp h with e | h
        · rw [e]; exact (inX_0 (List.mem_of_getElem? (i := 44) rfl))
        · rcases List.mem_cons.mp h with e | h
          · rw [e]; exact (inX_0 (List.mem_of_getElem? (i := 45) rfl))
          · rcases List.mem_cons.mp h with e | h
            · rw [e]; exact inX_0 (List.mem_of_getElem? (i := 0) rfl)
            · cases h
    · exact (fun w hw => (List.mem_cons.mp hw).elim (fun e => e ▸ (inX_0 (List.mem_of_getElem? (i := 46) rfl))) id) w h), ⟨_, rfl⟩, by decide, by decide, by decide, by decide +kernel⟩
theorem ok_entryOf (c0 : Cond) : okV (c0 :: wX) R_X 83 R_X y_entryOf b_entryOf 4 (some .int) w_entryOf 2 := ⟨goodC good_X c0 (fun w hw => by
    rcases List.mem_append.mp hw with h | h
    · rcases List.mem_cons.mp h with e | h
      · rw [e]; exact (inX_0 (List.mem_of_getElem? (i := 47) rfl))
      · rcases List.mem_cons.mp h with e | h
        · rw [e]; exact (inX_0 (List.mem_of_getElem? (i := 48) rfl))
        · rcases List.mem_cons.mp h with e | h
          · rw [e]; exact (inX_0 (List.mem_of_getElem? (i := 49) rfl))
          · rcases List.mem_cons.mp h with e | h
            · rw [e]; exact inX_0 (List.mem_of_getElem? (i := 0) rfl)
            · cases h
    · exact (fun w hw => (List.mem_cons.mp hw).elim (fun e => e ▸ (inX_0 (List.mem_of_getElem? (i := 50) rfl))) id) w h), ⟨_, rfl⟩, by decide, by decide, by decide, by decide +kernel⟩
theorem ok_entrySlot (c0 : Cond) : okS (c0 :: wX) R_X 86 y_entrySlot 2 w_entrySlot 2 := ⟨goodC good_X c0 (fun w hw => (List.mem_cons.mp hw).elim (fun e => e ▸ (inX_0 (List.mem_of_getElem? (i := 53) rfl))) id), z_code rfl, List.mem_cons_of_mem _ (inX_0 (List.mem_of_getElem? (i := 51) rfl)), List.mem_cons_of_mem _ (inX_0 (List.mem_of_getElem? (i := 52) rfl)), List.mem_cons_of_mem _ (inX_0 (List.mem_of_getElem? (i := 0) rfl)), by decide, by decide, by decide +kernel⟩
theorem ok_appendEntry (c0 : Cond) : okV (c0 :: wX) R_X 91 R_X y_appendEntry b_appendEntry 5 none w_appendEntry 3 := ⟨goodC good_X c0 (fun w hw => by
    rcases List.mem_append.mp hw with h | h
    · rcases List.mem_cons.mp h with e | h
      · rw [e]; exact (inX_0 (List.mem_of_getElem? (i := 54) rfl))
      · rcases List.mem_cons.mp h with e | h
        · rw [e]; exact (inX_0 (List.mem_of_getElem? (i := 55) rfl))
        · rcases List.mem_cons.mp h with e | h
          · rw [e]; exact (inX_0 (List.mem_of_getElem? (i := 56) rfl))
          · rcases List.mem_cons.mp h with e | h
            · rw [e]; exact inX_0 (List.mem_of_getElem? (i := 0) rfl)
            · cases h
    · exact (fun w hw => (List.mem_cons.mp hw).elim (fun e => e ▸ (inX_0 (List.mem_of_getElem? (i := 57) rfl))) id) w h), ⟨_, rfl⟩, by decide, by decide, by decide, by decide +kernel⟩
theorem ok_dropEntry (c0 : Cond) : okV (c0 :: wX) R_X 95 R_X y_dropEntry b_dropEntry 5 none w_dropEntry 2 := ⟨goodC good_X c0 (fun w hw => by
    rcases List.mem_append.mp hw with h | h
    · rcases List.mem_cons.mp h with e | h
      · rw [e]; exact (inX_0 (List.mem_of_getElem? (i := 58) rfl))
      · rcases List.mem_cons.mp h with e | h
        · rw [e]; exact (inX_0 (List.mem_of_getElem? (i := 59) rfl))
        · rcases List.mem_cons.mp h with e | h
          · rw [e]; exact (inX_0 (List.mem_of_getElem? (i := 60) rfl))
          · rcases List.mem_cons.mp h with e | h
            · rw [e]; exact inX_0 (List.mem_of_getElem? (i := 0) rfl)
            · cases h
    · exact (fun w hw => (List.mem_cons.mp hw).elim (fun e => e ▸ (inX_0 (List.mem_of_getElem? (i := 61) rfl))) id) w h), ⟨_, rfl⟩, by decide, by decide, by decide, by decide +kernel⟩
theorem ok_requireRoot (c0 : Cond) : okV (c0 :: wX) R_X 103 R_X y_requireRoot b_requireRoot 2 none w_requireRoot 1 := ⟨goodC good_X c0 (fun w hw => by
    rcases List.mem_append.mp hw with h | h
    · rcases List.mem_cons.mp h with e | h
      · rw [e]; exact (inX_0 (List.mem_of_getElem? (i := 62) rfl))
      · rcases List.mem_cons.mp h with e | h
        · rw [e]; exact (inX_0 (List.mem_of_getElem? (i := 63) rfl))
        · rcases List.mem_cons.mp h with e | h
          · rw [e]; exact (inX_0 (List.mem_of_getElem? (i := 64) rfl))
          · rcases List.mem_cons.mp h with e | h
            · rw [e]; exact inX_0 (List.mem_of_getElem? (i := 0) rfl)
            · cases h
    · exact (fun w hw => (List.mem_cons.mp hw).elim (fun e => e ▸ (inX_0 (List.mem_of_getElem? (i := 65) rfl))) id) w h), ⟨_, rfl⟩, by decide, by decide, by decide, by decide +kernel⟩
theorem ok_thingsInRoots (c0 : Cond) : okV (c0 :: wX) R_X 114 R_X y_thingsInRoots b_thingsInRoots 3 (some .int) w_thingsInRoots 0 := ⟨goodC good_X c0 (fun w hw => by
    rcases List.mem_append.mp hw with h | h
    · rcases List.mem_cons.mp h with e | h
      · rw [e]; exact (inX_0 (List.mem_of_getElem? (i := 66) rfl))
      · rcases List.mem_cons.mp h with e | h
        · rw [e]; exact (inX_0 (List.mem_of_getElem? (i := 67) rfl))
        · rcases List.mem_cons.mp h with e | h
          · rw [e]; exact (inX_0 (List.mem_of_getElem? (i := 68) rfl))
          · rcases List.mem_cons.mp h with e | h
            · rw [e]; exact inX_0 (List.mem_of_getElem? (i := 0) rfl)
            · cases h
    · exact (fun w hw => (List.mem_cons.mp hw).elim (fun e => e ▸ (inX_0 (List.mem_of_getElem? (i := 69) rfl))) id) w h), ⟨_, rfl⟩, by decide, by decide, by decide, by decide +kernel⟩
theorem ok_closureOf (c0 : Cond) : okV (c0 :: wX) R_X 117 R_X y_closureOf b_closureOf 5 (some .int) w_closureOf 1 := ⟨goodC good_X c0 (fun w hw => by
    rcases List.mem_append.mp hw with h | h
    · rcases List.mem_cons.mp h with e | h
      · rw [e]; exact (inX_0 (List.mem_of_getElem? (i := 70) rfl))
      · rcases List.mem_cons.mp h with e | h
        · rw [e]; exact (inX_0 (List.mem_of_getElem? (i := 71) rfl))
        · rcases List.mem_cons.mp h with e | h
          · rw [e]; exact (inX_0 (List.mem_of_getElem? (i := 72) rfl))
          · rcases List.mem_cons.mp h with e | h
            · rw [e]; exact inX_0 (List.mem_of_getElem? (i := 0) rfl)
            · cases h
    · exact (fun w hw => (List.mem_cons.mp hw).elim (fun e => e ▸ (inX_0 (List.mem_of_getElem? (i := 73) rfl))) id) w h), ⟨_, rfl⟩, by decide, by decide, by decide, by decide +kernel⟩
theorem ok_forgetOutside (c0 : Cond) : okV (c0 :: wX) R_X 121 R_X y_forgetOutside b_forgetOutside 3 none w_forgetOutside 1 := ⟨goodC good_X c0 (fun w hw => by
    rcases List.mem_append.mp hw with h | h
    · rcases List.mem_cons.mp h with e | h
      · rw [e]; exact (inX_0 (List.mem_of_getElem? (i := 74) rfl))
      · rcases List.mem_cons.mp h with e | h
        · rw [e]; exact (inX_0 (List.mem_of_getElem? (i := 75) rfl))
        · rcases List.mem_cons.mp h with e | h
          · rw [e]; exact (inX_0 (List.mem_of_getElem? (i := 76) rfl))
          · rcases List.mem_cons.mp h with e | h
            · rw [e]; exact inX_0 (List.mem_of_getElem? (i := 0) rfl)
            · cases h
    · exact (fun w hw => (List.mem_cons.mp hw).elim (fun e => e ▸ (inX_0 (List.mem_of_getElem? (i := 77) rfl))) id) w h), ⟨_, rfl⟩, by decide, by decide, by decide, by decide +kernel⟩
theorem ok_queueWaiting (c0 : Cond) : okV (c0 :: wX) R_X 127 R_X y_queueWaiting b_queueWaiting 3 none w_queueWaiting 1 := ⟨goodC good_X c0 (fun w hw => by
    rcases List.mem_append.mp hw with h | h
    · rcases List.mem_cons.mp h with e | h
      · rw [e]; exact (inX_0 (List.mem_of_getElem? (i := 78) rfl))
      · rcases List.mem_cons.mp h with e | h
        · rw [e]; exact (inX_0 (List.mem_of_getElem? (i := 79) rfl))
        · rcases List.mem_cons.mp h with e | h
          · rw [e]; exact (inX_0 (List.mem_of_getElem? (i := 80) rfl))
          · rcases List.mem_cons.mp h with e | h
            · rw [e]; exact inX_0 (List.mem_of_getElem? (i := 0) rfl)
            · cases h
    · exact (fun w hw => (List.mem_cons.mp hw).elim (fun e => e ▸ (inX_0 (List.mem_of_getElem? (i := 81) rfl))) id) w h), ⟨_, rfl⟩, by decide, by decide, by decide, by decide +kernel⟩
theorem ok_thingsInQueue (c0 : Cond) : okV (c0 :: wX) R_X 130 R_X y_thingsInQueue b_thingsInQueue 3 (some .int) w_thingsInQueue 0 := ⟨goodC good_X c0 (fun w hw => by
    rcases List.mem_append.mp hw with h | h
    · rcases List.mem_cons.mp h with e | h
      · rw [e]; exact (inX_0 (List.mem_of_getElem? (i := 82) rfl))
      · rcases List.mem_cons.mp h with e | h
        · rw [e]; exact (inX_0 (List.mem_of_getElem? (i := 83) rfl))
        · rcases List.mem_cons.mp h with e | h
          · rw [e]; exact (inX_0 (List.mem_of_getElem? (i := 84) rfl))
          · rcases List.mem_cons.mp h with e | h
            · rw [e]; exact inX_0 (List.mem_of_getElem? (i := 0) rfl)
            · cases h
    · exact (fun w hw => (List.mem_cons.mp hw).elim (fun e => e ▸ (inX_0 (List.mem_of_getElem? (i := 85) rfl))) id) w h), ⟨_, rfl⟩, by decide, by decide, by decide, by decide +kernel⟩
theorem ok_bitCount (c0 : Cond) : okS (c0 :: wX) R_X 133 y_bitCount 1 w_bitCount 1 := ⟨goodC good_X c0 (fun w hw => (List.mem_cons.mp hw).elim (fun e => e ▸ (inX_0 (List.mem_of_getElem? (i := 89) rfl))) id), z_code rfl, List.mem_cons_of_mem _ (inX_0 (List.mem_of_getElem? (i := 86) rfl)), List.mem_cons_of_mem _ (inX_0 (List.mem_of_getElem? (i := 87) rfl)), List.mem_cons_of_mem _ (inX_0 (List.mem_of_getElem? (i := 88) rfl)), by decide, by decide, by decide +kernel⟩
theorem ok_takeFirstQueued (c0 : Cond) : okV (c0 :: wX) R_X 146 R_X y_takeFirstQueued b_takeFirstQueued 3 (some .int) w_takeFirstQueued 0 := ⟨goodC good_X c0 (fun w hw => by
    rcases List.mem_append.mp hw with h | h
    · rcases List.mem_cons.mp h with e | h
      · rw [e]; exact (inX_0 (List.mem_of_getElem? (i := 93) rfl))
      · rcases List.mem_cons.mp h with e | h
        · rw [e]; exact (inX_0 (List.mem_of_getElem? (i := 94) rfl))
        · rcases List.mem_cons.mp h with e | h
          · rw [e]; exact (inX_0 (List.mem_of_getElem? (i := 95) rfl))
          · rcases List.mem_cons.mp h with e | h
            · rw [e]; exact inX_0 (List.mem_of_getElem? (i := 0) rfl)
            · cases h
    · exact (fun w hw => (List.mem_cons.mp hw).elim (fun e => e ▸ (inX_0 (List.mem_of_getElem? (i := 96) rfl))) id) w h), ⟨_, rfl⟩, by decide, by decide, by decide, by decide +kernel⟩
theorem ok_performAction (c0 : Cond) : okV (c0 :: wX) R_X 149 R_X y_performAction b_performAction 2 none w_performAction 1 := ⟨goodC good_X c0 (fun w hw => by
    rcases List.mem_append.mp hw with h | h
    · rcases List.mem_cons.mp h with e | h
      · rw [e]; exact (inX_0 (List.mem_of_getElem? (i := 97) rfl))
      · rcases List.mem_cons.mp h with e | h
        · rw [e]; exact (inX_0 (List.mem_of_getElem? (i := 98) rfl))
        · rcases List.mem_cons.mp h with e | h
          · rw [e]; exact (inX_0 (List.mem_of_getElem? (i := 99) rfl))
          · rcases List.mem_cons.mp h with e | h
            · rw [e]; exact inX_0 (List.mem_of_getElem? (i := 0) rfl)
            · cases h
    · exact (fun w hw => (List.mem_cons.mp hw).elim (fun e => e ▸ (inX_0 (List.mem_of_getElem? (i := 100) rfl))) id) w h), ⟨_, rfl⟩, by decide, by decide, by decide, by decide +kernel⟩
theorem ok_contains (c0 : Cond) : okS (c0 :: wX) R_X 152 y_contains 2 w_contains 2 := ⟨goodC good_X c0 (fun w hw => (List.mem_cons.mp hw).elim (fun e => e ▸ (inX_0 (List.mem_of_getElem? (i := 103) rfl))) id), z_code rfl, List.mem_cons_of_mem _ (inX_0 (List.mem_of_getElem? (i := 101) rfl)), List.mem_cons_of_mem _ (inX_0 (List.mem_of_getElem? (i := 102) rfl)), List.mem_cons_of_mem _ (inX_0 (List.mem_of_getElem? (i := 0) rfl)), by decide, by decide, by decide +kernel⟩
theorem ok_hasThing (c0 : Cond) : okV (c0 :: wX) R_X 156 R_X y_hasThing b_hasThing 2 (some .boolean) w_hasThing 1 := ⟨goodC good_X c0 (fun w hw => by
    rcases List.mem_append.mp hw with h | h
    · rcases List.mem_cons.mp h with e | h
      · rw [e]; exact (inX_0 (List.mem_of_getElem? (i := 104) rfl))
      · rcases List.mem_cons.mp h with e | h
        · rw [e]; exact (inX_0 (List.mem_of_getElem? (i := 105) rfl))
        · rcases List.mem_cons.mp h with e | h
          · rw [e]; exact (inX_0 (List.mem_of_getElem? (i := 106) rfl))
          · rcases List.mem_cons.mp h with e | h
            · rw [e]; exact inX_0 (List.mem_of_getElem? (i := 0) rfl)
            · cases h
    · exact (fun w hw => (List.mem_cons.mp hw).elim (fun e => e ▸ (inX_0 (List.mem_of_getElem? (i := 107) rfl))) id) w h), ⟨_, rfl⟩, by decide, by decide, by decide, by decide +kernel⟩
theorem ok_fieldCount (c0 : Cond) : okS (c0 :: wX) R_X 162 y_fieldCount 1 w_fieldCount 1 := ⟨goodC good_X c0 (fun w hw => (List.mem_cons.mp hw).elim (fun e => e ▸ (inX_0 (List.mem_of_getElem? (i := 110) rfl))) id), z_code rfl, List.mem_cons_of_mem _ (inX_0 (List.mem_of_getElem? (i := 108) rfl)), List.mem_cons_of_mem _ (inX_0 (List.mem_of_getElem? (i := 109) rfl)), List.mem_cons_of_mem _ (inX_0 (List.mem_of_getElem? (i := 0) rfl)), by decide, by decide, by decide +kernel⟩
theorem ok_emptyThing (c0 : Cond) : okV (c0 :: wX) R_X 174 R_X y_emptyThing b_emptyThing 3 none w_emptyThing 1 := ⟨goodC good_X c0 (fun w hw => by
    rcases List.mem_append.mp hw with h | h
    · rcases List.mem_cons.mp h with e | h
      · rw [e]; exact (inX_0 (List.mem_of_getElem? (i := 111) rfl))
      · rcases List.mem_cons.mp h with e | h
        · rw [e]; exact (inX_0 (List.mem_of_getElem? (i := 112) rfl))
        · rcases List.mem_cons.mp h with e | h
          · rw [e]; exact (inX_0 (List.mem_of_getElem? (i := 113) rfl))
          · rcases List.mem_cons.mp h with e | h
            · rw [e]; exact inX_0 (List.mem_of_getElem? (i := 0) rfl)
            · cases h
    · exact (fun w hw => (List.mem_cons.mp hw).elim (fun e => e ▸ (inX_0 (List.mem_of_getElem? (i := 114) rfl))) id) w h), ⟨_, rfl⟩, by decide, by decide, by decide, by decide +kernel⟩
theorem ok_copyEntry (c0 : Cond) : okV (c0 :: wX) R_X 177 R_X y_copyEntry b_copyEntry 4 none w_copyEntry 3 := ⟨goodC good_X c0 (fun w hw => by
    rcases List.mem_append.mp hw with h | h
    · rcases List.mem_cons.mp h with e | h
      · rw [e]; exact (inX_0 (List.mem_of_getElem? (i := 115) rfl))
      · rcases List.mem_cons.mp h with e | h
        · rw [e]; exact (inX_0 (List.mem_of_getElem? (i := 116) rfl))
        · rcases List.mem_cons.mp h with e | h
          · rw [e]; exact (inX_0 (List.mem_of_getElem? (i := 117) rfl))
          · rcases List.mem_cons.mp h with e | h
            · rw [e]; exact inX_0 (List.mem_of_getElem? (i := 0) rfl)
            · cases h
    · exact (fun w hw => (List.mem_cons.mp hw).elim (fun e => e ▸ (inX_0 (List.mem_of_getElem? (i := 118) rfl))) id) w h), ⟨_, rfl⟩, by decide, by decide, by decide, by decide +kernel⟩
theorem ok_withThingsHeld (c0 : Cond) : okV (c0 :: wX) R_X 180 R_X y_withThingsHeld b_withThingsHeld 4 (some .int) w_withThingsHeld 1 := ⟨goodC good_X c0 (fun w hw => by
    rcases List.mem_append.mp hw with h | h
    · rcases List.mem_cons.mp h with e | h
      · rw [e]; exact (inX_0 (List.mem_of_getElem? (i := 119) rfl))
      · rcases List.mem_cons.mp h with e | h
        · rw [e]; exact (inX_0 (List.mem_of_getElem? (i := 120) rfl))
        · rcases List.mem_cons.mp h with e | h
          · rw [e]; exact (inX_0 (List.mem_of_getElem? (i := 121) rfl))
          · rcases List.mem_cons.mp h with e | h
            · rw [e]; exact inX_0 (List.mem_of_getElem? (i := 0) rfl)
            · cases h
    · exact (fun w hw => (List.mem_cons.mp hw).elim (fun e => e ▸ (inX_0 (List.mem_of_getElem? (i := 122) rfl))) id) w h), ⟨_, rfl⟩, by decide, by decide, by decide, by decide +kernel⟩
theorem ok_thingsHeldBy (c0 : Cond) : okV (c0 :: wX) R_X 183 R_X y_thingsHeldBy b_thingsHeldBy 3 (some .int) w_thingsHeldBy 2 := ⟨goodC good_X c0 (fun w hw => by
    rcases List.mem_append.mp hw with h | h
    · rcases List.mem_cons.mp h with e | h
      · rw [e]; exact (inX_0 (List.mem_of_getElem? (i := 123) rfl))
      · rcases List.mem_cons.mp h with e | h
        · rw [e]; exact (inX_0 (List.mem_of_getElem? (i := 124) rfl))
        · rcases List.mem_cons.mp h with e | h
          · rw [e]; exact (inX_0 (List.mem_of_getElem? (i := 125) rfl))
          · rcases List.mem_cons.mp h with e | h
            · rw [e]; exact inX_0 (List.mem_of_getElem? (i := 0) rfl)
            · cases h
    · exact (fun w hw => (List.mem_cons.mp hw).elim (fun e => e ▸ (inX_0 (List.mem_of_getElem? (i := 126) rfl))) id) w h), ⟨_, rfl⟩, by decide, by decide, by decide, by decide +kernel⟩
theorem ok_thingsInFields (c0 : Cond) : okV (c0 :: wX) R_X 186 R_X y_thingsInFields b_thingsInFields 5 (some .int) w_thingsInFields 1 := ⟨goodC good_X c0 (fun w hw => by
    rcases List.mem_append.mp hw with h | h
    · rcases List.mem_cons.mp h with e | h
      · rw [e]; exact (inX_0 (List.mem_of_getElem? (i := 127) rfl))
      · rcases List.mem_cons.mp h with e | h
        · rw [e]; exact (inX_0 (List.mem_of_getElem? (i := 128) rfl))
        · rcases List.mem_cons.mp h with e | h
          · rw [e]; exact (inX_0 (List.mem_of_getElem? (i := 129) rfl))
          · rcases List.mem_cons.mp h with e | h
            · rw [e]; exact inX_0 (List.mem_of_getElem? (i := 0) rfl)
            · cases h
    · exact (fun w hw => (List.mem_cons.mp hw).elim (fun e => e ▸ (inX_0 (List.mem_of_getElem? (i := 130) rfl))) id) w h), ⟨_, rfl⟩, by decide, by decide, by decide, by decide +kernel⟩
theorem ok_valuesOfKeysIn (c0 : Cond) : okV (c0 :: wX) R_X 189 R_X y_valuesOfKeysIn b_valuesOfKeysIn 6 (some .int) w_valuesOfKeysIn 2 := ⟨goodC good_X c0 (fun w hw => by
    rcases List.mem_append.mp hw with h | h
    · rcases List.mem_cons.mp h with e | h
      · rw [e]; exact (inX_0 (List.mem_of_getElem? (i := 131) rfl))
      · rcases List.mem_cons.mp h with e | h
        · rw [e]; exact (inX_0 (List.mem_of_getElem? (i := 132) rfl))
        · rcases List.mem_cons.mp h with e | h
          · rw [e]; exact (inX_0 (List.mem_of_getElem? (i := 133) rfl))
          · rcases List.mem_cons.mp h with e | h
            · rw [e]; exact inX_0 (List.mem_of_getElem? (i := 0) rfl)
            · cases h
    · exact (fun w hw => (List.mem_cons.mp hw).elim (fun e => e ▸ (inX_0 (List.mem_of_getElem? (i := 134) rfl))) id) w h), ⟨_, rfl⟩, by decide, by decide, by decide, by decide +kernel⟩
theorem ok_forgetReferentOutside (c0 : Cond) : okV (c0 :: wX) R_X 192 R_X y_forgetReferentOutside b_forgetReferentOutside 4 none w_forgetReferentOutside 2 := ⟨goodC good_X c0 (fun w hw => by
    rcases List.mem_append.mp hw with h | h
    · rcases List.mem_cons.mp h with e | h
      · rw [e]; exact (inX_0 (List.mem_of_getElem? (i := 135) rfl))
      · rcases List.mem_cons.mp h with e | h
        · rw [e]; exact (inX_0 (List.mem_of_getElem? (i := 136) rfl))
        · rcases List.mem_cons.mp h with e | h
          · rw [e]; exact (inX_0 (List.mem_of_getElem? (i := 137) rfl))
          · rcases List.mem_cons.mp h with e | h
            · rw [e]; exact inX_0 (List.mem_of_getElem? (i := 0) rfl)
            · cases h
    · exact (fun w hw => (List.mem_cons.mp hw).elim (fun e => e ▸ (inX_0 (List.mem_of_getElem? (i := 138) rfl))) id) w h), ⟨_, rfl⟩, by decide, by decide, by decide, by decide +kernel⟩
theorem ok_forgetEntriesOutside (c0 : Cond) : okV (c0 :: wX) R_X 195 R_X y_forgetEntriesOutside b_forgetEntriesOutside 5 none w_forgetEntriesOutside 2 := ⟨goodC good_X c0 (fun w hw => by
    rcases List.mem_append.mp hw with h | h
    · rcases List.mem_cons.mp h with e | h
      · rw [e]; exact (inX_0 (List.mem_of_getElem? (i := 139) rfl))
      · rcases List.mem_cons.mp h with e | h
        · rw [e]; exact (inX_0 (List.mem_of_getElem? (i := 140) rfl))
        · rcases List.mem_cons.mp h with e | h
          · rw [e]; exact (inX_0 (List.mem_of_getElem? (i := 141) rfl))
          · rcases List.mem_cons.mp h with e | h
            · rw [e]; exact inX_0 (List.mem_of_getElem? (i := 0) rfl)
            · cases h
    · exact (fun w hw => (List.mem_cons.mp hw).elim (fun e => e ▸ (inX_0 (List.mem_of_getElem? (i := 142) rfl))) id) w h), ⟨_, rfl⟩, by decide, by decide, by decide, by decide +kernel⟩
theorem ok_m_freeCell (c0 : Cond) : okV (c0 :: wM) R_M 51 R_M y_m_freeCell b_m_freeCell 3 (some .int) w_m_freeCell 0 := ⟨goodC good_M c0 (fun w hw => by
    rcases List.mem_append.mp hw with h | h
    · rcases List.mem_cons.mp h with e | h
      · rw [e]; exact (inM_0 (List.mem_of_getElem? (i := 17) rfl))
      · rcases List.mem_cons.mp h with e | h
        · rw [e]; exact (inM_0 (List.mem_of_getElem? (i := 18) rfl))
        · rcases List.mem_cons.mp h with e | h
          · rw [e]; exact (inM_0 (List.mem_of_getElem? (i := 19) rfl))
          · rcases List.mem_cons.mp h with e | h
            · rw [e]; exact inM_0 (List.mem_of_getElem? (i := 0) rfl)
            · cases h
    · exact (fun w hw => (List.mem_cons.mp hw).elim (fun e => e ▸ (inM_0 (List.mem_of_getElem? (i := 20) rfl))) id) w h), ⟨_, rfl⟩, by decide, by decide, by decide, by decide +kernel⟩
theorem ok_m_gather (c0 : Cond) : okV (c0 :: wM) R_M 55 R_M y_m_gather b_m_gather 3 (some .int) w_m_gather 0 := ⟨goodC good_M c0 (fun w hw => by
    rcases List.mem_append.mp hw with h | h
    · rcases List.mem_cons.mp h with e | h
      · rw [e]; exact (inM_0 (List.mem_of_getElem? (i := 21) rfl))
      · rcases List.mem_cons.mp h with e | h
        · rw [e]; exact (inM_0 (List.mem_of_getElem? (i := 22) rfl))
        · rcases List.mem_cons.mp h with e | h
          · rw [e]; exact (inM_0 (List.mem_of_getElem? (i := 23) rfl))
          · rcases List.mem_cons.mp h with e | h
            · rw [e]; exact inM_0 (List.mem_of_getElem? (i := 0) rfl)
            · cases h
    · exact (fun w hw => (List.mem_cons.mp hw).elim (fun e => e ▸ (inM_0 (List.mem_of_getElem? (i := 24) rfl))) id) w h), ⟨_, rfl⟩, by decide, by decide, by decide, by decide +kernel⟩
theorem ok_m_lose (c0 : Cond) : okV (c0 :: wM) R_M 61 R_M y_m_lose b_m_lose 3 none w_m_lose 1 := ⟨goodC good_M c0 (fun w hw => by
    rcases List.mem_append.mp hw with h | h
    · rcases List.mem_cons.mp h with e | h
      · rw [e]; exact (inM_0 (List.mem_of_getElem? (i := 25) rfl))
      · rcases List.mem_cons.mp h with e | h
        · rw [e]; exact (inM_0 (List.mem_of_getElem? (i := 26) rfl))
        · rcases List.mem_cons.mp h with e | h
          · rw [e]; exact (inM_0 (List.mem_of_getElem? (i := 27) rfl))
          · rcases List.mem_cons.mp h with e | h
            · rw [e]; exact inM_0 (List.mem_of_getElem? (i := 0) rfl)
            · cases h
    · exact (fun w hw => (List.mem_cons.mp hw).elim (fun e => e ▸ (inM_0 (List.mem_of_getElem? (i := 28) rfl))) id) w h), ⟨_, rfl⟩, by decide, by decide, by decide, by decide +kernel⟩
theorem ok_m_isThing (c0 : Cond) : okV (c0 :: wM) R_M 65 R_M y_m_isThing b_m_isThing 2 (some .boolean) w_m_isThing 1 := ⟨goodC good_M c0 (fun w hw => by
    rcases List.mem_append.mp hw with h | h
    · rcases List.mem_cons.mp h with e | h
      · rw [e]; exact (inM_0 (List.mem_of_getElem? (i := 29) rfl))
      · rcases List.mem_cons.mp h with e | h
        · rw [e]; exact (inM_0 (List.mem_of_getElem? (i := 30) rfl))
        · rcases List.mem_cons.mp h with e | h
          · rw [e]; exact (inM_0 (List.mem_of_getElem? (i := 31) rfl))
          · rcases List.mem_cons.mp h with e | h
            · rw [e]; exact inM_0 (List.mem_of_getElem? (i := 0) rfl)
            · cases h
    · exact (fun w hw => (List.mem_cons.mp hw).elim (fun e => e ▸ (inM_0 (List.mem_of_getElem? (i := 32) rfl))) id) w h), ⟨_, rfl⟩, by decide, by decide, by decide, by decide +kernel⟩
theorem ok_m_isField (c0 : Cond) : okV (c0 :: wM) R_M 69 R_M y_m_isField b_m_isField 3 (some .boolean) w_m_isField 2 := ⟨goodC good_M c0 (fun w hw => by
    rcases List.mem_append.mp hw with h | h
    · rcases List.mem_cons.mp h with e | h
      · rw [e]; exact (inM_0 (List.mem_of_getElem? (i := 33) rfl))
      · rcases List.mem_cons.mp h with e | h
        · rw [e]; exact (inM_0 (List.mem_of_getElem? (i := 34) rfl))
        · rcases List.mem_cons.mp h with e | h
          · rw [e]; exact (inM_0 (List.mem_of_getElem? (i := 35) rfl))
          · rcases List.mem_cons.mp h with e | h
            · rw [e]; exact inM_0 (List.mem_of_getElem? (i := 0) rfl)
            · cases h
    · exact (fun w hw => (List.mem_cons.mp hw).elim (fun e => e ▸ (inM_0 (List.mem_of_getElem? (i := 36) rfl))) id) w h), ⟨_, rfl⟩, by decide, by decide, by decide, by decide +kernel⟩
theorem ok_m_entryOf (c0 : Cond) : okV (c0 :: wM) R_M 73 R_M y_m_entryOf b_m_entryOf 5 (some .int) w_m_entryOf 2 := ⟨goodC good_M c0 (fun w hw => by
    rcases List.mem_append.mp hw with h | h
    · rcases List.mem_cons.mp h with e | h
      · rw [e]; exact (inM_0 (List.mem_of_getElem? (i := 37) rfl))
      · rcases List.mem_cons.mp h with e | h
        · rw [e]; exact (inM_0 (List.mem_of_getElem? (i := 38) rfl))
        · rcases List.mem_cons.mp h with e | h
          · rw [e]; exact (inM_0 (List.mem_of_getElem? (i := 39) rfl))
          · rcases List.mem_cons.mp h with e | h
            · rw [e]; exact inM_0 (List.mem_of_getElem? (i := 0) rfl)
            · cases h
    · exact (fun w hw => (List.mem_cons.mp hw).elim (fun e => e ▸ (inM_0 (List.mem_of_getElem? (i := 40) rfl))) id) w h), ⟨_, rfl⟩, by decide, by decide, by decide, by decide +kernel⟩
theorem ok_m_isTable (c0 : Cond) : okV (c0 :: wM) R_M 77 R_M y_m_isTable b_m_isTable 3 (some .boolean) w_m_isTable 2 := ⟨goodC good_M c0 (fun w hw => by
    rcases List.mem_append.mp hw with h | h
    · rcases List.mem_cons.mp h with e | h
      · rw [e]; exact (inM_0 (List.mem_of_getElem? (i := 41) rfl))
      · rcases List.mem_cons.mp h with e | h
        · rw [e]; exact (inM_0 (List.mem_of_getElem? (i := 42) rfl))
        · rcases List.mem_cons.mp h with e | h
          · rw [e]; exact (inM_0 (List.mem_of_getElem? (i := 43) rfl))
          · rcases List.mem_cons.mp h with e | h
            · rw [e]; exact inM_0 (List.mem_of_getElem? (i := 0) rfl)
            · cases h
    · exact (fun w hw => (List.mem_cons.mp hw).elim (fun e => e ▸ (inM_0 (List.mem_of_getElem? (i := 44) rfl))) id) w h), ⟨_, rfl⟩, by decide, by decide, by decide, by decide +kernel⟩
theorem ok_m_dropEntry (c0 : Cond) : okV (c0 :: wM) R_M 80 R_M y_m_dropEntry b_m_dropEntry 4 none w_m_dropEntry 2 := ⟨goodC good_M c0 (fun w hw => by
    rcases List.mem_append.mp hw with h | h
    · rcases List.mem_cons.mp h with e | h
      · rw [e]; exact (inM_0 (List.mem_of_getElem? (i := 45) rfl))
      · rcases List.mem_cons.mp h with e | h
        · rw [e]; exact (inM_0 (List.mem_of_getElem? (i := 46) rfl))
        · rcases List.mem_cons.mp h with e | h
          · rw [e]; exact (inM_0 (List.mem_of_getElem? (i := 47) rfl))
          · rcases List.mem_cons.mp h with e | h
            · rw [e]; exact inM_0 (List.mem_of_getElem? (i := 0) rfl)
            · cases h
    · exact (fun w hw => (List.mem_cons.mp hw).elim (fun e => e ▸ (inM_0 (List.mem_of_getElem? (i := 48) rfl))) id) w h), ⟨_, rfl⟩, by decide, by decide, by decide, by decide +kernel⟩
theorem ok_m_isRoot (c0 : Cond) : okS (c0 :: wM) R_M 84 y_m_isRoot 1 w_m_isRoot 1 := ⟨goodC good_M c0 (fun w hw => (List.mem_cons.mp hw).elim (fun e => e ▸ (inM_0 (List.mem_of_getElem? (i := 51) rfl))) id), z_code rfl, List.mem_cons_of_mem _ (inM_0 (List.mem_of_getElem? (i := 49) rfl)), List.mem_cons_of_mem _ (inM_0 (List.mem_of_getElem? (i := 50) rfl)), List.mem_cons_of_mem _ (inM_0 (List.mem_of_getElem? (i := 0) rfl)), by decide, by decide, by decide +kernel⟩
theorem ok_m_add (c0 : Cond) : okV (c0 :: wM) R_M 87 R_M y_m_add b_m_add 2 (some .boolean) w_m_add 1 := ⟨goodC good_M c0 (fun w hw => by
    rcases List.mem_append.mp hw with h | h
    · rcases List.mem_cons.mp h with e | h
      · rw [e]; exact (inM_0 (List.mem_of_getElem? (i := 52) rfl))
      · rcases List.mem_cons.mp h with e | h
        · rw [e]; exact (inM_0 (List.mem_of_getElem? (i := 53) rfl))
        · rcases List.mem_cons.mp h with e | h
          · rw [e]; exact (inM_0 (List.mem_of_getElem? (i := 54) rfl))
          · rcases List.mem_cons.mp h with e | h
            · rw [e]; exact inM_0 (List.mem_of_getElem? (i := 0) rfl)
            · cases h
    · exact (fun w hw => (List.mem_cons.mp hw).elim (fun e => e ▸ (inM_0 (List.mem_of_getElem? (i := 55) rfl))) id) w h), ⟨_, rfl⟩, by decide, by decide, by decide, by decide +kernel⟩
theorem ok_m_close (c0 : Cond) : okV (c0 :: wM) R_M 93 R_M y_m_close b_m_close 4 none w_m_close 0 := ⟨goodC good_M c0 (fun w hw => by
    rcases List.mem_append.mp hw with h | h
    · rcases List.mem_cons.mp h with e | h
      · rw [e]; exact (inM_0 (List.mem_of_getElem? (i := 56) rfl))
      · rcases List.mem_cons.mp h with e | h
        · rw [e]; exact (inM_0 (List.mem_of_getElem? (i := 57) rfl))
        · rcases List.mem_cons.mp h with e | h
          · rw [e]; exact (inM_0 (List.mem_of_getElem? (i := 58) rfl))
          · rcases List.mem_cons.mp h with e | h
            · rw [e]; exact inM_0 (List.mem_of_getElem? (i := 0) rfl)
            · cases h
    · exact (fun w hw => (List.mem_cons.mp hw).elim (fun e => e ▸ (inM_0 (List.mem_of_getElem? (i := 59) rfl))) id) w h), ⟨_, rfl⟩, by decide, by decide, by decide, by decide +kernel⟩
theorem ok_m_forget (c0 : Cond) : okV (c0 :: wM) R_M 96 R_M y_m_forget b_m_forget 4 none w_m_forget 0 := ⟨goodC good_M c0 (fun w hw => by
    rcases List.mem_append.mp hw with h | h
    · rcases List.mem_cons.mp h with e | h
      · rw [e]; exact (inM_0 (List.mem_of_getElem? (i := 60) rfl))
      · rcases List.mem_cons.mp h with e | h
        · rw [e]; exact (inM_0 (List.mem_of_getElem? (i := 61) rfl))
        · rcases List.mem_cons.mp h with e | h
          · rw [e]; exact (inM_0 (List.mem_of_getElem? (i := 62) rfl))
          · rcases List.mem_cons.mp h with e | h
            · rw [e]; exact inM_0 (List.mem_of_getElem? (i := 0) rfl)
            · cases h
    · exact (fun w hw => (List.mem_cons.mp hw).elim (fun e => e ▸ (inM_0 (List.mem_of_getElem? (i := 63) rfl))) id) w h), ⟨_, rfl⟩, by decide, by decide, by decide, by decide +kernel⟩
end
section
theorem d_init_0 : decode b_init 0 = .ok (.aload_n 0, 1) := by decide +kernel
theorem d_init_1 : decode b_init 1 = .ok (.invokespecial 1, 3) := by decide +kernel
theorem d_init_4 : decode b_init 4 = .ok (.aload_n 0, 1) := by decide +kernel
theorem d_init_5 : decode b_init 5 = .ok (.bipush 24, 2) := by decide +kernel
theorem d_init_7 : decode b_init 7 = .ok (.newarray .int, 2) := by decide +kernel
theorem d_init_9 : decode b_init 9 = .ok (.putfield 9, 3) := by decide +kernel
theorem d_init_12 : decode b_init 12 = .ok (.aload_n 0, 1) := by decide +kernel
theorem d_init_13 : decode b_init 13 = .ok (.bipush 24, 2) := by decide +kernel
theorem d_init_15 : decode b_init 15 = .ok (.newarray .int, 2) := by decide +kernel
theorem d_init_17 : decode b_init 17 = .ok (.putfield 13, 3) := by decide +kernel
theorem d_init_20 : decode b_init 20 = .ok (.aload_n 0, 1) := by decide +kernel
theorem d_init_21 : decode b_init 21 = .ok (.bipush 72, 2) := by decide +kernel
theorem d_init_23 : decode b_init 23 = .ok (.newarray .int, 2) := by decide +kernel
theorem d_init_25 : decode b_init 25 = .ok (.putfield 16, 3) := by decide +kernel
theorem d_init_28 : decode b_init 28 = .ok (.aload_n 0, 1) := by decide +kernel
theorem d_init_29 : decode b_init 29 = .ok (.bipush 96, 2) := by decide +kernel
theorem d_init_31 : decode b_init 31 = .ok (.newarray .int, 2) := by decide +kernel
theorem d_init_33 : decode b_init 33 = .ok (.putfield 19, 3) := by decide +kernel
theorem d_init_36 : decode b_init 36 = .ok (.aload_n 0, 1) := by decide +kernel
theorem d_init_37 : decode b_init 37 = .ok (.bipush 96, 2) := by decide +kernel
theorem d_init_39 : decode b_init 39 = .ok (.newarray .int, 2) := by decide +kernel
theorem d_init_41 : decode b_init 41 = .ok (.putfield 22, 3) := by decide +kernel
theorem d_init_44 : decode b_init 44 = .ok (.aload_n 0, 1) := by decide +kernel
theorem d_init_45 : decode b_init 45 = .ok (.bipush 24, 2) := by decide +kernel
theorem d_init_47 : decode b_init 47 = .ok (.newarray .int, 2) := by decide +kernel
theorem d_init_49 : decode b_init 49 = .ok (.putfield 25, 3) := by decide +kernel
theorem d_init_52 : decode b_init 52 = .ok (.aload_n 0, 1) := by decide +kernel
theorem d_init_53 : decode b_init 53 = .ok (.bipush 24, 2) := by decide +kernel
theorem d_init_55 : decode b_init 55 = .ok (.newarray .int, 2) := by decide +kernel
theorem d_init_57 : decode b_init 57 = .ok (.putfield 28, 3) := by decide +kernel
theorem d_init_60 : decode b_init 60 = .ok (.aload_n 0, 1) := by decide +kernel
theorem d_init_61 : decode b_init 61 = .ok (.bipush 24, 2) := by decide +kernel
theorem d_init_63 : decode b_init 63 = .ok (.newarray .int, 2) := by decide +kernel
theorem d_init_65 : decode b_init 65 = .ok (.putfield 31, 3) := by decide +kernel
theorem d_init_68 : decode b_init 68 = .ok (.aload_n 0, 1) := by decide +kernel
theorem d_init_69 : decode b_init 69 = .ok (.bipush 24, 2) := by decide +kernel
theorem d_init_71 : decode b_init 71 = .ok (.newarray .int, 2) := by decide +kernel
theorem d_init_73 : decode b_init 73 = .ok (.putfield 34, 3) := by decide +kernel
theorem d_init_76 : decode b_init 76 = .ok (.aload_n 0, 1) := by decide +kernel
theorem d_init_77 : decode b_init 77 = .ok (.bipush 6, 2) := by decide +kernel
theorem d_init_79 : decode b_init 79 = .ok (.newarray .int, 2) := by decide +kernel
theorem d_init_81 : decode b_init 81 = .ok (.putfield 37, 3) := by decide +kernel
theorem d_init_84 : decode b_init 84 = .ok (.aload_n 0, 1) := by decide +kernel
theorem d_init_85 : decode b_init 85 = .ok (.bipush 24, 2) := by decide +kernel
theorem d_init_87 : decode b_init 87 = .ok (.newarray .int, 2) := by decide +kernel
theorem d_init_89 : decode b_init 89 = .ok (.putfield 40, 3) := by decide +kernel
theorem d_init_92 : decode b_init 92 = .ok (.iconst 0, 1) := by decide +kernel
theorem d_init_93 : decode b_init 93 = .ok (.istore_n 1, 1) := by decide +kernel
theorem d_init_94 : decode b_init 94 = .ok (.iload_n 1, 1) := by decide +kernel
theorem d_init_95 : decode b_init 95 = .ok (.bipush 6, 2) := by decide +kernel
theorem d_init_97 : decode b_init 97 = .ok (.if_icmp .ge 16, 3) := by decide +kernel
theorem d_init_100 : decode b_init 100 = .ok (.aload_n 0, 1) := by decide +kernel
theorem d_init_101 : decode b_init 101 = .ok (.getfield 37, 3) := by decide +kernel
theorem d_init_104 : decode b_init 104 = .ok (.iload_n 1, 1) := by decide +kernel
theorem d_init_105 : decode b_init 105 = .ok (.iconst (-1), 1) := by decide +kernel
theorem d_init_106 : decode b_init 106 = .ok (.iastore, 1) := by decide +kernel
theorem d_init_107 : decode b_init 107 = .ok (.iinc 1 1, 3) := by decide +kernel
theorem d_init_110 : decode b_init 110 = .ok (.goto (-16), 3) := by decide +kernel
theorem d_init_113 : decode b_init 113 = .ok (.return_, 1) := by decide +kernel
theorem d_make_0 : decode b_make 0 = .ok (.iload_n 1, 1) := by decide +kernel
theorem d_make_1 : decode b_make 1 = .ok (.ifCond .lt 8, 3) := by decide +kernel
theorem d_make_4 : decode b_make 4 = .ok (.iload_n 1, 1) := by decide +kernel
theorem d_make_5 : decode b_make 5 = .ok (.iconst 2, 1) := by decide +kernel
theorem d_make_6 : decode b_make 6 = .ok (.if_icmp .le 13, 3) := by decide +kernel
theorem d_make_9 : decode b_make 9 = .ok (.new 43, 3) := by decide +kernel
theorem d_make_12 : decode b_make 12 = .ok (.dup, 1) := by decide +kernel
theorem d_make_13 : decode b_make 13 = .ok (.ldc 45, 2) := by decide +kernel
theorem d_make_15 : decode b_make 15 = .ok (.invokespecial 47, 3) := by decide +kernel
theorem d_make_18 : decode b_make 18 = .ok (.athrow, 1) := by decide +kernel
theorem d_make_19 : decode b_make 19 = .ok (.aload_n 0, 1) := by decide +kernel
theorem d_make_20 : decode b_make 20 = .ok (.invokevirtual 50, 3) := by decide +kernel
theorem d_make_23 : decode b_make 23 = .ok (.istore_n 2, 1) := by decide +kernel
theorem d_make_24 : decode b_make 24 = .ok (.iload_n 2, 1) := by decide +kernel
theorem d_make_25 : decode b_make 25 = .ok (.iconst (-1), 1) := by decide +kernel
theorem d_make_26 : decode b_make 26 = .ok (.if_icmp .ne 13, 3) := by decide +kernel
theorem d_make_29 : decode b_make 29 = .ok (.aload_n 0, 1) := by decide +kernel
theorem d_make_30 : decode b_make 30 = .ok (.invokevirtual 54, 3) := by decide +kernel
theorem d_make_33 : decode b_make 33 = .ok (.pop, 1) := by decide +kernel
theorem d_make_34 : decode b_make 34 = .ok (.aload_n 0, 1) := by decide +kernel
theorem d_make_35 : decode b_make 35 = .ok (.invokevirtual 50, 3) := by decide +kernel
theorem d_make_38 : decode b_make 38 = .ok (.istore_n 2, 1) := by decide +kernel
theorem d_make_39 : decode b_make 39 = .ok (.iload_n 2, 1) := by decide +kernel
theorem d_make_40 : decode b_make 40 = .ok (.iconst (-1), 1) := by decide +kernel
theorem d_make_41 : decode b_make 41 = .ok (.if_icmp .ne 13, 3) := by decide +kernel
theorem d_make_44 : decode b_make 44 = .ok (.new 57, 3) := by decide +kernel
theorem d_make_47 : decode b_make 47 = .ok (.dup, 1) := by decide +kernel
theorem d_make_48 : decode b_make 48 = .ok (.ldc 59, 2) := by decide +kernel
theorem d_make_50 : decode b_make 50 = .ok (.invokespecial 61, 3) := by decide +kernel
theorem d_make_53 : decode b_make 53 = .ok (.athrow, 1) := by decide +kernel
theorem d_make_54 : decode b_make 54 = .ok (.aload_n 0, 1) := by decide +kernel
theorem d_make_55 : decode b_make 55 = .ok (.iload_n 2, 1) := by decide +kernel
theorem d_make_56 : decode b_make 56 = .ok (.iload_n 1, 1) := by decide +kernel
theorem d_make_57 : decode b_make 57 = .ok (.invokevirtual 62, 3) := by decide +kernel
theorem d_make_60 : decode b_make 60 = .ok (.iload_n 2, 1) := by decide +kernel
theorem d_make_61 : decode b_make 61 = .ok (.ireturn, 1) := by decide +kernel
theorem d_set_0 : decode b_set 0 = .ok (.aload_n 0, 1) := by decide +kernel
theorem d_set_1 : decode b_set 1 = .ok (.iload_n 1, 1) := by decide +kernel
theorem d_set_2 : decode b_set 2 = .ok (.invokevirtual 66, 3) := by decide +kernel
theorem d_set_5 : decode b_set 5 = .ok (.aload_n 0, 1) := by decide +kernel
theorem d_set_6 : decode b_set 6 = .ok (.iload_n 3, 1) := by decide +kernel
theorem d_set_7 : decode b_set 7 = .ok (.invokevirtual 70, 3) := by decide +kernel
theorem d_set_10 : decode b_set 10 = .ok (.aload_n 0, 1) := by decide +kernel
theorem d_set_11 : decode b_set 11 = .ok (.iload_n 1, 1) := by decide +kernel
theorem d_set_12 : decode b_set 12 = .ok (.iload_n 2, 1) := by decide +kernel
theorem d_set_13 : decode b_set 13 = .ok (.invokevirtual 73, 3) := by decide +kernel
theorem d_set_16 : decode b_set 16 = .ok (.aload_n 0, 1) := by decide +kernel
theorem d_set_17 : decode b_set 17 = .ok (.getfield 16, 3) := by decide +kernel
theorem d_set_20 : decode b_set 20 = .ok (.iload_n 1, 1) := by decide +kernel
theorem d_set_21 : decode b_set 21 = .ok (.iload_n 2, 1) := by decide +kernel
theorem d_set_22 : decode b_set 22 = .ok (.invokestatic 76, 3) := by decide +kernel
theorem d_set_25 : decode b_set 25 = .ok (.iload_n 3, 1) := by decide +kernel
theorem d_set_26 : decode b_set 26 = .ok (.iastore, 1) := by decide +kernel
theorem d_set_27 : decode b_set 27 = .ok (.return_, 1) := by decide +kernel
theorem d_get_0 : decode b_get 0 = .ok (.aload_n 0, 1) := by decide +kernel
theorem d_get_1 : decode b_get 1 = .ok (.iload_n 1, 1) := by decide +kernel
theorem d_get_2 : decode b_get 2 = .ok (.invokevirtual 66, 3) := by decide +kernel
theorem d_get_5 : decode b_get 5 = .ok (.aload_n 0, 1) := by decide +kernel
theorem d_get_6 : decode b_get 6 = .ok (.iload_n 1, 1) := by decide +kernel
theorem d_get_7 : decode b_get 7 = .ok (.iload_n 2, 1) := by decide +kernel
theorem d_get_8 : decode b_get 8 = .ok (.invokevirtual 73, 3) := by decide +kernel
theorem d_get_11 : decode b_get 11 = .ok (.aload_n 0, 1) := by decide +kernel
theorem d_get_12 : decode b_get 12 = .ok (.getfield 16, 3) := by decide +kernel
theorem d_get_15 : decode b_get 15 = .ok (.iload_n 1, 1) := by decide +kernel
theorem d_get_16 : decode b_get 16 = .ok (.iload_n 2, 1) := by decide +kernel
theorem d_get_17 : decode b_get 17 = .ok (.invokestatic 76, 3) := by decide +kernel
theorem d_get_20 : decode b_get 20 = .ok (.iaload, 1) := by decide +kernel
theorem d_get_21 : decode b_get 21 = .ok (.ireturn, 1) := by decide +kernel
theorem d_put_0 : decode b_put 0 = .ok (.aload_n 0, 1) := by decide +kernel
theorem d_put_1 : decode b_put 1 = .ok (.iload_n 1, 1) := by decide +kernel
theorem d_put_2 : decode b_put 2 = .ok (.invokevirtual 66, 3) := by decide +kernel
theorem d_put_5 : decode b_put 5 = .ok (.aload_n 0, 1) := by decide +kernel
theorem d_put_6 : decode b_put 6 = .ok (.iload_n 2, 1) := by decide +kernel
theorem d_put_7 : decode b_put 7 = .ok (.invokevirtual 66, 3) := by decide +kernel
theorem d_put_10 : decode b_put 10 = .ok (.aload_n 0, 1) := by decide +kernel
theorem d_put_11 : decode b_put 11 = .ok (.iload_n 3, 1) := by decide +kernel
theorem d_put_12 : decode b_put 12 = .ok (.invokevirtual 66, 3) := by decide +kernel
theorem d_put_15 : decode b_put 15 = .ok (.aload_n 0, 1) := by decide +kernel
theorem d_put_16 : decode b_put 16 = .ok (.iload_n 1, 1) := by decide +kernel
theorem d_put_17 : decode b_put 17 = .ok (.invokevirtual 80, 3) := by decide +kernel
theorem d_put_20 : decode b_put 20 = .ok (.aload_n 0, 1) := by decide +kernel
theorem d_put_21 : decode b_put 21 = .ok (.iload_n 1, 1) := by decide +kernel
theorem d_put_22 : decode b_put 22 = .ok (.iload_n 2, 1) := by decide +kernel
theorem d_put_23 : decode b_put 23 = .ok (.invokevirtual 83, 3) := by decide +kernel
theorem d_put_26 : decode b_put 26 = .ok (.istore 4, 2) := by decide +kernel
theorem d_put_28 : decode b_put 28 = .ok (.iload 4, 2) := by decide +kernel
theorem d_put_30 : decode b_put 30 = .ok (.iconst (-1), 1) := by decide +kernel
theorem d_put_31 : decode b_put 31 = .ok (.if_icmp .eq 17, 3) := by decide +kernel
theorem d_put_34 : decode b_put 34 = .ok (.aload_n 0, 1) := by decide +kernel
theorem d_put_35 : decode b_put 35 = .ok (.getfield 22, 3) := by decide +kernel
theorem d_put_38 : decode b_put 38 = .ok (.iload_n 1, 1) := by decide +kernel
theorem d_put_39 : decode b_put 39 = .ok (.iload 4, 2) := by decide +kernel
theorem d_put_41 : decode b_put 41 = .ok (.invokestatic 86, 3) := by decide +kernel
theorem d_put_44 : decode b_put 44 = .ok (.iload_n 3, 1) := by decide +kernel
theorem d_put_45 : decode b_put 45 = .ok (.iastore, 1) := by decide +kernel
theorem d_put_46 : decode b_put 46 = .ok (.iconst 0, 1) := by decide +kernel
theorem d_put_47 : decode b_put 47 = .ok (.ireturn, 1) := by decide +kernel
theorem d_put_48 : decode b_put 48 = .ok (.aload_n 0, 1) := by decide +kernel
theorem d_put_49 : decode b_put 49 = .ok (.getfield 25, 3) := by decide +kernel
theorem d_put_52 : decode b_put 52 = .ok (.iload_n 1, 1) := by decide +kernel
theorem d_put_53 : decode b_put 53 = .ok (.iaload, 1) := by decide +kernel
theorem d_put_54 : decode b_put 54 = .ok (.iconst 4, 1) := by decide +kernel
theorem d_put_55 : decode b_put 55 = .ok (.if_icmp .lt 13, 3) := by decide +kernel
theorem d_put_58 : decode b_put 58 = .ok (.new 57, 3) := by decide +kernel
theorem d_put_61 : decode b_put 61 = .ok (.dup, 1) := by decide +kernel
theorem d_put_62 : decode b_put 62 = .ok (.ldc 89, 2) := by decide +kernel
theorem d_put_64 : decode b_put 64 = .ok (.invokespecial 61, 3) := by decide +kernel
theorem d_put_67 : decode b_put 67 = .ok (.athrow, 1) := by decide +kernel
theorem d_put_68 : decode b_put 68 = .ok (.aload_n 0, 1) := by decide +kernel
theorem d_put_69 : decode b_put 69 = .ok (.iload_n 1, 1) := by decide +kernel
theorem d_put_70 : decode b_put 70 = .ok (.iload_n 2, 1) := by decide +kernel
theorem d_put_71 : decode b_put 71 = .ok (.iload_n 3, 1) := by decide +kernel
theorem d_put_72 : decode b_put 72 = .ok (.invokevirtual 91, 3) := by decide +kernel
theorem d_put_75 : decode b_put 75 = .ok (.iconst 1, 1) := by decide +kernel
theorem d_put_76 : decode b_put 76 = .ok (.ireturn, 1) := by decide +kernel
theorem d_find_0 : decode b_find 0 = .ok (.aload_n 0, 1) := by decide +kernel
theorem d_find_1 : decode b_find 1 = .ok (.iload_n 1, 1) := by decide +kernel
theorem d_find_2 : decode b_find 2 = .ok (.invokevirtual 66, 3) := by decide +kernel
theorem d_find_5 : decode b_find 5 = .ok (.aload_n 0, 1) := by decide +kernel
theorem d_find_6 : decode b_find 6 = .ok (.iload_n 2, 1) := by decide +kernel
theorem d_find_7 : decode b_find 7 = .ok (.invokevirtual 66, 3) := by decide +kernel
theorem d_find_10 : decode b_find 10 = .ok (.aload_n 0, 1) := by decide +kernel
theorem d_find_11 : decode b_find 11 = .ok (.iload_n 1, 1) := by decide +kernel
theorem d_find_12 : decode b_find 12 = .ok (.invokevirtual 80, 3) := by decide +kernel
theorem d_find_15 : decode b_find 15 = .ok (.aload_n 0, 1) := by decide +kernel
theorem d_find_16 : decode b_find 16 = .ok (.iload_n 1, 1) := by decide +kernel
theorem d_find_17 : decode b_find 17 = .ok (.iload_n 2, 1) := by decide +kernel
theorem d_find_18 : decode b_find 18 = .ok (.invokevirtual 83, 3) := by decide +kernel
theorem d_find_21 : decode b_find 21 = .ok (.istore_n 3, 1) := by decide +kernel
theorem d_find_22 : decode b_find 22 = .ok (.iload_n 3, 1) := by decide +kernel
theorem d_find_23 : decode b_find 23 = .ok (.iconst (-1), 1) := by decide +kernel
theorem d_find_24 : decode b_find 24 = .ok (.if_icmp .ne 7, 3) := by decide +kernel
theorem d_find_27 : decode b_find 27 = .ok (.iconst (-1), 1) := by decide +kernel
theorem d_find_28 : decode b_find 28 = .ok (.goto 13, 3) := by decide +kernel
theorem d_find_31 : decode b_find 31 = .ok (.aload_n 0, 1) := by decide +kernel
theorem d_find_32 : decode b_find 32 = .ok (.getfield 22, 3) := by decide +kernel
theorem d_find_35 : decode b_find 35 = .ok (.iload_n 1, 1) := by decide +kernel
theorem d_find_36 : decode b_find 36 = .ok (.iload_n 3, 1) := by decide +kernel
theorem d_find_37 : decode b_find 37 = .ok (.invokestatic 86, 3) := by decide +kernel
theorem d_find_40 : decode b_find 40 = .ok (.iaload, 1) := by decide +kernel
theorem d_find_41 : decode b_find 41 = .ok (.ireturn, 1) := by decide +kernel
theorem d_remove_0 : decode b_remove 0 = .ok (.aload_n 0, 1) := by decide +kernel
theorem d_remove_1 : decode b_remove 1 = .ok (.iload_n 1, 1) := by decide +kernel
theorem d_remove_2 : decode b_remove 2 = .ok (.invokevirtual 66, 3) := by decide +kernel
theorem d_remove_5 : decode b_remove 5 = .ok (.aload_n 0, 1) := by decide +kernel
theorem d_remove_6 : decode b_remove 6 = .ok (.iload_n 2, 1) := by decide +kernel
theorem d_remove_7 : decode b_remove 7 = .ok (.invokevirtual 66, 3) := by decide +kernel
theorem d_remove_10 : decode b_remove 10 = .ok (.aload_n 0, 1) := by decide +kernel
theorem d_remove_11 : decode b_remove 11 = .ok (.iload_n 1, 1) := by decide +kernel
theorem d_remove_12 : decode b_remove 12 = .ok (.invokevirtual 80, 3) := by decide +kernel
theorem d_remove_15 : decode b_remove 15 = .ok (.aload_n 0, 1) := by decide +kernel
theorem d_remove_16 : decode b_remove 16 = .ok (.iload_n 1, 1) := by decide +kernel
theorem d_remove_17 : decode b_remove 17 = .ok (.iload_n 2, 1) := by decide +kernel
theorem d_remove_18 : decode b_remove 18 = .ok (.invokevirtual 83, 3) := by decide +kernel
theorem d_remove_21 : decode b_remove 21 = .ok (.istore_n 3, 1) := by decide +kernel
theorem d_remove_22 : decode b_remove 22 = .ok (.iload_n 3, 1) := by decide +kernel
theorem d_remove_23 : decode b_remove 23 = .ok (.iconst (-1), 1) := by decide +kernel
theorem d_remove_24 : decode b_remove 24 = .ok (.if_icmp .ne 5, 3) := by decide +kernel
theorem d_remove_27 : decode b_remove 27 = .ok (.iconst 0, 1) := by decide +kernel
theorem d_remove_28 : decode b_remove 28 = .ok (.ireturn, 1) := by decide +kernel
theorem d_remove_29 : decode b_remove 29 = .ok (.aload_n 0, 1) := by decide +kernel
theorem d_remove_30 : decode b_remove 30 = .ok (.iload_n 1, 1) := by decide +kernel
theorem d_remove_31 : decode b_remove 31 = .ok (.iload_n 3, 1) := by decide +kernel
theorem d_remove_32 : decode b_remove 32 = .ok (.invokevirtual 95, 3) := by decide +kernel
theorem d_remove_35 : decode b_remove 35 = .ok (.iconst 1, 1) := by decide +kernel
theorem d_remove_36 : decode b_remove 36 = .ok (.ireturn, 1) := by decide +kernel
theorem d_key_0 : decode b_key 0 = .ok (.aload_n 0, 1) := by decide +kernel
theorem d_key_1 : decode b_key 1 = .ok (.iload_n 1, 1) := by decide +kernel
theorem d_key_2 : decode b_key 2 = .ok (.invokevirtual 66, 3) := by decide +kernel
theorem d_key_5 : decode b_key 5 = .ok (.aload_n 0, 1) := by decide +kernel
theorem d_key_6 : decode b_key 6 = .ok (.iload_n 1, 1) := by decide +kernel
theorem d_key_7 : decode b_key 7 = .ok (.invokevirtual 80, 3) := by decide +kernel
theorem d_key_10 : decode b_key 10 = .ok (.iload_n 2, 1) := by decide +kernel
theorem d_key_11 : decode b_key 11 = .ok (.ifCond .lt 13, 3) := by decide +kernel
theorem d_key_14 : decode b_key 14 = .ok (.iload_n 2, 1) := by decide +kernel
theorem d_key_15 : decode b_key 15 = .ok (.aload_n 0, 1) := by decide +kernel
theorem d_key_16 : decode b_key 16 = .ok (.getfield 25, 3) := by decide +kernel
theorem d_key_19 : decode b_key 19 = .ok (.iload_n 1, 1) := by decide +kernel
theorem d_key_20 : decode b_key 20 = .ok (.iaload, 1) := by decide +kernel
theorem d_key_21 : decode b_key 21 = .ok (.if_icmp .lt 13, 3) := by decide +kernel
theorem d_key_24 : decode b_key 24 = .ok (.new 98, 3) := by decide +kernel
theorem d_key_27 : decode b_key 27 = .ok (.dup, 1) := by decide +kernel
theorem d_key_28 : decode b_key 28 = .ok (.ldc 100, 2) := by decide +kernel
theorem d_key_30 : decode b_key 30 = .ok (.invokespecial 102, 3) := by decide +kernel
theorem d_key_33 : decode b_key 33 = .ok (.athrow, 1) := by decide +kernel
theorem d_key_34 : decode b_key 34 = .ok (.aload_n 0, 1) := by decide +kernel
theorem d_key_35 : decode b_key 35 = .ok (.getfield 19, 3) := by decide +kernel
theorem d_key_38 : decode b_key 38 = .ok (.iload_n 1, 1) := by decide +kernel
theorem d_key_39 : decode b_key 39 = .ok (.iload_n 2, 1) := by decide +kernel
theorem d_key_40 : decode b_key 40 = .ok (.invokestatic 86, 3) := by decide +kernel
theorem d_key_43 : decode b_key 43 = .ok (.iaload, 1) := by decide +kernel
theorem d_key_44 : decode b_key 44 = .ok (.ireturn, 1) := by decide +kernel
theorem d_root_0 : decode b_root 0 = .ok (.aload_n 0, 1) := by decide +kernel
theorem d_root_1 : decode b_root 1 = .ok (.iload_n 1, 1) := by decide +kernel
theorem d_root_2 : decode b_root 2 = .ok (.invokevirtual 103, 3) := by decide +kernel
theorem d_root_5 : decode b_root 5 = .ok (.aload_n 0, 1) := by decide +kernel
theorem d_root_6 : decode b_root 6 = .ok (.iload_n 2, 1) := by decide +kernel
theorem d_root_7 : decode b_root 7 = .ok (.invokevirtual 70, 3) := by decide +kernel
theorem d_root_10 : decode b_root 10 = .ok (.aload_n 0, 1) := by decide +kernel
theorem d_root_11 : decode b_root 11 = .ok (.getfield 37, 3) := by decide +kernel
theorem d_root_14 : decode b_root 14 = .ok (.iload_n 1, 1) := by decide +kernel
theorem d_root_15 : decode b_root 15 = .ok (.iload_n 2, 1) := by decide +kernel
theorem d_root_16 : decode b_root 16 = .ok (.iastore, 1) := by decide +kernel
theorem d_root_17 : decode b_root 17 = .ok (.return_, 1) := by decide +kernel
theorem d_rootAt_0 : decode b_rootAt 0 = .ok (.aload_n 0, 1) := by decide +kernel
theorem d_rootAt_1 : decode b_rootAt 1 = .ok (.iload_n 1, 1) := by decide +kernel
theorem d_rootAt_2 : decode b_rootAt 2 = .ok (.invokevirtual 103, 3) := by decide +kernel
theorem d_rootAt_5 : decode b_rootAt 5 = .ok (.aload_n 0, 1) := by decide +kernel
theorem d_rootAt_6 : decode b_rootAt 6 = .ok (.getfield 37, 3) := by decide +kernel
theorem d_rootAt_9 : decode b_rootAt 9 = .ok (.iload_n 1, 1) := by decide +kernel
theorem d_rootAt_10 : decode b_rootAt 10 = .ok (.iaload, 1) := by decide +kernel
theorem d_rootAt_11 : decode b_rootAt 11 = .ok (.ireturn, 1) := by decide +kernel
theorem d_guard_0 : decode b_guard 0 = .ok (.aload_n 0, 1) := by decide +kernel
theorem d_guard_1 : decode b_guard 1 = .ok (.iload_n 1, 1) := by decide +kernel
theorem d_guard_2 : decode b_guard 2 = .ok (.invokevirtual 66, 3) := by decide +kernel
theorem d_guard_5 : decode b_guard 5 = .ok (.iload_n 2, 1) := by decide +kernel
theorem d_guard_6 : decode b_guard 6 = .ok (.ifCond .lt 8, 3) := by decide +kernel
theorem d_guard_9 : decode b_guard 9 = .ok (.iload_n 2, 1) := by decide +kernel
theorem d_guard_10 : decode b_guard 10 = .ok (.iconst 3, 1) := by decide +kernel
theorem d_guard_11 : decode b_guard 11 = .ok (.if_icmp .le 13, 3) := by decide +kernel
theorem d_guard_14 : decode b_guard 14 = .ok (.new 43, 3) := by decide +kernel
theorem d_guard_17 : decode b_guard 17 = .ok (.dup, 1) := by decide +kernel
theorem d_guard_18 : decode b_guard 18 = .ok (.ldc 106, 2) := by decide +kernel
theorem d_guard_20 : decode b_guard 20 = .ok (.invokespecial 47, 3) := by decide +kernel
theorem d_guard_23 : decode b_guard 23 = .ok (.athrow, 1) := by decide +kernel
theorem d_guard_24 : decode b_guard 24 = .ok (.aload_n 0, 1) := by decide +kernel
theorem d_guard_25 : decode b_guard 25 = .ok (.iload_n 3, 1) := by decide +kernel
theorem d_guard_26 : decode b_guard 26 = .ok (.invokevirtual 103, 3) := by decide +kernel
theorem d_guard_29 : decode b_guard 29 = .ok (.aload_n 0, 1) := by decide +kernel
theorem d_guard_30 : decode b_guard 30 = .ok (.getfield 28, 3) := by decide +kernel
theorem d_guard_33 : decode b_guard 33 = .ok (.iload_n 1, 1) := by decide +kernel
theorem d_guard_34 : decode b_guard 34 = .ok (.iaload, 1) := by decide +kernel
theorem d_guard_35 : decode b_guard 35 = .ok (.ifCond .eq 13, 3) := by decide +kernel
theorem d_guard_38 : decode b_guard 38 = .ok (.new 57, 3) := by decide +kernel
theorem d_guard_41 : decode b_guard 41 = .ok (.dup, 1) := by decide +kernel
theorem d_guard_42 : decode b_guard 42 = .ok (.ldc 108, 2) := by decide +kernel
theorem d_guard_44 : decode b_guard 44 = .ok (.invokespecial 61, 3) := by decide +kernel
theorem d_guard_47 : decode b_guard 47 = .ok (.athrow, 1) := by decide +kernel
theorem d_guard_48 : decode b_guard 48 = .ok (.aload_n 0, 1) := by decide +kernel
theorem d_guard_49 : decode b_guard 49 = .ok (.getfield 28, 3) := by decide +kernel
theorem d_guard_52 : decode b_guard 52 = .ok (.iload_n 1, 1) := by decide +kernel
theorem d_guard_53 : decode b_guard 53 = .ok (.iconst 1, 1) := by decide +kernel
theorem d_guard_54 : decode b_guard 54 = .ok (.iastore, 1) := by decide +kernel
theorem d_guard_55 : decode b_guard 55 = .ok (.aload_n 0, 1) := by decide +kernel
theorem d_guard_56 : decode b_guard 56 = .ok (.getfield 31, 3) := by decide +kernel
theorem d_guard_59 : decode b_guard 59 = .ok (.iload_n 1, 1) := by decide +kernel
theorem d_guard_60 : decode b_guard 60 = .ok (.iload_n 2, 1) := by decide +kernel
theorem d_guard_61 : decode b_guard 61 = .ok (.iastore, 1) := by decide +kernel
theorem d_guard_62 : decode b_guard 62 = .ok (.aload_n 0, 1) := by decide +kernel
theorem d_guard_63 : decode b_guard 63 = .ok (.getfield 34, 3) := by decide +kernel
theorem d_guard_66 : decode b_guard 66 = .ok (.iload_n 1, 1) := by decide +kernel
theorem d_guard_67 : decode b_guard 67 = .ok (.iload_n 3, 1) := by decide +kernel
theorem d_guard_68 : decode b_guard 68 = .ok (.iastore, 1) := by decide +kernel
theorem d_guard_69 : decode b_guard 69 = .ok (.return_, 1) := by decide +kernel
theorem d_collect_0 : decode b_collect 0 = .ok (.aload_n 0, 1) := by decide +kernel
theorem d_collect_1 : decode b_collect 1 = .ok (.dup, 1) := by decide +kernel
theorem d_collect_2 : decode b_collect 2 = .ok (.getfield 110, 3) := by decide +kernel
theorem d_collect_5 : decode b_collect 5 = .ok (.iconst 1, 1) := by decide +kernel
theorem d_collect_6 : decode b_collect 6 = .ok (.iadd, 1) := by decide +kernel
theorem d_collect_7 : decode b_collect 7 = .ok (.putfield 110, 3) := by decide +kernel
theorem d_collect_10 : decode b_collect 10 = .ok (.aload_n 0, 1) := by decide +kernel
theorem d_collect_11 : decode b_collect 11 = .ok (.aload_n 0, 1) := by decide +kernel
theorem d_collect_12 : decode b_collect 12 = .ok (.invokevirtual 114, 3) := by decide +kernel
theorem d_collect_15 : decode b_collect 15 = .ok (.invokevirtual 117, 3) := by decide +kernel
theorem d_collect_18 : decode b_collect 18 = .ok (.istore_n 1, 1) := by decide +kernel
theorem d_collect_19 : decode b_collect 19 = .ok (.aload_n 0, 1) := by decide +kernel
theorem d_collect_20 : decode b_collect 20 = .ok (.iload_n 1, 1) := by decide +kernel
theorem d_collect_21 : decode b_collect 21 = .ok (.invokevirtual 121, 3) := by decide +kernel
theorem d_collect_24 : decode b_collect 24 = .ok (.aload_n 0, 1) := by decide +kernel
theorem d_collect_25 : decode b_collect 25 = .ok (.aload_n 0, 1) := by decide +kernel
theorem d_collect_26 : decode b_collect 26 = .ok (.getfield 124, 3) := by decide +kernel
theorem d_collect_29 : decode b_collect 29 = .ok (.iload_n 1, 1) := by decide +kernel
theorem d_collect_30 : decode b_collect 30 = .ok (.iconst (-1), 1) := by decide +kernel
theorem d_collect_31 : decode b_collect 31 = .ok (.ixor, 1) := by decide +kernel
theorem d_collect_32 : decode b_collect 32 = .ok (.iand, 1) := by decide +kernel
theorem d_collect_33 : decode b_collect 33 = .ok (.invokevirtual 127, 3) := by decide +kernel
theorem d_collect_36 : decode b_collect 36 = .ok (.aload_n 0, 1) := by decide +kernel
theorem d_collect_37 : decode b_collect 37 = .ok (.iload_n 1, 1) := by decide +kernel
theorem d_collect_38 : decode b_collect 38 = .ok (.aload_n 0, 1) := by decide +kernel
theorem d_collect_39 : decode b_collect 39 = .ok (.invokevirtual 130, 3) := by decide +kernel
theorem d_collect_42 : decode b_collect 42 = .ok (.ior, 1) := by decide +kernel
theorem d_collect_43 : decode b_collect 43 = .ok (.invokevirtual 117, 3) := by decide +kernel
theorem d_collect_46 : decode b_collect 46 = .ok (.istore_n 2, 1) := by decide +kernel
theorem d_collect_47 : decode b_collect 47 = .ok (.aload_n 0, 1) := by decide +kernel
theorem d_collect_48 : decode b_collect 48 = .ok (.iload_n 2, 1) := by decide +kernel
theorem d_collect_49 : decode b_collect 49 = .ok (.invokevirtual 121, 3) := by decide +kernel
theorem d_collect_52 : decode b_collect 52 = .ok (.aload_n 0, 1) := by decide +kernel
theorem d_collect_53 : decode b_collect 53 = .ok (.getfield 124, 3) := by decide +kernel
theorem d_collect_56 : decode b_collect 56 = .ok (.iload_n 2, 1) := by decide +kernel
theorem d_collect_57 : decode b_collect 57 = .ok (.iconst (-1), 1) := by decide +kernel
theorem d_collect_58 : decode b_collect 58 = .ok (.ixor, 1) := by decide +kernel
theorem d_collect_59 : decode b_collect 59 = .ok (.iand, 1) := by decide +kernel
theorem d_collect_60 : decode b_collect 60 = .ok (.invokestatic 133, 3) := by decide +kernel
theorem d_collect_63 : decode b_collect 63 = .ok (.istore_n 3, 1) := by decide +kernel
theorem d_collect_64 : decode b_collect 64 = .ok (.aload_n 0, 1) := by decide +kernel
theorem d_collect_65 : decode b_collect 65 = .ok (.iload_n 2, 1) := by decide +kernel
theorem d_collect_66 : decode b_collect 66 = .ok (.putfield 124, 3) := by decide +kernel
theorem d_collect_69 : decode b_collect 69 = .ok (.iload_n 3, 1) := by decide +kernel
theorem d_collect_70 : decode b_collect 70 = .ok (.ireturn, 1) := by decide +kernel
theorem d_run_0 : decode b_run 0 = .ok (.aload_n 0, 1) := by decide +kernel
theorem d_run_1 : decode b_run 1 = .ok (.getfield 138, 3) := by decide +kernel
theorem d_run_4 : decode b_run 4 = .ok (.ifCond .ne 13, 3) := by decide +kernel
theorem d_run_7 : decode b_run 7 = .ok (.new 141, 3) := by decide +kernel
theorem d_run_10 : decode b_run 10 = .ok (.dup, 1) := by decide +kernel
theorem d_run_11 : decode b_run 11 = .ok (.ldc 143, 2) := by decide +kernel
theorem d_run_13 : decode b_run 13 = .ok (.invokespecial 145, 3) := by decide +kernel
theorem d_run_16 : decode b_run 16 = .ok (.athrow, 1) := by decide +kernel
theorem d_run_17 : decode b_run 17 = .ok (.aload_n 0, 1) := by decide +kernel
theorem d_run_18 : decode b_run 18 = .ok (.invokevirtual 146, 3) := by decide +kernel
theorem d_run_21 : decode b_run 21 = .ok (.istore_n 1, 1) := by decide +kernel
theorem d_run_22 : decode b_run 22 = .ok (.aload_n 0, 1) := by decide +kernel
theorem d_run_23 : decode b_run 23 = .ok (.getfield 28, 3) := by decide +kernel
theorem d_run_26 : decode b_run 26 = .ok (.iload_n 1, 1) := by decide +kernel
theorem d_run_27 : decode b_run 27 = .ok (.iconst 3, 1) := by decide +kernel
theorem d_run_28 : decode b_run 28 = .ok (.iastore, 1) := by decide +kernel
theorem d_run_29 : decode b_run 29 = .ok (.aload_n 0, 1) := by decide +kernel
theorem d_run_30 : decode b_run 30 = .ok (.iload_n 1, 1) := by decide +kernel
theorem d_run_31 : decode b_run 31 = .ok (.invokevirtual 149, 3) := by decide +kernel
theorem d_run_34 : decode b_run 34 = .ok (.iload_n 1, 1) := by decide +kernel
theorem d_run_35 : decode b_run 35 = .ok (.ireturn, 1) := by decide +kernel
theorem d_queued_0 : decode b_queued 0 = .ok (.aload_n 0, 1) := by decide +kernel
theorem d_queued_1 : decode b_queued 1 = .ok (.getfield 138, 3) := by decide +kernel
theorem d_queued_4 : decode b_queued 4 = .ok (.ireturn, 1) := by decide +kernel
theorem d_used_0 : decode b_used 0 = .ok (.aload_n 0, 1) := by decide +kernel
theorem d_used_1 : decode b_used 1 = .ok (.getfield 124, 3) := by decide +kernel
theorem d_used_4 : decode b_used 4 = .ok (.ireturn, 1) := by decide +kernel
theorem d_kind_0 : decode b_kind 0 = .ok (.aload_n 0, 1) := by decide +kernel
theorem d_kind_1 : decode b_kind 1 = .ok (.iload_n 1, 1) := by decide +kernel
theorem d_kind_2 : decode b_kind 2 = .ok (.invokevirtual 66, 3) := by decide +kernel
theorem d_kind_5 : decode b_kind 5 = .ok (.aload_n 0, 1) := by decide +kernel
theorem d_kind_6 : decode b_kind 6 = .ok (.getfield 9, 3) := by decide +kernel
theorem d_kind_9 : decode b_kind 9 = .ok (.iload_n 1, 1) := by decide +kernel
theorem d_kind_10 : decode b_kind 10 = .ok (.iaload, 1) := by decide +kernel
theorem d_kind_11 : decode b_kind 11 = .ok (.iconst 4, 1) := by decide +kernel
theorem d_kind_12 : decode b_kind 12 = .ok (.aload_n 0, 1) := by decide +kernel
theorem d_kind_13 : decode b_kind 13 = .ok (.getfield 28, 3) := by decide +kernel
theorem d_kind_16 : decode b_kind 16 = .ok (.iload_n 1, 1) := by decide +kernel
theorem d_kind_17 : decode b_kind 17 = .ok (.iaload, 1) := by decide +kernel
theorem d_kind_18 : decode b_kind 18 = .ok (.imul, 1) := by decide +kernel
theorem d_kind_19 : decode b_kind 19 = .ok (.iadd, 1) := by decide +kernel
theorem d_kind_20 : decode b_kind 20 = .ok (.ireturn, 1) := by decide +kernel
theorem d_serial_0 : decode b_serial 0 = .ok (.aload_n 0, 1) := by decide +kernel
theorem d_serial_1 : decode b_serial 1 = .ok (.iload_n 1, 1) := by decide +kernel
theorem d_serial_2 : decode b_serial 2 = .ok (.invokevirtual 66, 3) := by decide +kernel
theorem d_serial_5 : decode b_serial 5 = .ok (.aload_n 0, 1) := by decide +kernel
theorem d_serial_6 : decode b_serial 6 = .ok (.getfield 13, 3) := by decide +kernel
theorem d_serial_9 : decode b_serial 9 = .ok (.iload_n 1, 1) := by decide +kernel
theorem d_serial_10 : decode b_serial 10 = .ok (.iaload, 1) := by decide +kernel
theorem d_serial_11 : decode b_serial 11 = .ok (.ireturn, 1) := by decide +kernel
theorem d_collections_0 : decode b_collections 0 = .ok (.aload_n 0, 1) := by decide +kernel
theorem d_collections_1 : decode b_collections 1 = .ok (.getfield 110, 3) := by decide +kernel
theorem d_collections_4 : decode b_collections 4 = .ok (.ireturn, 1) := by decide +kernel
theorem d_contains_0 : decode b_contains 0 = .ok (.iload_n 0, 1) := by decide +kernel
theorem d_contains_1 : decode b_contains 1 = .ok (.iconst 1, 1) := by decide +kernel
theorem d_contains_2 : decode b_contains 2 = .ok (.iload_n 1, 1) := by decide +kernel
theorem d_contains_3 : decode b_contains 3 = .ok (.ishl, 1) := by decide +kernel
theorem d_contains_4 : decode b_contains 4 = .ok (.iand, 1) := by decide +kernel
theorem d_contains_5 : decode b_contains 5 = .ok (.ifCond .eq 7, 3) := by decide +kernel
theorem d_contains_8 : decode b_contains 8 = .ok (.iconst 1, 1) := by decide +kernel
theorem d_contains_9 : decode b_contains 9 = .ok (.goto 4, 3) := by decide +kernel
theorem d_contains_12 : decode b_contains 12 = .ok (.iconst 0, 1) := by decide +kernel
theorem d_contains_13 : decode b_contains 13 = .ok (.ireturn, 1) := by decide +kernel
theorem d_hasThing_0 : decode b_hasThing 0 = .ok (.iload_n 1, 1) := by decide +kernel
theorem d_hasThing_1 : decode b_hasThing 1 = .ok (.ifCond .lt 24, 3) := by decide +kernel
theorem d_hasThing_4 : decode b_hasThing 4 = .ok (.iload_n 1, 1) := by decide +kernel
theorem d_hasThing_5 : decode b_hasThing 5 = .ok (.bipush 24, 2) := by decide +kernel
theorem d_hasThing_7 : decode b_hasThing 7 = .ok (.if_icmp .ge 18, 3) := by decide +kernel
theorem d_hasThing_10 : decode b_hasThing 10 = .ok (.aload_n 0, 1) := by decide +kernel
theorem d_hasThing_11 : decode b_hasThing 11 = .ok (.getfield 124, 3) := by decide +kernel
theorem d_hasThing_14 : decode b_hasThing 14 = .ok (.iload_n 1, 1) := by decide +kernel
theorem d_hasThing_15 : decode b_hasThing 15 = .ok (.invokestatic 152, 3) := by decide +kernel
theorem d_hasThing_18 : decode b_hasThing 18 = .ok (.ifCond .eq 7, 3) := by decide +kernel
theorem d_hasThing_21 : decode b_hasThing 21 = .ok (.iconst 1, 1) := by decide +kernel
theorem d_hasThing_22 : decode b_hasThing 22 = .ok (.goto 4, 3) := by decide +kernel
theorem d_hasThing_25 : decode b_hasThing 25 = .ok (.iconst 0, 1) := by decide +kernel
theorem d_hasThing_26 : decode b_hasThing 26 = .ok (.ireturn, 1) := by decide +kernel
theorem d_requireThing_0 : decode b_requireThing 0 = .ok (.aload_n 0, 1) := by decide +kernel
theorem d_requireThing_1 : decode b_requireThing 1 = .ok (.iload_n 1, 1) := by decide +kernel
theorem d_requireThing_2 : decode b_requireThing 2 = .ok (.invokevirtual 156, 3) := by decide +kernel
theorem d_requireThing_5 : decode b_requireThing 5 = .ok (.ifCond .ne 13, 3) := by decide +kernel
theorem d_requireThing_8 : decode b_requireThing 8 = .ok (.new 141, 3) := by decide +kernel
theorem d_requireThing_11 : decode b_requireThing 11 = .ok (.dup, 1) := by decide +kernel
theorem d_requireThing_12 : decode b_requireThing 12 = .ok (.ldc 160, 2) := by decide +kernel
theorem d_requireThing_14 : decode b_requireThing 14 = .ok (.invokespecial 145, 3) := by decide +kernel
theorem d_requireThing_17 : decode b_requireThing 17 = .ok (.athrow, 1) := by decide +kernel
theorem d_requireThing_18 : decode b_requireThing 18 = .ok (.return_, 1) := by decide +kernel
theorem d_requireThingOrNone_0 : decode b_requireThingOrNone 0 = .ok (.iload_n 1, 1) := by decide +kernel
theorem d_requireThingOrNone_1 : decode b_requireThingOrNone 1 = .ok (.iconst (-1), 1) := by decide +kernel
theorem d_requireThingOrNone_2 : decode b_requireThingOrNone 2 = .ok (.if_icmp .eq 8, 3) := by decide +kernel
theorem d_requireThingOrNone_5 : decode b_requireThingOrNone 5 = .ok (.aload_n 0, 1) := by decide +kernel
theorem d_requireThingOrNone_6 : decode b_requireThingOrNone 6 = .ok (.iload_n 1, 1) := by decide +kernel
theorem d_requireThingOrNone_7 : decode b_requireThingOrNone 7 = .ok (.invokevirtual 66, 3) := by decide +kernel
theorem d_requireThingOrNone_10 : decode b_requireThingOrNone 10 = .ok (.return_, 1) := by decide +kernel
theorem d_requireField_0 : decode b_requireField 0 = .ok (.iload_n 2, 1) := by decide +kernel
theorem d_requireField_1 : decode b_requireField 1 = .ok (.ifCond .lt 16, 3) := by decide +kernel
theorem d_requireField_4 : decode b_requireField 4 = .ok (.iload_n 2, 1) := by decide +kernel
theorem d_requireField_5 : decode b_requireField 5 = .ok (.aload_n 0, 1) := by decide +kernel
theorem d_requireField_6 : decode b_requireField 6 = .ok (.getfield 9, 3) := by decide +kernel
theorem d_requireField_9 : decode b_requireField 9 = .ok (.iload_n 1, 1) := by decide +kernel
theorem d_requireField_10 : decode b_requireField 10 = .ok (.iaload, 1) := by decide +kernel
theorem d_requireField_11 : decode b_requireField 11 = .ok (.invokestatic 162, 3) := by decide +kernel
theorem d_requireField_14 : decode b_requireField 14 = .ok (.if_icmp .lt 13, 3) := by decide +kernel
theorem d_requireField_17 : decode b_requireField 17 = .ok (.new 43, 3) := by decide +kernel
theorem d_requireField_20 : decode b_requireField 20 = .ok (.dup, 1) := by decide +kernel
theorem d_requireField_21 : decode b_requireField 21 = .ok (.ldc 165, 2) := by decide +kernel
theorem d_requireField_23 : decode b_requireField 23 = .ok (.invokespecial 47, 3) := by decide +kernel
theorem d_requireField_26 : decode b_requireField 26 = .ok (.athrow, 1) := by decide +kernel
theorem d_requireField_27 : decode b_requireField 27 = .ok (.return_, 1) := by decide +kernel
theorem d_requireTable_0 : decode b_requireTable 0 = .ok (.aload_n 0, 1) := by decide +kernel
theorem d_requireTable_1 : decode b_requireTable 1 = .ok (.getfield 9, 3) := by decide +kernel
theorem d_requireTable_4 : decode b_requireTable 4 = .ok (.iload_n 1, 1) := by decide +kernel
theorem d_requireTable_5 : decode b_requireTable 5 = .ok (.iaload, 1) := by decide +kernel
theorem d_requireTable_6 : decode b_requireTable 6 = .ok (.iconst 2, 1) := by decide +kernel
theorem d_requireTable_7 : decode b_requireTable 7 = .ok (.if_icmp .eq 13, 3) := by decide +kernel
theorem d_requireTable_10 : decode b_requireTable 10 = .ok (.new 43, 3) := by decide +kernel
theorem d_requireTable_13 : decode b_requireTable 13 = .ok (.dup, 1) := by decide +kernel
theorem d_requireTable_14 : decode b_requireTable 14 = .ok (.ldc 167, 2) := by decide +kernel
theorem d_requireTable_16 : decode b_requireTable 16 = .ok (.invokespecial 47, 3) := by decide +kernel
theorem d_requireTable_19 : decode b_requireTable 19 = .ok (.athrow, 1) := by decide +kernel
theorem d_requireTable_20 : decode b_requireTable 20 = .ok (.return_, 1) := by decide +kernel
theorem d_requireRoot_0 : decode b_requireRoot 0 = .ok (.iload_n 1, 1) := by decide +kernel
theorem d_requireRoot_1 : decode b_requireRoot 1 = .ok (.ifCond .lt 9, 3) := by decide +kernel
theorem d_requireRoot_4 : decode b_requireRoot 4 = .ok (.iload_n 1, 1) := by decide +kernel
theorem d_requireRoot_5 : decode b_requireRoot 5 = .ok (.bipush 6, 2) := by decide +kernel
theorem d_requireRoot_7 : decode b_requireRoot 7 = .ok (.if_icmp .lt 13, 3) := by decide +kernel
theorem d_requireRoot_10 : decode b_requireRoot 10 = .ok (.new 98, 3) := by decide +kernel
theorem d_requireRoot_13 : decode b_requireRoot 13 = .ok (.dup, 1) := by decide +kernel
theorem d_requireRoot_14 : decode b_requireRoot 14 = .ok (.ldc 169, 2) := by decide +kernel
theorem d_requireRoot_16 : decode b_requireRoot 16 = .ok (.invokespecial 102, 3) := by decide +kernel
theorem d_requireRoot_19 : decode b_requireRoot 19 = .ok (.athrow, 1) := by decide +kernel
theorem d_requireRoot_20 : decode b_requireRoot 20 = .ok (.return_, 1) := by decide +kernel
theorem d_fieldCount_0 : decode b_fieldCount 0 = .ok (.iload_n 0, 1) := by decide +kernel
theorem d_fieldCount_1 : decode b_fieldCount 1 = .ok (.ifCond .ne 5, 3) := by decide +kernel
theorem d_fieldCount_4 : decode b_fieldCount 4 = .ok (.iconst 3, 1) := by decide +kernel
theorem d_fieldCount_5 : decode b_fieldCount 5 = .ok (.ireturn, 1) := by decide +kernel
theorem d_fieldCount_6 : decode b_fieldCount 6 = .ok (.iload_n 0, 1) := by decide +kernel
theorem d_fieldCount_7 : decode b_fieldCount 7 = .ok (.iconst 1, 1) := by decide +kernel
theorem d_fieldCount_8 : decode b_fieldCount 8 = .ok (.if_icmp .ne 7, 3) := by decide +kernel
theorem d_fieldCount_11 : decode b_fieldCount 11 = .ok (.iconst 1, 1) := by decide +kernel
theorem d_fieldCount_12 : decode b_fieldCount 12 = .ok (.goto 4, 3) := by decide +kernel
theorem d_fieldCount_15 : decode b_fieldCount 15 = .ok (.iconst 0, 1) := by decide +kernel
theorem d_fieldCount_16 : decode b_fieldCount 16 = .ok (.ireturn, 1) := by decide +kernel
theorem d_fieldSlot_0 : decode b_fieldSlot 0 = .ok (.iload_n 0, 1) := by decide +kernel
theorem d_fieldSlot_1 : decode b_fieldSlot 1 = .ok (.iconst 3, 1) := by decide +kernel
theorem d_fieldSlot_2 : decode b_fieldSlot 2 = .ok (.imul, 1) := by decide +kernel
theorem d_fieldSlot_3 : decode b_fieldSlot 3 = .ok (.iload_n 1, 1) := by decide +kernel
theorem d_fieldSlot_4 : decode b_fieldSlot 4 = .ok (.iadd, 1) := by decide +kernel
theorem d_fieldSlot_5 : decode b_fieldSlot 5 = .ok (.ireturn, 1) := by decide +kernel
theorem d_entrySlot_0 : decode b_entrySlot 0 = .ok (.iload_n 0, 1) := by decide +kernel
theorem d_entrySlot_1 : decode b_entrySlot 1 = .ok (.iconst 4, 1) := by decide +kernel
theorem d_entrySlot_2 : decode b_entrySlot 2 = .ok (.imul, 1) := by decide +kernel
theorem d_entrySlot_3 : decode b_entrySlot 3 = .ok (.iload_n 1, 1) := by decide +kernel
theorem d_entrySlot_4 : decode b_entrySlot 4 = .ok (.iadd, 1) := by decide +kernel
theorem d_entrySlot_5 : decode b_entrySlot 5 = .ok (.ireturn, 1) := by decide +kernel
theorem d_leastFreeCell_0 : decode b_leastFreeCell 0 = .ok (.iconst 0, 1) := by decide +kernel
theorem d_leastFreeCell_1 : decode b_leastFreeCell 1 = .ok (.istore_n 1, 1) := by decide +kernel
theorem d_leastFreeCell_2 : decode b_leastFreeCell 2 = .ok (.iload_n 1, 1) := by decide +kernel
theorem d_leastFreeCell_3 : decode b_leastFreeCell 3 = .ok (.bipush 24, 2) := by decide +kernel
theorem d_leastFreeCell_5 : decode b_leastFreeCell 5 = .ok (.if_icmp .ge 22, 3) := by decide +kernel
theorem d_leastFreeCell_8 : decode b_leastFreeCell 8 = .ok (.aload_n 0, 1) := by decide +kernel
theorem d_leastFreeCell_9 : decode b_leastFreeCell 9 = .ok (.getfield 124, 3) := by decide +kernel
theorem d_leastFreeCell_12 : decode b_leastFreeCell 12 = .ok (.iload_n 1, 1) := by decide +kernel
theorem d_leastFreeCell_13 : decode b_leastFreeCell 13 = .ok (.invokestatic 152, 3) := by decide +kernel
theorem d_leastFreeCell_16 : decode b_leastFreeCell 16 = .ok (.ifCond .ne 5, 3) := by decide +kernel
theorem d_leastFreeCell_19 : decode b_leastFreeCell 19 = .ok (.iload_n 1, 1) := by decide +kernel
theorem d_leastFreeCell_20 : decode b_leastFreeCell 20 = .ok (.ireturn, 1) := by decide +kernel
theorem d_leastFreeCell_21 : decode b_leastFreeCell 21 = .ok (.iinc 1 1, 3) := by decide +kernel
theorem d_leastFreeCell_24 : decode b_leastFreeCell 24 = .ok (.goto (-22), 3) := by decide +kernel
theorem d_leastFreeCell_27 : decode b_leastFreeCell 27 = .ok (.iconst (-1), 1) := by decide +kernel
theorem d_leastFreeCell_28 : decode b_leastFreeCell 28 = .ok (.ireturn, 1) := by decide +kernel
theorem d_placeThing_0 : decode b_placeThing 0 = .ok (.aload_n 0, 1) := by decide +kernel
theorem d_placeThing_1 : decode b_placeThing 1 = .ok (.dup, 1) := by decide +kernel
theorem d_placeThing_2 : decode b_placeThing 2 = .ok (.getfield 171, 3) := by decide +kernel
theorem d_placeThing_5 : decode b_placeThing 5 = .ok (.iconst 1, 1) := by decide +kernel
theorem d_placeThing_6 : decode b_placeThing 6 = .ok (.iadd, 1) := by decide +kernel
theorem d_placeThing_7 : decode b_placeThing 7 = .ok (.putfield 171, 3) := by decide +kernel
theorem d_placeThing_10 : decode b_placeThing 10 = .ok (.aload_n 0, 1) := by decide +kernel
theorem d_placeThing_11 : decode b_placeThing 11 = .ok (.dup, 1) := by decide +kernel
theorem d_placeThing_12 : decode b_placeThing 12 = .ok (.getfield 124, 3) := by decide +kernel
theorem d_placeThing_15 : decode b_placeThing 15 = .ok (.iconst 1, 1) := by decide +kernel
theorem d_placeThing_16 : decode b_placeThing 16 = .ok (.iload_n 1, 1) := by decide +kernel
theorem d_placeThing_17 : decode b_placeThing 17 = .ok (.ishl, 1) := by decide +kernel
theorem d_placeThing_18 : decode b_placeThing 18 = .ok (.ior, 1) := by decide +kernel
theorem d_placeThing_19 : decode b_placeThing 19 = .ok (.putfield 124, 3) := by decide +kernel
theorem d_placeThing_22 : decode b_placeThing 22 = .ok (.aload_n 0, 1) := by decide +kernel
theorem d_placeThing_23 : decode b_placeThing 23 = .ok (.getfield 9, 3) := by decide +kernel
theorem d_placeThing_26 : decode b_placeThing 26 = .ok (.iload_n 1, 1) := by decide +kernel
theorem d_placeThing_27 : decode b_placeThing 27 = .ok (.iload_n 2, 1) := by decide +kernel
theorem d_placeThing_28 : decode b_placeThing 28 = .ok (.iastore, 1) := by decide +kernel
theorem d_placeThing_29 : decode b_placeThing 29 = .ok (.aload_n 0, 1) := by decide +kernel
theorem d_placeThing_30 : decode b_placeThing 30 = .ok (.getfield 13, 3) := by decide +kernel
theorem d_placeThing_33 : decode b_placeThing 33 = .ok (.iload_n 1, 1) := by decide +kernel
theorem d_placeThing_34 : decode b_placeThing 34 = .ok (.aload_n 0, 1) := by decide +kernel
theorem d_placeThing_35 : decode b_placeThing 35 = .ok (.getfield 171, 3) := by decide +kernel
theorem d_placeThing_38 : decode b_placeThing 38 = .ok (.iastore, 1) := by decide +kernel
theorem d_placeThing_39 : decode b_placeThing 39 = .ok (.aload_n 0, 1) := by decide +kernel
theorem d_placeThing_40 : decode b_placeThing 40 = .ok (.getfield 28, 3) := by decide +kernel
theorem d_placeThing_43 : decode b_placeThing 43 = .ok (.iload_n 1, 1) := by decide +kernel
theorem d_placeThing_44 : decode b_placeThing 44 = .ok (.iconst 0, 1) := by decide +kernel
theorem d_placeThing_45 : decode b_placeThing 45 = .ok (.iastore, 1) := by decide +kernel
theorem d_placeThing_46 : decode b_placeThing 46 = .ok (.aload_n 0, 1) := by decide +kernel
theorem d_placeThing_47 : decode b_placeThing 47 = .ok (.iload_n 1, 1) := by decide +kernel
theorem d_placeThing_48 : decode b_placeThing 48 = .ok (.invokevirtual 174, 3) := by decide +kernel
theorem d_placeThing_51 : decode b_placeThing 51 = .ok (.return_, 1) := by decide +kernel
theorem d_emptyThing_0 : decode b_emptyThing 0 = .ok (.iconst 0, 1) := by decide +kernel
theorem d_emptyThing_1 : decode b_emptyThing 1 = .ok (.istore_n 2, 1) := by decide +kernel
theorem d_emptyThing_2 : decode b_emptyThing 2 = .ok (.iload_n 2, 1) := by decide +kernel
theorem d_emptyThing_3 : decode b_emptyThing 3 = .ok (.iconst 3, 1) := by decide +kernel
theorem d_emptyThing_4 : decode b_emptyThing 4 = .ok (.if_icmp .ge 20, 3) := by decide +kernel
theorem d_emptyThing_7 : decode b_emptyThing 7 = .ok (.aload_n 0, 1) := by decide +kernel
theorem d_emptyThing_8 : decode b_emptyThing 8 = .ok (.getfield 16, 3) := by decide +kernel
theorem d_emptyThing_11 : decode b_emptyThing 11 = .ok (.iload_n 1, 1) := by decide +kernel
theorem d_emptyThing_12 : decode b_emptyThing 12 = .ok (.iload_n 2, 1) := by decide +kernel
theorem d_emptyThing_13 : decode b_emptyThing 13 = .ok (.invokestatic 76, 3) := by decide +kernel
theorem d_emptyThing_16 : decode b_emptyThing 16 = .ok (.iconst (-1), 1) := by decide +kernel
theorem d_emptyThing_17 : decode b_emptyThing 17 = .ok (.iastore, 1) := by decide +kernel
theorem d_emptyThing_18 : decode b_emptyThing 18 = .ok (.iinc 2 1, 3) := by decide +kernel
theorem d_emptyThing_21 : decode b_emptyThing 21 = .ok (.goto (-19), 3) := by decide +kernel
theorem d_emptyThing_24 : decode b_emptyThing 24 = .ok (.aload_n 0, 1) := by decide +kernel
theorem d_emptyThing_25 : decode b_emptyThing 25 = .ok (.getfield 25, 3) := by decide +kernel
theorem d_emptyThing_28 : decode b_emptyThing 28 = .ok (.iload_n 1, 1) := by decide +kernel
theorem d_emptyThing_29 : decode b_emptyThing 29 = .ok (.iconst 0, 1) := by decide +kernel
theorem d_emptyThing_30 : decode b_emptyThing 30 = .ok (.iastore, 1) := by decide +kernel
theorem d_emptyThing_31 : decode b_emptyThing 31 = .ok (.return_, 1) := by decide +kernel
theorem d_entryOf_0 : decode b_entryOf 0 = .ok (.iconst 0, 1) := by decide +kernel
theorem d_entryOf_1 : decode b_entryOf 1 = .ok (.istore_n 3, 1) := by decide +kernel
theorem d_entryOf_2 : decode b_entryOf 2 = .ok (.iload_n 3, 1) := by decide +kernel
theorem d_entryOf_3 : decode b_entryOf 3 = .ok (.aload_n 0, 1) := by decide +kernel
theorem d_entryOf_4 : decode b_entryOf 4 = .ok (.getfield 25, 3) := by decide +kernel
theorem d_entryOf_7 : decode b_entryOf 7 = .ok (.iload_n 1, 1) := by decide +kernel
theorem d_entryOf_8 : decode b_entryOf 8 = .ok (.iaload, 1) := by decide +kernel
theorem d_entryOf_9 : decode b_entryOf 9 = .ok (.if_icmp .ge 25, 3) := by decide +kernel
theorem d_entryOf_12 : decode b_entryOf 12 = .ok (.aload_n 0, 1) := by decide +kernel
theorem d_entryOf_13 : decode b_entryOf 13 = .ok (.getfield 19, 3) := by decide +kernel
theorem d_entryOf_16 : decode b_entryOf 16 = .ok (.iload_n 1, 1) := by decide +kernel
theorem d_entryOf_17 : decode b_entryOf 17 = .ok (.iload_n 3, 1) := by decide +kernel
theorem d_entryOf_18 : decode b_entryOf 18 = .ok (.invokestatic 86, 3) := by decide +kernel
theorem d_entryOf_21 : decode b_entryOf 21 = .ok (.iaload, 1) := by decide +kernel
theorem d_entryOf_22 : decode b_entryOf 22 = .ok (.iload_n 2, 1) := by decide +kernel
theorem d_entryOf_23 : decode b_entryOf 23 = .ok (.if_icmp .ne 5, 3) := by decide +kernel
theorem d_entryOf_26 : decode b_entryOf 26 = .ok (.iload_n 3, 1) := by decide +kernel
theorem d_entryOf_27 : decode b_entryOf 27 = .ok (.ireturn, 1) := by decide +kernel
theorem d_entryOf_28 : decode b_entryOf 28 = .ok (.iinc 3 1, 3) := by decide +kernel
theorem d_entryOf_31 : decode b_entryOf 31 = .ok (.goto (-29), 3) := by decide +kernel
theorem d_entryOf_34 : decode b_entryOf 34 = .ok (.iconst (-1), 1) := by decide +kernel
theorem d_entryOf_35 : decode b_entryOf 35 = .ok (.ireturn, 1) := by decide +kernel
theorem d_appendEntry_0 : decode b_appendEntry 0 = .ok (.iload_n 1, 1) := by decide +kernel
theorem d_appendEntry_1 : decode b_appendEntry 1 = .ok (.aload_n 0, 1) := by decide +kernel
theorem d_appendEntry_2 : decode b_appendEntry 2 = .ok (.getfield 25, 3) := by decide +kernel
theorem d_appendEntry_5 : decode b_appendEntry 5 = .ok (.iload_n 1, 1) := by decide +kernel
theorem d_appendEntry_6 : decode b_appendEntry 6 = .ok (.iaload, 1) := by decide +kernel
theorem d_appendEntry_7 : decode b_appendEntry 7 = .ok (.invokestatic 86, 3) := by decide +kernel
theorem d_appendEntry_10 : decode b_appendEntry 10 = .ok (.istore 4, 2) := by decide +kernel
theorem d_appendEntry_12 : decode b_appendEntry 12 = .ok (.aload_n 0, 1) := by decide +kernel
theorem d_appendEntry_13 : decode b_appendEntry 13 = .ok (.getfield 19, 3) := by decide +kernel
theorem d_appendEntry_16 : decode b_appendEntry 16 = .ok (.iload 4, 2) := by decide +kernel
theorem d_appendEntry_18 : decode b_appendEntry 18 = .ok (.iload_n 2, 1) := by decide +kernel
theorem d_appendEntry_19 : decode b_appendEntry 19 = .ok (.iastore, 1) := by decide +kernel
theorem d_appendEntry_20 : decode b_appendEntry 20 = .ok (.aload_n 0, 1) := by decide +kernel
theorem d_appendEntry_21 : decode b_appendEntry 21 = .ok (.getfield 22, 3) := by decide +kernel
theorem d_appendEntry_24 : decode b_appendEntry 24 = .ok (.iload 4, 2) := by decide +kernel
theorem d_appendEntry_26 : decode b_appendEntry 26 = .ok (.iload_n 3, 1) := by decide +kernel
theorem d_appendEntry_27 : decode b_appendEntry 27 = .ok (.iastore, 1) := by decide +kernel
theorem d_appendEntry_28 : decode b_appendEntry 28 = .ok (.aload_n 0, 1) := by decide +kernel
theorem d_appendEntry_29 : decode b_appendEntry 29 = .ok (.getfield 25, 3) := by decide +kernel
theorem d_appendEntry_32 : decode b_appendEntry 32 = .ok (.iload_n 1, 1) := by decide +kernel
theorem d_appendEntry_33 : decode b_appendEntry 33 = .ok (.dup2, 1) := by decide +kernel
theorem d_appendEntry_34 : decode b_appendEntry 34 = .ok (.iaload, 1) := by decide +kernel
theorem d_appendEntry_35 : decode b_appendEntry 35 = .ok (.iconst 1, 1) := by decide +kernel
theorem d_appendEntry_36 : decode b_appendEntry 36 = .ok (.iadd, 1) := by decide +kernel
theorem d_appendEntry_37 : decode b_appendEntry 37 = .ok (.iastore, 1) := by decide +kernel
theorem d_appendEntry_38 : decode b_appendEntry 38 = .ok (.return_, 1) := by decide +kernel
theorem d_dropEntry_0 : decode b_dropEntry 0 = .ok (.aload_n 0, 1) := by decide +kernel
theorem d_dropEntry_1 : decode b_dropEntry 1 = .ok (.getfield 25, 3) := by decide +kernel
theorem d_dropEntry_4 : decode b_dropEntry 4 = .ok (.iload_n 1, 1) := by decide +kernel
theorem d_dropEntry_5 : decode b_dropEntry 5 = .ok (.iaload, 1) := by decide +kernel
theorem d_dropEntry_6 : decode b_dropEntry 6 = .ok (.iconst 1, 1) := by decide +kernel
theorem d_dropEntry_7 : decode b_dropEntry 7 = .ok (.isub, 1) := by decide +kernel
theorem d_dropEntry_8 : decode b_dropEntry 8 = .ok (.istore_n 3, 1) := by decide +kernel
theorem d_dropEntry_9 : decode b_dropEntry 9 = .ok (.iload_n 2, 1) := by decide +kernel
theorem d_dropEntry_10 : decode b_dropEntry 10 = .ok (.istore 4, 2) := by decide +kernel
theorem d_dropEntry_12 : decode b_dropEntry 12 = .ok (.iload 4, 2) := by decide +kernel
theorem d_dropEntry_14 : decode b_dropEntry 14 = .ok (.iload_n 3, 1) := by decide +kernel
theorem d_dropEntry_15 : decode b_dropEntry 15 = .ok (.if_icmp .ge 20, 3) := by decide +kernel
theorem d_dropEntry_18 : decode b_dropEntry 18 = .ok (.aload_n 0, 1) := by decide +kernel
theorem d_dropEntry_19 : decode b_dropEntry 19 = .ok (.iload_n 1, 1) := by decide +kernel
theorem d_dropEntry_20 : decode b_dropEntry 20 = .ok (.iload 4, 2) := by decide +kernel
theorem d_dropEntry_22 : decode b_dropEntry 22 = .ok (.iconst 1, 1) := by decide +kernel
theorem d_dropEntry_23 : decode b_dropEntry 23 = .ok (.iadd, 1) := by decide +kernel
theorem d_dropEntry_24 : decode b_dropEntry 24 = .ok (.iload 4, 2) := by decide +kernel
theorem d_dropEntry_26 : decode b_dropEntry 26 = .ok (.invokevirtual 177, 3) := by decide +kernel
theorem d_dropEntry_29 : decode b_dropEntry 29 = .ok (.iinc 4 1, 3) := by decide +kernel
theorem d_dropEntry_32 : decode b_dropEntry 32 = .ok (.goto (-20), 3) := by decide +kernel
theorem d_dropEntry_35 : decode b_dropEntry 35 = .ok (.aload_n 0, 1) := by decide +kernel
theorem d_dropEntry_36 : decode b_dropEntry 36 = .ok (.getfield 25, 3) := by decide +kernel
theorem d_dropEntry_39 : decode b_dropEntry 39 = .ok (.iload_n 1, 1) := by decide +kernel
theorem d_dropEntry_40 : decode b_dropEntry 40 = .ok (.iload_n 3, 1) := by decide +kernel
theorem d_dropEntry_41 : decode b_dropEntry 41 = .ok (.iastore, 1) := by decide +kernel
theorem d_dropEntry_42 : decode b_dropEntry 42 = .ok (.return_, 1) := by decide +kernel
theorem d_copyEntry_0 : decode b_copyEntry 0 = .ok (.aload_n 0, 1) := by decide +kernel
theorem d_copyEntry_1 : decode b_copyEntry 1 = .ok (.getfield 19, 3) := by decide +kernel
theorem d_copyEntry_4 : decode b_copyEntry 4 = .ok (.iload_n 1, 1) := by decide +kernel
theorem d_copyEntry_5 : decode b_copyEntry 5 = .ok (.iload_n 3, 1) := by decide +kernel
theorem d_copyEntry_6 : decode b_copyEntry 6 = .ok (.invokestatic 86, 3) := by decide +kernel
theorem d_copyEntry_9 : decode b_copyEntry 9 = .ok (.aload_n 0, 1) := by decide +kernel
theorem d_copyEntry_10 : decode b_copyEntry 10 = .ok (.getfield 19, 3) := by decide +kernel
theorem d_copyEntry_13 : decode b_copyEntry 13 = .ok (.iload_n 1, 1) := by decide +kernel
theorem d_copyEntry_14 : decode b_copyEntry 14 = .ok (.iload_n 2, 1) := by decide +kernel
theorem d_copyEntry_15 : decode b_copyEntry 15 = .ok (.invokestatic 86, 3) := by decide +kernel
theorem d_copyEntry_18 : decode b_copyEntry 18 = .ok (.iaload, 1) := by decide +kernel
theorem d_copyEntry_19 : decode b_copyEntry 19 = .ok (.iastore, 1) := by decide +kernel
theorem d_copyEntry_20 : decode b_copyEntry 20 = .ok (.aload_n 0, 1) := by decide +kernel
theorem d_copyEntry_21 : decode b_copyEntry 21 = .ok (.getfield 22, 3) := by decide +kernel
theorem d_copyEntry_24 : decode b_copyEntry 24 = .ok (.iload_n 1, 1) := by decide +kernel
theorem d_copyEntry_25 : decode b_copyEntry 25 = .ok (.iload_n 3, 1) := by decide +kernel
theorem d_copyEntry_26 : decode b_copyEntry 26 = .ok (.invokestatic 86, 3) := by decide +kernel
theorem d_copyEntry_29 : decode b_copyEntry 29 = .ok (.aload_n 0, 1) := by decide +kernel
theorem d_copyEntry_30 : decode b_copyEntry 30 = .ok (.getfield 22, 3) := by decide +kernel
theorem d_copyEntry_33 : decode b_copyEntry 33 = .ok (.iload_n 1, 1) := by decide +kernel
theorem d_copyEntry_34 : decode b_copyEntry 34 = .ok (.iload_n 2, 1) := by decide +kernel
theorem d_copyEntry_35 : decode b_copyEntry 35 = .ok (.invokestatic 86, 3) := by decide +kernel
theorem d_copyEntry_38 : decode b_copyEntry 38 = .ok (.iaload, 1) := by decide +kernel
theorem d_copyEntry_39 : decode b_copyEntry 39 = .ok (.iastore, 1) := by decide +kernel
theorem d_copyEntry_40 : decode b_copyEntry 40 = .ok (.return_, 1) := by decide +kernel
theorem d_thingsInRoots_0 : decode b_thingsInRoots 0 = .ok (.iconst 0, 1) := by decide +kernel
theorem d_thingsInRoots_1 : decode b_thingsInRoots 1 = .ok (.istore_n 1, 1) := by decide +kernel
theorem d_thingsInRoots_2 : decode b_thingsInRoots 2 = .ok (.iconst 0, 1) := by decide +kernel
theorem d_thingsInRoots_3 : decode b_thingsInRoots 3 = .ok (.istore_n 2, 1) := by decide +kernel
theorem d_thingsInRoots_4 : decode b_thingsInRoots 4 = .ok (.iload_n 2, 1) := by decide +kernel
theorem d_thingsInRoots_5 : decode b_thingsInRoots 5 = .ok (.bipush 6, 2) := by decide +kernel
theorem d_thingsInRoots_7 : decode b_thingsInRoots 7 = .ok (.if_icmp .ge 30, 3) := by decide +kernel
theorem d_thingsInRoots_10 : decode b_thingsInRoots 10 = .ok (.aload_n 0, 1) := by decide +kernel
theorem d_thingsInRoots_11 : decode b_thingsInRoots 11 = .ok (.getfield 37, 3) := by decide +kernel
theorem d_thingsInRoots_14 : decode b_thingsInRoots 14 = .ok (.iload_n 2, 1) := by decide +kernel
theorem d_thingsInRoots_15 : decode b_thingsInRoots 15 = .ok (.iaload, 1) := by decide +kernel
theorem d_thingsInRoots_16 : decode b_thingsInRoots 16 = .ok (.iconst (-1), 1) := by decide +kernel
theorem d_thingsInRoots_17 : decode b_thingsInRoots 17 = .ok (.if_icmp .eq 14, 3) := by decide +kernel
theorem d_thingsInRoots_20 : decode b_thingsInRoots 20 = .ok (.iload_n 1, 1) := by decide +kernel
theorem d_thingsInRoots_21 : decode b_thingsInRoots 21 = .ok (.iconst 1, 1) := by decide +kernel
theorem d_thingsInRoots_22 : decode b_thingsInRoots 22 = .ok (.aload_n 0, 1) := by decide +kernel
theorem d_thingsInRoots_23 : decode b_thingsInRoots 23 = .ok (.getfield 37, 3) := by decide +kernel
theorem d_thingsInRoots_26 : decode b_thingsInRoots 26 = .ok (.iload_n 2, 1) := by decide +kernel
theorem d_thingsInRoots_27 : decode b_thingsInRoots 27 = .ok (.iaload, 1) := by decide +kernel
theorem d_thingsInRoots_28 : decode b_thingsInRoots 28 = .ok (.ishl, 1) := by decide +kernel
theorem d_thingsInRoots_29 : decode b_thingsInRoots 29 = .ok (.ior, 1) := by decide +kernel
theorem d_thingsInRoots_30 : decode b_thingsInRoots 30 = .ok (.istore_n 1, 1) := by decide +kernel
theorem d_thingsInRoots_31 : decode b_thingsInRoots 31 = .ok (.iinc 2 1, 3) := by decide +kernel
theorem d_thingsInRoots_34 : decode b_thingsInRoots 34 = .ok (.goto (-30), 3) := by decide +kernel
theorem d_thingsInRoots_37 : decode b_thingsInRoots 37 = .ok (.iload_n 1, 1) := by decide +kernel
theorem d_thingsInRoots_38 : decode b_thingsInRoots 38 = .ok (.ireturn, 1) := by decide +kernel
theorem d_thingsInQueue_0 : decode b_thingsInQueue 0 = .ok (.iconst 0, 1) := by decide +kernel
theorem d_thingsInQueue_1 : decode b_thingsInQueue 1 = .ok (.istore_n 1, 1) := by decide +kernel
theorem d_thingsInQueue_2 : decode b_thingsInQueue 2 = .ok (.iconst 0, 1) := by decide +kernel
theorem d_thingsInQueue_3 : decode b_thingsInQueue 3 = .ok (.istore_n 2, 1) := by decide +kernel
theorem d_thingsInQueue_4 : decode b_thingsInQueue 4 = .ok (.iload_n 2, 1) := by decide +kernel
theorem d_thingsInQueue_5 : decode b_thingsInQueue 5 = .ok (.aload_n 0, 1) := by decide +kernel
theorem d_thingsInQueue_6 : decode b_thingsInQueue 6 = .ok (.getfield 138, 3) := by decide +kernel
theorem d_thingsInQueue_9 : decode b_thingsInQueue 9 = .ok (.if_icmp .ge 20, 3) := by decide +kernel
theorem d_thingsInQueue_12 : decode b_thingsInQueue 12 = .ok (.iload_n 1, 1) := by decide +kernel
theorem d_thingsInQueue_13 : decode b_thingsInQueue 13 = .ok (.iconst 1, 1) := by decide +kernel
theorem d_thingsInQueue_14 : decode b_thingsInQueue 14 = .ok (.aload_n 0, 1) := by decide +kernel
theorem d_thingsInQueue_15 : decode b_thingsInQueue 15 = .ok (.getfield 40, 3) := by decide +kernel
theorem d_thingsInQueue_18 : decode b_thingsInQueue 18 = .ok (.iload_n 2, 1) := by decide +kernel
theorem d_thingsInQueue_19 : decode b_thingsInQueue 19 = .ok (.iaload, 1) := by decide +kernel
theorem d_thingsInQueue_20 : decode b_thingsInQueue 20 = .ok (.ishl, 1) := by decide +kernel
theorem d_thingsInQueue_21 : decode b_thingsInQueue 21 = .ok (.ior, 1) := by decide +kernel
theorem d_thingsInQueue_22 : decode b_thingsInQueue 22 = .ok (.istore_n 1, 1) := by decide +kernel
theorem d_thingsInQueue_23 : decode b_thingsInQueue 23 = .ok (.iinc 2 1, 3) := by decide +kernel
theorem d_thingsInQueue_26 : decode b_thingsInQueue 26 = .ok (.goto (-22), 3) := by decide +kernel
theorem d_thingsInQueue_29 : decode b_thingsInQueue 29 = .ok (.iload_n 1, 1) := by decide +kernel
theorem d_thingsInQueue_30 : decode b_thingsInQueue 30 = .ok (.ireturn, 1) := by decide +kernel
theorem d_closureOf_0 : decode b_closureOf 0 = .ok (.iload_n 1, 1) := by decide +kernel
theorem d_closureOf_1 : decode b_closureOf 1 = .ok (.istore_n 2, 1) := by decide +kernel
theorem d_closureOf_2 : decode b_closureOf 2 = .ok (.iconst 0, 1) := by decide +kernel
theorem d_closureOf_3 : decode b_closureOf 3 = .ok (.istore_n 3, 1) := by decide +kernel
theorem d_closureOf_4 : decode b_closureOf 4 = .ok (.iload_n 3, 1) := by decide +kernel
theorem d_closureOf_5 : decode b_closureOf 5 = .ok (.bipush 24, 2) := by decide +kernel
theorem d_closureOf_7 : decode b_closureOf 7 = .ok (.if_icmp .ge 27, 3) := by decide +kernel
theorem d_closureOf_10 : decode b_closureOf 10 = .ok (.aload_n 0, 1) := by decide +kernel
theorem d_closureOf_11 : decode b_closureOf 11 = .ok (.iload_n 2, 1) := by decide +kernel
theorem d_closureOf_12 : decode b_closureOf 12 = .ok (.invokevirtual 180, 3) := by decide +kernel
theorem d_closureOf_15 : decode b_closureOf 15 = .ok (.istore 4, 2) := by decide +kernel
theorem d_closureOf_17 : decode b_closureOf 17 = .ok (.iload 4, 2) := by decide +kernel
theorem d_closureOf_19 : decode b_closureOf 19 = .ok (.iload_n 2, 1) := by decide +kernel
theorem d_closureOf_20 : decode b_closureOf 20 = .ok (.if_icmp .ne 5, 3) := by decide +kernel
theorem d_closureOf_23 : decode b_closureOf 23 = .ok (.iload_n 2, 1) := by decide +kernel
theorem d_closureOf_24 : decode b_closureOf 24 = .ok (.ireturn, 1) := by decide +kernel
theorem d_closureOf_25 : decode b_closureOf 25 = .ok (.iload 4, 2) := by decide +kernel
theorem d_closureOf_27 : decode b_closureOf 27 = .ok (.istore_n 2, 1) := by decide +kernel
theorem d_closureOf_28 : decode b_closureOf 28 = .ok (.iinc 3 1, 3) := by decide +kernel
theorem d_closureOf_31 : decode b_closureOf 31 = .ok (.goto (-27), 3) := by decide +kernel
theorem d_closureOf_34 : decode b_closureOf 34 = .ok (.iload_n 2, 1) := by decide +kernel
theorem d_closureOf_35 : decode b_closureOf 35 = .ok (.ireturn, 1) := by decide +kernel
theorem d_withThingsHeld_0 : decode b_withThingsHeld 0 = .ok (.iload_n 1, 1) := by decide +kernel
theorem d_withThingsHeld_1 : decode b_withThingsHeld 1 = .ok (.istore_n 2, 1) := by decide +kernel
theorem d_withThingsHeld_2 : decode b_withThingsHeld 2 = .ok (.iconst 0, 1) := by decide +kernel
theorem d_withThingsHeld_3 : decode b_withThingsHeld 3 = .ok (.istore_n 3, 1) := by decide +kernel
theorem d_withThingsHeld_4 : decode b_withThingsHeld 4 = .ok (.iload_n 3, 1) := by decide +kernel
theorem d_withThingsHeld_5 : decode b_withThingsHeld 5 = .ok (.bipush 24, 2) := by decide +kernel
theorem d_withThingsHeld_7 : decode b_withThingsHeld 7 = .ok (.if_icmp .ge 26, 3) := by decide +kernel
theorem d_withThingsHeld_10 : decode b_withThingsHeld 10 = .ok (.iload_n 2, 1) := by decide +kernel
theorem d_withThingsHeld_11 : decode b_withThingsHeld 11 = .ok (.iload_n 3, 1) := by decide +kernel
theorem d_withThingsHeld_12 : decode b_withThingsHeld 12 = .ok (.invokestatic 152, 3) := by decide +kernel
theorem d_withThingsHeld_15 : decode b_withThingsHeld 15 = .ok (.ifCond .eq 12, 3) := by decide +kernel
theorem d_withThingsHeld_18 : decode b_withThingsHeld 18 = .ok (.iload_n 2, 1) := by decide +kernel
theorem d_withThingsHeld_19 : decode b_withThingsHeld 19 = .ok (.aload_n 0, 1) := by decide +kernel
theorem d_withThingsHeld_20 : decode b_withThingsHeld 20 = .ok (.iload_n 3, 1) := by decide +kernel
theorem d_withThingsHeld_21 : decode b_withThingsHeld 21 = .ok (.iload_n 2, 1) := by decide +kernel
theorem d_withThingsHeld_22 : decode b_withThingsHeld 22 = .ok (.invokevirtual 183, 3) := by decide +kernel
theorem d_withThingsHeld_25 : decode b_withThingsHeld 25 = .ok (.ior, 1) := by decide +kernel
theorem d_withThingsHeld_26 : decode b_withThingsHeld 26 = .ok (.istore_n 2, 1) := by decide +kernel
theorem d_withThingsHeld_27 : decode b_withThingsHeld 27 = .ok (.iinc 3 1, 3) := by decide +kernel
theorem d_withThingsHeld_30 : decode b_withThingsHeld 30 = .ok (.goto (-26), 3) := by decide +kernel
theorem d_withThingsHeld_33 : decode b_withThingsHeld 33 = .ok (.iload_n 2, 1) := by decide +kernel
theorem d_withThingsHeld_34 : decode b_withThingsHeld 34 = .ok (.ireturn, 1) := by decide +kernel
theorem d_thingsHeldBy_0 : decode b_thingsHeldBy 0 = .ok (.aload_n 0, 1) := by decide +kernel
theorem d_thingsHeldBy_1 : decode b_thingsHeldBy 1 = .ok (.getfield 9, 3) := by decide +kernel
theorem d_thingsHeldBy_4 : decode b_thingsHeldBy 4 = .ok (.iload_n 1, 1) := by decide +kernel
theorem d_thingsHeldBy_5 : decode b_thingsHeldBy 5 = .ok (.iaload, 1) := by decide +kernel
theorem d_thingsHeldBy_6 : decode b_thingsHeldBy 6 = .ok (.ifCond .ne 9, 3) := by decide +kernel
theorem d_thingsHeldBy_9 : decode b_thingsHeldBy 9 = .ok (.aload_n 0, 1) := by decide +kernel
theorem d_thingsHeldBy_10 : decode b_thingsHeldBy 10 = .ok (.iload_n 1, 1) := by decide +kernel
theorem d_thingsHeldBy_11 : decode b_thingsHeldBy 11 = .ok (.invokevirtual 186, 3) := by decide +kernel
theorem d_thingsHeldBy_14 : decode b_thingsHeldBy 14 = .ok (.ireturn, 1) := by decide +kernel
theorem d_thingsHeldBy_15 : decode b_thingsHeldBy 15 = .ok (.aload_n 0, 1) := by decide +kernel
theorem d_thingsHeldBy_16 : decode b_thingsHeldBy 16 = .ok (.getfield 9, 3) := by decide +kernel
theorem d_thingsHeldBy_19 : decode b_thingsHeldBy 19 = .ok (.iload_n 1, 1) := by decide +kernel
theorem d_thingsHeldBy_20 : decode b_thingsHeldBy 20 = .ok (.iaload, 1) := by decide +kernel
theorem d_thingsHeldBy_21 : decode b_thingsHeldBy 21 = .ok (.iconst 2, 1) := by decide +kernel
theorem d_thingsHeldBy_22 : decode b_thingsHeldBy 22 = .ok (.if_icmp .ne 12, 3) := by decide +kernel
theorem d_thingsHeldBy_25 : decode b_thingsHeldBy 25 = .ok (.aload_n 0, 1) := by decide +kernel
theorem d_thingsHeldBy_26 : decode b_thingsHeldBy 26 = .ok (.iload_n 1, 1) := by decide +kernel
theorem d_thingsHeldBy_27 : decode b_thingsHeldBy 27 = .ok (.iload_n 2, 1) := by decide +kernel
theorem d_thingsHeldBy_28 : decode b_thingsHeldBy 28 = .ok (.invokevirtual 189, 3) := by decide +kernel
theorem d_thingsHeldBy_31 : decode b_thingsHeldBy 31 = .ok (.goto 4, 3) := by decide +kernel
theorem d_thingsHeldBy_34 : decode b_thingsHeldBy 34 = .ok (.iconst 0, 1) := by decide +kernel
theorem d_thingsHeldBy_35 : decode b_thingsHeldBy 35 = .ok (.ireturn, 1) := by decide +kernel
theorem d_thingsInFields_0 : decode b_thingsInFields 0 = .ok (.iconst 0, 1) := by decide +kernel
theorem d_thingsInFields_1 : decode b_thingsInFields 1 = .ok (.istore_n 2, 1) := by decide +kernel
theorem d_thingsInFields_2 : decode b_thingsInFields 2 = .ok (.iconst 0, 1) := by decide +kernel
theorem d_thingsInFields_3 : decode b_thingsInFields 3 = .ok (.istore_n 3, 1) := by decide +kernel
theorem d_thingsInFields_4 : decode b_thingsInFields 4 = .ok (.iload_n 3, 1) := by decide +kernel
theorem d_thingsInFields_5 : decode b_thingsInFields 5 = .ok (.iconst 3, 1) := by decide +kernel
theorem d_thingsInFields_6 : decode b_thingsInFields 6 = .ok (.if_icmp .ge 34, 3) := by decide +kernel
theorem d_thingsInFields_9 : decode b_thingsInFields 9 = .ok (.aload_n 0, 1) := by decide +kernel
theorem d_thingsInFields_10 : decode b_thingsInFields 10 = .ok (.getfield 16, 3) := by decide +kernel
theorem d_thingsInFields_13 : decode b_thingsInFields 13 = .ok (.iload_n 1, 1) := by decide +kernel
theorem d_thingsInFields_14 : decode b_thingsInFields 14 = .ok (.iload_n 3, 1) := by decide +kernel
theorem d_thingsInFields_15 : decode b_thingsInFields 15 = .ok (.invokestatic 76, 3) := by decide +kernel
theorem d_thingsInFields_18 : decode b_thingsInFields 18 = .ok (.iaload, 1) := by decide +kernel
theorem d_thingsInFields_19 : decode b_thingsInFields 19 = .ok (.istore 4, 2) := by decide +kernel
theorem d_thingsInFields_21 : decode b_thingsInFields 21 = .ok (.iload 4, 2) := by decide +kernel
theorem d_thingsInFields_23 : decode b_thingsInFields 23 = .ok (.iconst (-1), 1) := by decide +kernel
theorem d_thingsInFields_24 : decode b_thingsInFields 24 = .ok (.if_icmp .eq 10, 3) := by decide +kernel
theorem d_thingsInFields_27 : decode b_thingsInFields 27 = .ok (.iload_n 2, 1) := by decide +kernel
theorem d_thingsInFields_28 : decode b_thingsInFields 28 = .ok (.iconst 1, 1) := by decide +kernel
theorem d_thingsInFields_29 : decode b_thingsInFields 29 = .ok (.iload 4, 2) := by decide +kernel
theorem d_thingsInFields_31 : decode b_thingsInFields 31 = .ok (.ishl, 1) := by decide +kernel
theorem d_thingsInFields_32 : decode b_thingsInFields 32 = .ok (.ior, 1) := by decide +kernel
theorem d_thingsInFields_33 : decode b_thingsInFields 33 = .ok (.istore_n 2, 1) := by decide +kernel
theorem d_thingsInFields_34 : decode b_thingsInFields 34 = .ok (.iinc 3 1, 3) := by decide +kernel
theorem d_thingsInFields_37 : decode b_thingsInFields 37 = .ok (.goto (-33), 3) := by decide +kernel
theorem d_thingsInFields_40 : decode b_thingsInFields 40 = .ok (.iload_n 2, 1) := by decide +kernel
theorem d_thingsInFields_41 : decode b_thingsInFields 41 = .ok (.ireturn, 1) := by decide +kernel
theorem d_valuesOfKeysIn_0 : decode b_valuesOfKeysIn 0 = .ok (.iconst 0, 1) := by decide +kernel
theorem d_valuesOfKeysIn_1 : decode b_valuesOfKeysIn 1 = .ok (.istore_n 3, 1) := by decide +kernel
theorem d_valuesOfKeysIn_2 : decode b_valuesOfKeysIn 2 = .ok (.iconst 0, 1) := by decide +kernel
theorem d_valuesOfKeysIn_3 : decode b_valuesOfKeysIn 3 = .ok (.istore 4, 2) := by decide +kernel
theorem d_valuesOfKeysIn_5 : decode b_valuesOfKeysIn 5 = .ok (.iload 4, 2) := by decide +kernel
theorem d_valuesOfKeysIn_7 : decode b_valuesOfKeysIn 7 = .ok (.aload_n 0, 1) := by decide +kernel
theorem d_valuesOfKeysIn_8 : decode b_valuesOfKeysIn 8 = .ok (.getfield 25, 3) := by decide +kernel
theorem d_valuesOfKeysIn_11 : decode b_valuesOfKeysIn 11 = .ok (.iload_n 1, 1) := by decide +kernel
theorem d_valuesOfKeysIn_12 : decode b_valuesOfKeysIn 12 = .ok (.iaload, 1) := by decide +kernel
theorem d_valuesOfKeysIn_13 : decode b_valuesOfKeysIn 13 = .ok (.if_icmp .ge 43, 3) := by decide +kernel
theorem d_valuesOfKeysIn_16 : decode b_valuesOfKeysIn 16 = .ok (.iload_n 1, 1) := by decide +kernel
theorem d_valuesOfKeysIn_17 : decode b_valuesOfKeysIn 17 = .ok (.iload 4, 2) := by decide +kernel
theorem d_valuesOfKeysIn_19 : decode b_valuesOfKeysIn 19 = .ok (.invokestatic 86, 3) := by decide +kernel
theorem d_valuesOfKeysIn_22 : decode b_valuesOfKeysIn 22 = .ok (.istore 5, 2) := by decide +kernel
theorem d_valuesOfKeysIn_24 : decode b_valuesOfKeysIn 24 = .ok (.iload_n 2, 1) := by decide +kernel
theorem d_valuesOfKeysIn_25 : decode b_valuesOfKeysIn 25 = .ok (.aload_n 0, 1) := by decide +kernel
theorem d_valuesOfKeysIn_26 : decode b_valuesOfKeysIn 26 = .ok (.getfield 19, 3) := by decide +kernel
theorem d_valuesOfKeysIn_29 : decode b_valuesOfKeysIn 29 = .ok (.iload 5, 2) := by decide +kernel
theorem d_valuesOfKeysIn_31 : decode b_valuesOfKeysIn 31 = .ok (.iaload, 1) := by decide +kernel
theorem d_valuesOfKeysIn_32 : decode b_valuesOfKeysIn 32 = .ok (.invokestatic 152, 3) := by decide +kernel
theorem d_valuesOfKeysIn_35 : decode b_valuesOfKeysIn 35 = .ok (.ifCond .eq 15, 3) := by decide +kernel
theorem d_valuesOfKeysIn_38 : decode b_valuesOfKeysIn 38 = .ok (.iload_n 3, 1) := by decide +kernel
theorem d_valuesOfKeysIn_39 : decode b_valuesOfKeysIn 39 = .ok (.iconst 1, 1) := by decide +kernel
theorem d_valuesOfKeysIn_40 : decode b_valuesOfKeysIn 40 = .ok (.aload_n 0, 1) := by decide +kernel
theorem d_valuesOfKeysIn_41 : decode b_valuesOfKeysIn 41 = .ok (.getfield 22, 3) := by decide +kernel
theorem d_valuesOfKeysIn_44 : decode b_valuesOfKeysIn 44 = .ok (.iload 5, 2) := by decide +kernel
theorem d_valuesOfKeysIn_46 : decode b_valuesOfKeysIn 46 = .ok (.iaload, 1) := by decide +kernel
theorem d_valuesOfKeysIn_47 : decode b_valuesOfKeysIn 47 = .ok (.ishl, 1) := by decide +kernel
theorem d_valuesOfKeysIn_48 : decode b_valuesOfKeysIn 48 = .ok (.ior, 1) := by decide +kernel
theorem d_valuesOfKeysIn_49 : decode b_valuesOfKeysIn 49 = .ok (.istore_n 3, 1) := by decide +kernel
theorem d_valuesOfKeysIn_50 : decode b_valuesOfKeysIn 50 = .ok (.iinc 4 1, 3) := by decide +kernel
theorem d_valuesOfKeysIn_53 : decode b_valuesOfKeysIn 53 = .ok (.goto (-48), 3) := by decide +kernel
theorem d_valuesOfKeysIn_56 : decode b_valuesOfKeysIn 56 = .ok (.iload_n 3, 1) := by decide +kernel
theorem d_valuesOfKeysIn_57 : decode b_valuesOfKeysIn 57 = .ok (.ireturn, 1) := by decide +kernel
theorem d_forgetOutside_0 : decode b_forgetOutside 0 = .ok (.iconst 0, 1) := by decide +kernel
theorem d_forgetOutside_1 : decode b_forgetOutside 1 = .ok (.istore_n 2, 1) := by decide +kernel
theorem d_forgetOutside_2 : decode b_forgetOutside 2 = .ok (.iload_n 2, 1) := by decide +kernel
theorem d_forgetOutside_3 : decode b_forgetOutside 3 = .ok (.bipush 24, 2) := by decide +kernel
theorem d_forgetOutside_5 : decode b_forgetOutside 5 = .ok (.if_icmp .ge 52, 3) := by decide +kernel
theorem d_forgetOutside_8 : decode b_forgetOutside 8 = .ok (.iload_n 1, 1) := by decide +kernel
theorem d_forgetOutside_9 : decode b_forgetOutside 9 = .ok (.iload_n 2, 1) := by decide +kernel
theorem d_forgetOutside_10 : decode b_forgetOutside 10 = .ok (.invokestatic 152, 3) := by decide +kernel
theorem d_forgetOutside_13 : decode b_forgetOutside 13 = .ok (.ifCond .eq 38, 3) := by decide +kernel
theorem d_forgetOutside_16 : decode b_forgetOutside 16 = .ok (.aload_n 0, 1) := by decide +kernel
theorem d_forgetOutside_17 : decode b_forgetOutside 17 = .ok (.getfield 9, 3) := by decide +kernel
theorem d_forgetOutside_20 : decode b_forgetOutside 20 = .ok (.iload_n 2, 1) := by decide +kernel
theorem d_forgetOutside_21 : decode b_forgetOutside 21 = .ok (.iaload, 1) := by decide +kernel
theorem d_forgetOutside_22 : decode b_forgetOutside 22 = .ok (.iconst 1, 1) := by decide +kernel
theorem d_forgetOutside_23 : decode b_forgetOutside 23 = .ok (.if_icmp .ne 12, 3) := by decide +kernel
theorem d_forgetOutside_26 : decode b_forgetOutside 26 = .ok (.aload_n 0, 1) := by decide +kernel
theorem d_forgetOutside_27 : decode b_forgetOutside 27 = .ok (.iload_n 2, 1) := by decide +kernel
theorem d_forgetOutside_28 : decode b_forgetOutside 28 = .ok (.iload_n 1, 1) := by decide +kernel
theorem d_forgetOutside_29 : decode b_forgetOutside 29 = .ok (.invokevirtual 192, 3) := by decide +kernel
theorem d_forgetOutside_32 : decode b_forgetOutside 32 = .ok (.goto 19, 3) := by decide +kernel
theorem d_forgetOutside_35 : decode b_forgetOutside 35 = .ok (.aload_n 0, 1) := by decide +kernel
theorem d_forgetOutside_36 : decode b_forgetOutside 36 = .ok (.getfield 9, 3) := by decide +kernel
theorem d_forgetOutside_39 : decode b_forgetOutside 39 = .ok (.iload_n 2, 1) := by decide +kernel
theorem d_forgetOutside_40 : decode b_forgetOutside 40 = .ok (.iaload, 1) := by decide +kernel
theorem d_forgetOutside_41 : decode b_forgetOutside 41 = .ok (.iconst 2, 1) := by decide +kernel
theorem d_forgetOutside_42 : decode b_forgetOutside 42 = .ok (.if_icmp .ne 9, 3) := by decide +kernel
theorem d_forgetOutside_45 : decode b_forgetOutside 45 = .ok (.aload_n 0, 1) := by decide +kernel
theorem d_forgetOutside_46 : decode b_forgetOutside 46 = .ok (.iload_n 2, 1) := by decide +kernel
theorem d_forgetOutside_47 : decode b_forgetOutside 47 = .ok (.iload_n 1, 1) := by decide +kernel
theorem d_forgetOutside_48 : decode b_forgetOutside 48 = .ok (.invokevirtual 195, 3) := by decide +kernel
theorem d_forgetOutside_51 : decode b_forgetOutside 51 = .ok (.iinc 2 1, 3) := by decide +kernel
theorem d_forgetOutside_54 : decode b_forgetOutside 54 = .ok (.goto (-52), 3) := by decide +kernel
theorem d_forgetOutside_57 : decode b_forgetOutside 57 = .ok (.return_, 1) := by decide +kernel
theorem d_forgetReferentOutside_0 : decode b_forgetReferentOutside 0 = .ok (.iload_n 1, 1) := by decide +kernel
theorem d_forgetReferentOutside_1 : decode b_forgetReferentOutside 1 = .ok (.iconst 0, 1) := by decide +kernel
theorem d_forgetReferentOutside_2 : decode b_forgetReferentOutside 2 = .ok (.invokestatic 76, 3) := by decide +kernel
theorem d_forgetReferentOutside_5 : decode b_forgetReferentOutside 5 = .ok (.istore_n 3, 1) := by decide +kernel
theorem d_forgetReferentOutside_6 : decode b_forgetReferentOutside 6 = .ok (.aload_n 0, 1) := by decide +kernel
theorem d_forgetReferentOutside_7 : decode b_forgetReferentOutside 7 = .ok (.getfield 16, 3) := by decide +kernel
theorem d_forgetReferentOutside_10 : decode b_forgetReferentOutside 10 = .ok (.iload_n 3, 1) := by decide +kernel
theorem d_forgetReferentOutside_11 : decode b_forgetReferentOutside 11 = .ok (.iaload, 1) := by decide +kernel
theorem d_forgetReferentOutside_12 : decode b_forgetReferentOutside 12 = .ok (.iconst (-1), 1) := by decide +kernel
theorem d_forgetReferentOutside_13 : decode b_forgetReferentOutside 13 = .ok (.if_icmp .eq 23, 3) := by decide +kernel
theorem d_forgetReferentOutside_16 : decode b_forgetReferentOutside 16 = .ok (.iload_n 2, 1) := by decide +kernel
theorem d_forgetReferentOutside_17 : decode b_forgetReferentOutside 17 = .ok (.aload_n 0, 1) := by decide +kernel
theorem d_forgetReferentOutside_18 : decode b_forgetReferentOutside 18 = .ok (.getfield 16, 3) := by decide +kernel
theorem d_forgetReferentOutside_21 : decode b_forgetReferentOutside 21 = .ok (.iload_n 3, 1) := by decide +kernel
theorem d_forgetReferentOutside_22 : decode b_forgetReferentOutside 22 = .ok (.iaload, 1) := by decide +kernel
theorem d_forgetReferentOutside_23 : decode b_forgetReferentOutside 23 = .ok (.invokestatic 152, 3) := by decide +kernel
theorem d_forgetReferentOutside_26 : decode b_forgetReferentOutside 26 = .ok (.ifCond .ne 10, 3) := by decide +kernel
theorem d_forgetReferentOutside_29 : decode b_forgetReferentOutside 29 = .ok (.aload_n 0, 1) := by decide +kernel
theorem d_forgetReferentOutside_30 : decode b_forgetReferentOutside 30 = .ok (.getfield 16, 3) := by decide +kernel
theorem d_forgetReferentOutside_33 : decode b_forgetReferentOutside 33 = .ok (.iload_n 3, 1) := by decide +kernel
theorem d_forgetReferentOutside_34 : decode b_forgetReferentOutside 34 = .ok (.iconst (-1), 1) := by decide +kernel
theorem d_forgetReferentOutside_35 : decode b_forgetReferentOutside 35 = .ok (.iastore, 1) := by decide +kernel
theorem d_forgetReferentOutside_36 : decode b_forgetReferentOutside 36 = .ok (.return_, 1) := by decide +kernel
theorem d_forgetEntriesOutside_0 : decode b_forgetEntriesOutside 0 = .ok (.iconst 0, 1) := by decide +kernel
theorem d_forgetEntriesOutside_1 : decode b_forgetEntriesOutside 1 = .ok (.istore_n 3, 1) := by decide +kernel
theorem d_forgetEntriesOutside_2 : decode b_forgetEntriesOutside 2 = .ok (.iconst 0, 1) := by decide +kernel
theorem d_forgetEntriesOutside_3 : decode b_forgetEntriesOutside 3 = .ok (.istore 4, 2) := by decide +kernel
theorem d_forgetEntriesOutside_5 : decode b_forgetEntriesOutside 5 = .ok (.iload 4, 2) := by decide +kernel
theorem d_forgetEntriesOutside_7 : decode b_forgetEntriesOutside 7 = .ok (.aload_n 0, 1) := by decide +kernel
theorem d_forgetEntriesOutside_8 : decode b_forgetEntriesOutside 8 = .ok (.getfield 25, 3) := by decide +kernel
theorem d_forgetEntriesOutside_11 : decode b_forgetEntriesOutside 11 = .ok (.iload_n 1, 1) := by decide +kernel
theorem d_forgetEntriesOutside_12 : decode b_forgetEntriesOutside 12 = .ok (.iaload, 1) := by decide +kernel
theorem d_forgetEntriesOutside_13 : decode b_forgetEntriesOutside 13 = .ok (.if_icmp .ge 38, 3) := by decide +kernel
theorem d_forgetEntriesOutside_16 : decode b_forgetEntriesOutside 16 = .ok (.iload_n 2, 1) := by decide +kernel
theorem d_forgetEntriesOutside_17 : decode b_forgetEntriesOutside 17 = .ok (.aload_n 0, 1) := by decide +kernel
theorem d_forgetEntriesOutside_18 : decode b_forgetEntriesOutside 18 = .ok (.getfield 19, 3) := by decide +kernel
theorem d_forgetEntriesOutside_21 : decode b_forgetEntriesOutside 21 = .ok (.iload_n 1, 1) := by decide +kernel
theorem d_forgetEntriesOutside_22 : decode b_forgetEntriesOutside 22 = .ok (.iload 4, 2) := by decide +kernel
theorem d_forgetEntriesOutside_24 : decode b_forgetEntriesOutside 24 = .ok (.invokestatic 86, 3) := by decide +kernel
theorem d_forgetEntriesOutside_27 : decode b_forgetEntriesOutside 27 = .ok (.iaload, 1) := by decide +kernel
theorem d_forgetEntriesOutside_28 : decode b_forgetEntriesOutside 28 = .ok (.invokestatic 152, 3) := by decide +kernel
theorem d_forgetEntriesOutside_31 : decode b_forgetEntriesOutside 31 = .ok (.ifCond .eq 14, 3) := by decide +kernel
theorem d_forgetEntriesOutside_34 : decode b_forgetEntriesOutside 34 = .ok (.aload_n 0, 1) := by decide +kernel
theorem d_forgetEntriesOutside_35 : decode b_forgetEntriesOutside 35 = .ok (.iload_n 1, 1) := by decide +kernel
theorem d_forgetEntriesOutside_36 : decode b_forgetEntriesOutside 36 = .ok (.iload 4, 2) := by decide +kernel
theorem d_forgetEntriesOutside_38 : decode b_forgetEntriesOutside 38 = .ok (.iload_n 3, 1) := by decide +kernel
theorem d_forgetEntriesOutside_39 : decode b_forgetEntriesOutside 39 = .ok (.invokevirtual 177, 3) := by decide +kernel
theorem d_forgetEntriesOutside_42 : decode b_forgetEntriesOutside 42 = .ok (.iinc 3 1, 3) := by decide +kernel
theorem d_forgetEntriesOutside_45 : decode b_forgetEntriesOutside 45 = .ok (.iinc 4 1, 3) := by decide +kernel
theorem d_forgetEntriesOutside_48 : decode b_forgetEntriesOutside 48 = .ok (.goto (-43), 3) := by decide +kernel
theorem d_forgetEntriesOutside_51 : decode b_forgetEntriesOutside 51 = .ok (.aload_n 0, 1) := by decide +kernel
theorem d_forgetEntriesOutside_52 : decode b_forgetEntriesOutside 52 = .ok (.getfield 25, 3) := by decide +kernel
theorem d_forgetEntriesOutside_55 : decode b_forgetEntriesOutside 55 = .ok (.iload_n 1, 1) := by decide +kernel
theorem d_forgetEntriesOutside_56 : decode b_forgetEntriesOutside 56 = .ok (.iload_n 3, 1) := by decide +kernel
theorem d_forgetEntriesOutside_57 : decode b_forgetEntriesOutside 57 = .ok (.iastore, 1) := by decide +kernel
theorem d_forgetEntriesOutside_58 : decode b_forgetEntriesOutside 58 = .ok (.return_, 1) := by decide +kernel
theorem d_queueWaiting_0 : decode b_queueWaiting 0 = .ok (.iconst 0, 1) := by decide +kernel
theorem d_queueWaiting_1 : decode b_queueWaiting 1 = .ok (.istore_n 2, 1) := by decide +kernel
theorem d_queueWaiting_2 : decode b_queueWaiting 2 = .ok (.iload_n 2, 1) := by decide +kernel
theorem d_queueWaiting_3 : decode b_queueWaiting 3 = .ok (.bipush 24, 2) := by decide +kernel
theorem d_queueWaiting_5 : decode b_queueWaiting 5 = .ok (.if_icmp .ge 63, 3) := by decide +kernel
theorem d_queueWaiting_8 : decode b_queueWaiting 8 = .ok (.iload_n 1, 1) := by decide +kernel
theorem d_queueWaiting_9 : decode b_queueWaiting 9 = .ok (.iload_n 2, 1) := by decide +kernel
theorem d_queueWaiting_10 : decode b_queueWaiting 10 = .ok (.invokestatic 152, 3) := by decide +kernel
theorem d_queueWaiting_13 : decode b_queueWaiting 13 = .ok (.ifCond .eq 49, 3) := by decide +kernel
theorem d_queueWaiting_16 : decode b_queueWaiting 16 = .ok (.aload_n 0, 1) := by decide +kernel
theorem d_queueWaiting_17 : decode b_queueWaiting 17 = .ok (.getfield 28, 3) := by decide +kernel
theorem d_queueWaiting_20 : decode b_queueWaiting 20 = .ok (.iload_n 2, 1) := by decide +kernel
theorem d_queueWaiting_21 : decode b_queueWaiting 21 = .ok (.iaload, 1) := by decide +kernel
theorem d_queueWaiting_22 : decode b_queueWaiting 22 = .ok (.iconst 1, 1) := by decide +kernel
theorem d_queueWaiting_23 : decode b_queueWaiting 23 = .ok (.if_icmp .ne 39, 3) := by decide +kernel
theorem d_queueWaiting_26 : decode b_queueWaiting 26 = .ok (.aload_n 0, 1) := by decide +kernel
theorem d_queueWaiting_27 : decode b_queueWaiting 27 = .ok (.getfield 138, 3) := by decide +kernel
theorem d_queueWaiting_30 : decode b_queueWaiting 30 = .ok (.bipush 24, 2) := by decide +kernel
theorem d_queueWaiting_32 : decode b_queueWaiting 32 = .ok (.if_icmp .ge 30, 3) := by decide +kernel
theorem d_queueWaiting_35 : decode b_queueWaiting 35 = .ok (.aload_n 0, 1) := by decide +kernel
theorem d_queueWaiting_36 : decode b_queueWaiting 36 = .ok (.getfield 28, 3) := by decide +kernel
theorem d_queueWaiting_39 : decode b_queueWaiting 39 = .ok (.iload_n 2, 1) := by decide +kernel
theorem d_queueWaiting_40 : decode b_queueWaiting 40 = .ok (.iconst 2, 1) := by decide +kernel
theorem d_queueWaiting_41 : decode b_queueWaiting 41 = .ok (.iastore, 1) := by decide +kernel
theorem d_queueWaiting_42 : decode b_queueWaiting 42 = .ok (.aload_n 0, 1) := by decide +kernel
theorem d_queueWaiting_43 : decode b_queueWaiting 43 = .ok (.getfield 40, 3) := by decide +kernel
theorem d_queueWaiting_46 : decode b_queueWaiting 46 = .ok (.aload_n 0, 1) := by decide +kernel
theorem d_queueWaiting_47 : decode b_queueWaiting 47 = .ok (.getfield 138, 3) := by decide +kernel
theorem d_queueWaiting_50 : decode b_queueWaiting 50 = .ok (.iload_n 2, 1) := by decide +kernel
theorem d_queueWaiting_51 : decode b_queueWaiting 51 = .ok (.iastore, 1) := by decide +kernel
theorem d_queueWaiting_52 : decode b_queueWaiting 52 = .ok (.aload_n 0, 1) := by decide +kernel
theorem d_queueWaiting_53 : decode b_queueWaiting 53 = .ok (.dup, 1) := by decide +kernel
theorem d_queueWaiting_54 : decode b_queueWaiting 54 = .ok (.getfield 138, 3) := by decide +kernel
theorem d_queueWaiting_57 : decode b_queueWaiting 57 = .ok (.iconst 1, 1) := by decide +kernel
theorem d_queueWaiting_58 : decode b_queueWaiting 58 = .ok (.iadd, 1) := by decide +kernel
theorem d_queueWaiting_59 : decode b_queueWaiting 59 = .ok (.putfield 138, 3) := by decide +kernel
theorem d_queueWaiting_62 : decode b_queueWaiting 62 = .ok (.iinc 2 1, 3) := by decide +kernel
theorem d_queueWaiting_65 : decode b_queueWaiting 65 = .ok (.goto (-63), 3) := by decide +kernel
theorem d_queueWaiting_68 : decode b_queueWaiting 68 = .ok (.return_, 1) := by decide +kernel
theorem d_takeFirstQueued_0 : decode b_takeFirstQueued 0 = .ok (.aload_n 0, 1) := by decide +kernel
theorem d_takeFirstQueued_1 : decode b_takeFirstQueued 1 = .ok (.getfield 40, 3) := by decide +kernel
theorem d_takeFirstQueued_4 : decode b_takeFirstQueued 4 = .ok (.iconst 0, 1) := by decide +kernel
theorem d_takeFirstQueued_5 : decode b_takeFirstQueued 5 = .ok (.iaload, 1) := by decide +kernel
theorem d_takeFirstQueued_6 : decode b_takeFirstQueued 6 = .ok (.istore_n 1, 1) := by decide +kernel
theorem d_takeFirstQueued_7 : decode b_takeFirstQueued 7 = .ok (.aload_n 0, 1) := by decide +kernel
theorem d_takeFirstQueued_8 : decode b_takeFirstQueued 8 = .ok (.dup, 1) := by decide +kernel
theorem d_takeFirstQueued_9 : decode b_takeFirstQueued 9 = .ok (.getfield 138, 3) := by decide +kernel
theorem d_takeFirstQueued_12 : decode b_takeFirstQueued 12 = .ok (.iconst 1, 1) := by decide +kernel
theorem d_takeFirstQueued_13 : decode b_takeFirstQueued 13 = .ok (.isub, 1) := by decide +kernel
theorem d_takeFirstQueued_14 : decode b_takeFirstQueued 14 = .ok (.putfield 138, 3) := by decide +kernel
theorem d_takeFirstQueued_17 : decode b_takeFirstQueued 17 = .ok (.iconst 0, 1) := by decide +kernel
theorem d_takeFirstQueued_18 : decode b_takeFirstQueued 18 = .ok (.istore_n 2, 1) := by decide +kernel
theorem d_takeFirstQueued_19 : decode b_takeFirstQueued 19 = .ok (.iload_n 2, 1) := by decide +kernel
theorem d_takeFirstQueued_20 : decode b_takeFirstQueued 20 = .ok (.aload_n 0, 1) := by decide +kernel
theorem d_takeFirstQueued_21 : decode b_takeFirstQueued 21 = .ok (.getfield 138, 3) := by decide +kernel
theorem d_takeFirstQueued_24 : decode b_takeFirstQueued 24 = .ok (.if_icmp .ge 23, 3) := by decide +kernel
theorem d_takeFirstQueued_27 : decode b_takeFirstQueued 27 = .ok (.aload_n 0, 1) := by decide +kernel
theorem d_takeFirstQueued_28 : decode b_takeFirstQueued 28 = .ok (.getfield 40, 3) := by decide +kernel
theorem d_takeFirstQueued_31 : decode b_takeFirstQueued 31 = .ok (.iload_n 2, 1) := by decide +kernel
theorem d_takeFirstQueued_32 : decode b_takeFirstQueued 32 = .ok (.aload_n 0, 1) := by decide +kernel
theorem d_takeFirstQueued_33 : decode b_takeFirstQueued 33 = .ok (.getfield 40, 3) := by decide +kernel
theorem d_takeFirstQueued_36 : decode b_takeFirstQueued 36 = .ok (.iload_n 2, 1) := by decide +kernel
theorem d_takeFirstQueued_37 : decode b_takeFirstQueued 37 = .ok (.iconst 1, 1) := by decide +kernel
theorem d_takeFirstQueued_38 : decode b_takeFirstQueued 38 = .ok (.iadd, 1) := by decide +kernel
theorem d_takeFirstQueued_39 : decode b_takeFirstQueued 39 = .ok (.iaload, 1) := by decide +kernel
theorem d_takeFirstQueued_40 : decode b_takeFirstQueued 40 = .ok (.iastore, 1) := by decide +kernel
theorem d_takeFirstQueued_41 : decode b_takeFirstQueued 41 = .ok (.iinc 2 1, 3) := by decide +kernel
theorem d_takeFirstQueued_44 : decode b_takeFirstQueued 44 = .ok (.goto (-25), 3) := by decide +kernel
theorem d_takeFirstQueued_47 : decode b_takeFirstQueued 47 = .ok (.iload_n 1, 1) := by decide +kernel
theorem d_takeFirstQueued_48 : decode b_takeFirstQueued 48 = .ok (.ireturn, 1) := by decide +kernel
theorem d_performAction_0 : decode b_performAction 0 = .ok (.aload_n 0, 1) := by decide +kernel
theorem d_performAction_1 : decode b_performAction 1 = .ok (.getfield 31, 3) := by decide +kernel
theorem d_performAction_4 : decode b_performAction 4 = .ok (.iload_n 1, 1) := by decide +kernel
theorem d_performAction_5 : decode b_performAction 5 = .ok (.iaload, 1) := by decide +kernel
theorem d_performAction_6 : decode b_performAction 6 = .ok (.tableswitch 82 1 3 #[26, 41, 74], 26) := by decide +kernel
theorem d_performAction_32 : decode b_performAction 32 = .ok (.aload_n 0, 1) := by decide +kernel
theorem d_performAction_33 : decode b_performAction 33 = .ok (.getfield 37, 3) := by decide +kernel
theorem d_performAction_36 : decode b_performAction 36 = .ok (.aload_n 0, 1) := by decide +kernel
theorem d_performAction_37 : decode b_performAction 37 = .ok (.getfield 34, 3) := by decide +kernel
theorem d_performAction_40 : decode b_performAction 40 = .ok (.iload_n 1, 1) := by decide +kernel
theorem d_performAction_41 : decode b_performAction 41 = .ok (.iaload, 1) := by decide +kernel
theorem d_performAction_42 : decode b_performAction 42 = .ok (.iload_n 1, 1) := by decide +kernel
theorem d_performAction_43 : decode b_performAction 43 = .ok (.iastore, 1) := by decide +kernel
theorem d_performAction_44 : decode b_performAction 44 = .ok (.goto 44, 3) := by decide +kernel
theorem d_performAction_47 : decode b_performAction 47 = .ok (.aload_n 0, 1) := by decide +kernel
theorem d_performAction_48 : decode b_performAction 48 = .ok (.getfield 9, 3) := by decide +kernel
theorem d_performAction_51 : decode b_performAction 51 = .ok (.iload_n 1, 1) := by decide +kernel
theorem d_performAction_52 : decode b_performAction 52 = .ok (.iaload, 1) := by decide +kernel
theorem d_performAction_53 : decode b_performAction 53 = .ok (.ifCond .ne 35, 3) := by decide +kernel
theorem d_performAction_56 : decode b_performAction 56 = .ok (.aload_n 0, 1) := by decide +kernel
theorem d_performAction_57 : decode b_performAction 57 = .ok (.getfield 37, 3) := by decide +kernel
theorem d_performAction_60 : decode b_performAction 60 = .ok (.aload_n 0, 1) := by decide +kernel
theorem d_performAction_61 : decode b_performAction 61 = .ok (.getfield 34, 3) := by decide +kernel
theorem d_performAction_64 : decode b_performAction 64 = .ok (.iload_n 1, 1) := by decide +kernel
theorem d_performAction_65 : decode b_performAction 65 = .ok (.iaload, 1) := by decide +kernel
theorem d_performAction_66 : decode b_performAction 66 = .ok (.aload_n 0, 1) := by decide +kernel
theorem d_performAction_67 : decode b_performAction 67 = .ok (.getfield 16, 3) := by decide +kernel
theorem d_performAction_70 : decode b_performAction 70 = .ok (.iload_n 1, 1) := by decide +kernel
theorem d_performAction_71 : decode b_performAction 71 = .ok (.iconst 0, 1) := by decide +kernel
theorem d_performAction_72 : decode b_performAction 72 = .ok (.invokestatic 76, 3) := by decide +kernel
theorem d_performAction_75 : decode b_performAction 75 = .ok (.iaload, 1) := by decide +kernel
theorem d_performAction_76 : decode b_performAction 76 = .ok (.iastore, 1) := by decide +kernel
theorem d_performAction_77 : decode b_performAction 77 = .ok (.goto 11, 3) := by decide +kernel
theorem d_performAction_80 : decode b_performAction 80 = .ok (.aload_n 0, 1) := by decide +kernel
theorem d_performAction_81 : decode b_performAction 81 = .ok (.iload_n 1, 1) := by decide +kernel
theorem d_performAction_82 : decode b_performAction 82 = .ok (.invokevirtual 174, 3) := by decide +kernel
theorem d_performAction_85 : decode b_performAction 85 = .ok (.goto 3, 3) := by decide +kernel
theorem d_performAction_88 : decode b_performAction 88 = .ok (.return_, 1) := by decide +kernel
end
section
/-! the class's own fields and arrays -/
section RowsX
variable {p : Program} {l : Launch} {e : Env} {R : Room} {s : State} {m : MethodId} {args : Array Value} {below : List Frame} {meth : Method} {c : Code} {cells slots nL : Nat} {Q : State → Prop} {D : va_G} {w0 : va_W} {cc : ByteArray} {c0 : Cond} {pc : Nat} {lv : List (Nat × Value)} {st : List Value} {cI cB cL : ClassId} {h : Nat → Nat} {σ : St}
theorem in_X : ∀ w ∈ u_ws R_X F_X 15, w ∈ c0 :: wX := fun w h => List.mem_cons_of_mem _ (inX_u w h)
theorem xn_0 (Z : zC p s m args meth c cc nL R_X (c0 :: wX) D zCl (zTy cI cB cL) w0) (d : decode cc pc = .ok (.getfield 124, 3)) (k : zAt p l e R s m args below meth c D zCl w0 nL cells slots Q (wx h cI σ) (pc + 3) lv (.int (σ 0 0) :: st)) : zAt p l e R s m args below meth c D zCl w0 nL cells slots Q (wx h cI σ) pc lv (.ref (h 0) :: st) := z_get Z in_X 0 rfl rfl 0 (by decide) (List.mem_cons_of_mem _ lk_X_occupied) rfl d k
theorem xp_0 (Z : zC p s m args meth c cc nL R_X (c0 :: wX) D zCl (zTy cI cB cL) w0) {x : Int32} (d : decode cc pc = .ok (.putfield 124, 3)) (k : zAt p l e R s m args below meth c D zCl w0 nL cells slots Q (wx h cI (va_up σ 0 (upd (σ 0) 0 x))) (pc + 3) lv st) : zAt p l e R s m args below meth c D zCl w0 nL cells slots Q (wx h cI σ) pc lv (.int x :: .ref (h 0) :: st) := z_put (ws' := (wx h cI (va_up σ 0 (upd (σ 0) 0 x)))) Z in_X t_X t_X_ok n_X 0 rfl rfl 0 (by decide) (List.mem_cons_of_mem _ lk_X_occupied) rfl (ty := .int) (by decide +kernel) rfl rfl (Nat.le_of_ble_eq_true rfl) d rfl k
theorem xg_1 (Z : zC p s m args meth c cc nL R_X (c0 :: wX) D zCl (zTy cI cB cL) w0) (d : decode cc pc = .ok (.getfield 9, 3)) (k : zAt p l e R s m args below meth c D zCl w0 nL cells slots Q (wx h cI σ) (pc + 3) lv (.ref (h 1) :: st)) : zAt p l e R s m args below meth c D zCl w0 nL cells slots Q (wx h cI σ) pc lv (.ref (h 0) :: st) := z_get Z in_X 0 rfl rfl 1 (by decide) (List.mem_cons_of_mem _ lk_X_kinds) rfl d k
theorem xl_1 (Z : zC p s m args meth c cc nL R_X (c0 :: wX) D zCl (zTy cI cB cL) w0) {j : Nat} (hj : j < 24) (d : decode cc pc = .ok (.iaload, 1)) (k : zAt p l e R s m args below meth c D zCl w0 nL cells slots Q (wx h cI σ) (pc + 1) lv (.int (σ 1 j) :: st)) : zAt p l e R s m args below meth c D zCl w0 nL cells slots Q (wx h cI σ) pc lv (.int (nI j) :: .ref (h 1) :: st) := z_iald Z 1 0 rfl rfl hj (by decide) d k
theorem xs_1 (Z : zC p s m args meth c cc nL R_X (c0 :: wX) D zCl (zTy cI cB cL) w0) {j : Nat} {x : Int32} (hj : j < 24) (d : decode cc pc = .ok (.iastore, 1)) (k : zAt p l e R s m args below meth c D zCl w0 nL cells slots Q (wx h cI (va_up σ 1 (upd (σ 1) j x))) (pc + 1) lv st) : zAt p l e R s m args below meth c D zCl w0 nL cells slots Q (wx h cI σ) pc lv (.int x :: .int (nI j) :: .ref (h 1) :: st) := z_iast Z 1 0 rfl rfl hj (by decide) d rfl k
theorem xg_2 (Z : zC p s m args meth c cc nL R_X (c0 :: wX) D zCl (zTy cI cB cL) w0) (d : decode cc pc = .ok (.getfield 13, 3)) (k : zAt p l e R s m args below meth c D zCl w0 nL cells slots Q (wx h cI σ) (pc + 3) lv (.ref (h 2) :: st)) : zAt p l e R s m args below meth c D zCl w0 nL cells slots Q (wx h cI σ) pc lv (.ref (h 0) :: st) := z_get Z in_X 0 rfl rfl 2 (by decide) (List.mem_cons_of_mem _ lk_X_serials) rfl d k
theorem xl_2 (Z : zC p s m args meth c cc nL R_X (c0 :: wX) D zCl (zTy cI cB cL) w0) {j : Nat} (hj : j < 24) (d : decode cc pc = .ok (.iaload, 1)) (k : zAt p l e R s m args below meth c D zCl w0 nL cells slots Q (wx h cI σ) (pc + 1) lv (.int (σ 2 j) :: st)) : zAt p l e R s m args below meth c D zCl w0 nL cells slots Q (wx h cI σ) pc lv (.int (nI j) :: .ref (h 2) :: st) := z_iald Z 2 0 rfl rfl hj (by decide) d k
theorem xs_2 (Z : zC p s m args meth c cc nL R_X (c0 :: wX) D zCl (zTy cI cB cL) w0) {j : Nat} {x : Int32} (hj : j < 24) (d : decode cc pc = .ok (.iastore, 1)) (k : zAt p l e R s m args below meth c D zCl w0 nL cells slots Q (wx h cI (va_up σ 2 (upd (σ 2) j x))) (pc + 1) lv st) : zAt p l e R s m args below meth c D zCl w0 nL cells slots Q (wx h cI σ) pc lv (.int x :: .int (nI j) :: .ref (h 2) :: st) := z_iast Z 2 0 rfl rfl hj (by decide) d rfl k
theorem xg_3 (Z : zC p s m args meth c cc nL R_X (c0 :: wX) D zCl (zTy cI cB cL) w0) (d : decode cc pc = .ok (.getfield 16, 3)) (k : zAt p l e R s m args below meth c D zCl w0 nL cells slots Q (wx h cI σ) (pc + 3) lv (.ref (h 3) :: st)) : zAt p l e R s m args below meth c D zCl w0 nL cells slots Q (wx h cI σ) pc lv (.ref (h 0) :: st) := z_get Z in_X 0 rfl rfl 3 (by decide) (List.mem_cons_of_mem _ lk_X_fields) rfl d k
theorem xl_3 (Z : zC p s m args meth c cc nL R_X (c0 :: wX) D zCl (zTy cI cB cL) w0) {j : Nat} (hj : j < 72) (d : decode cc pc = .ok (.iaload, 1)) (k : zAt p l e R s m args below meth c D zCl w0 nL cells slots Q (wx h cI σ) (pc + 1) lv (.int (σ 3 j) :: st)) : zAt p l e R s m args below meth c D zCl w0 nL cells slots Q (wx h cI σ) pc lv (.int (nI j) :: .ref (h 3) :: st) := z_iald Z 3 0 rfl rfl hj (by decide) d k
theorem xs_3 (Z : zC p s m args meth c cc nL R_X (c0 :: wX) D zCl (zTy cI cB cL) w0) {j : Nat} {x : Int32} (hj : j < 72) (d : decode cc pc = .ok (.iastore, 1)) (k : zAt p l e R s m args below meth c D zCl w0 nL cells slots Q (wx h cI (va_up σ 3 (upd (σ 3) j x))) (pc + 1) lv st) : zAt p l e R s m args below meth c D zCl w0 nL cells slots Q (wx h cI σ) pc lv (.int x :: .int (nI j) :: .ref (h 3) :: st) := z_iast Z 3 0 rfl rfl hj (by decide) d rfl k
theorem xg_4 (Z : zC p s m args meth c cc nL R_X (c0 :: wX) D zCl (zTy cI cB cL) w0) (d : decode cc pc = .ok (.getfield 19, 3)) (k : zAt p l e R s m args below meth c D zCl w0 nL cells slots Q (wx h cI σ) (pc + 3) lv (.ref (h 4) :: st)) : zAt p l e R s m args below meth c D zCl w0 nL cells slots Q (wx h cI σ) pc lv (.ref (h 0) :: st) := z_get Z in_X 0 rfl rfl 4 (by decide) (List.mem_cons_of_mem _ lk_X_keys) rfl d k
theorem xl_4 (Z : zC p s m args meth c cc nL R_X (c0 :: wX) D zCl (zTy cI cB cL) w0) {j : Nat} (hj : j < 96) (d : decode cc pc = .ok (.iaload, 1)) (k : zAt p l e R s m args below meth c D zCl w0 nL cells slots Q (wx h cI σ) (pc + 1) lv (.int (σ 4 j) :: st)) : zAt p l e R s m args below meth c D zCl w0 nL cells slots Q (wx h cI σ) pc lv (.int (nI j) :: .ref (h 4) :: st) := z_iald Z 4 0 rfl rfl hj (by decide) d k
theorem xs_4 (Z : zC p s m args meth c cc nL R_X (c0 :: wX) D zCl (zTy cI cB cL) w0) {j : Nat} {x : Int32} (hj : j < 96) (d : decode cc pc = .ok (.iastore, 1)) (k : zAt p l e R s m args below meth c D zCl w0 nL cells slots Q (wx h cI (va_up σ 4 (upd (σ 4) j x))) (pc + 1) lv st) : zAt p l e R s m args below meth c D zCl w0 nL cells slots Q (wx h cI σ) pc lv (.int x :: .int (nI j) :: .ref (h 4) :: st) := z_iast Z 4 0 rfl rfl hj (by decide) d rfl k
theorem xg_5 (Z : zC p s m args meth c cc nL R_X (c0 :: wX) D zCl (zTy cI cB cL) w0) (d : decode cc pc = .ok (.getfield 22, 3)) (k : zAt p l e R s m args below meth c D zCl w0 nL cells slots Q (wx h cI σ) (pc + 3) lv (.ref (h 5) :: st)) : zAt p l e R s m args below meth c D zCl w0 nL cells slots Q (wx h cI σ) pc lv (.ref (h 0) :: st) := z_get Z in_X 0 rfl rfl 5 (by decide) (List.mem_cons_of_mem _ lk_X_values) rfl d k
theorem xl_5 (Z : zC p s m args meth c cc nL R_X (c0 :: wX) D zCl (zTy cI cB cL) w0) {j : Nat} (hj : j < 96) (d : decode cc pc = .ok (.iaload, 1)) (k : zAt p l e R s m args below meth c D zCl w0 nL cells slots Q (wx h cI σ) (pc + 1) lv (.int (σ 5 j) :: st)) : zAt p l e R s m args below meth c D zCl w0 nL cells slots Q (wx h cI σ) pc lv (.int (nI j) :: .ref (h 5) :: st) := z_iald Z 5 0 rfl rfl hj (by decide) d k
theorem xs_5 (Z : zC p s m args meth c cc nL R_X (c0 :: wX) D zCl (zTy cI cB cL) w0) {j : Nat} {x : Int32} (hj : j < 96) (d : decode cc pc = .ok (.iastore, 1)) (k : zAt p l e R s m args below meth c D zCl w0 nL cells slots Q (wx h cI (va_up σ 5 (upd (σ 5) j x))) (pc + 1) lv st) : zAt p l e R s m args below meth c D zCl w0 nL cells slots Q (wx h cI σ) pc lv (.int x :: .int (nI j) :: .ref (h 5) :: st) := z_iast Z 5 0 rfl rfl hj (by decide) d rfl k
theorem xg_6 (Z : zC p s m args meth c cc nL R_X (c0 :: wX) D zCl (zTy cI cB cL) w0) (d : decode cc pc = .ok (.getfield 25, 3)) (k : zAt p l e R s m args below meth c D zCl w0 nL cells slots Q (wx h cI σ) (pc + 3) lv (.ref (h 6) :: st)) : zAt p l e R s m args below meth c D zCl w0 nL cells slots Q (wx h cI σ) pc lv (.ref (h 0) :: st) := z_get Z in_X 0 rfl rfl 6 (by decide) (List.mem_cons_of_mem _ lk_X_entryCounts) rfl d k
theorem xl_6 (Z : zC p s m args meth c cc nL R_X (c0 :: wX) D zCl (zTy cI cB cL) w0) {j : Nat} (hj : j < 24) (d : decode cc pc = .ok (.iaload, 1)) (k : zAt p l e R s m args below meth c D zCl w0 nL cells slots Q (wx h cI σ) (pc + 1) lv (.int (σ 6 j) :: st)) : zAt p l e R s m args below meth c D zCl w0 nL cells slots Q (wx h cI σ) pc lv (.int (nI j) :: .ref (h 6) :: st) := z_iald Z 6 0 rfl rfl hj (by decide) d k
theorem xs_6 (Z : zC p s m args meth c cc nL R_X (c0 :: wX) D zCl (zTy cI cB cL) w0) {j : Nat} {x : Int32} (hj : j < 24) (d : decode cc pc = .ok (.iastore, 1)) (k : zAt p l e R s m args below meth c D zCl w0 nL cells slots Q (wx h cI (va_up σ 6 (upd (σ 6) j x))) (pc + 1) lv st) : zAt p l e R s m args below meth c D zCl w0 nL cells slots Q (wx h cI σ) pc lv (.int x :: .int (nI j) :: .ref (h 6) :: st) := z_iast Z 6 0 rfl rfl hj (by decide) d rfl k
theorem xg_7 (Z : zC p s m args meth c cc nL R_X (c0 :: wX) D zCl (zTy cI cB cL) w0) (d : decode cc pc = .ok (.getfield 28, 3)) (k : zAt p l e R s m args below meth c D zCl w0 nL cells slots Q (wx h cI σ) (pc + 3) lv (.ref (h 7) :: st)) : zAt p l e R s m args below meth c D zCl w0 nL cells slots Q (wx h cI σ) pc lv (.ref (h 0) :: st) := z_get Z in_X 0 rfl rfl 7 (by decide) (List.mem_cons_of_mem _ lk_X_states) rfl d k
theorem xl_7 (Z : zC p s m args meth c cc nL R_X (c0 :: wX) D zCl (zTy cI cB cL) w0) {j : Nat} (hj : j < 24) (d : decode cc pc = .ok (.iaload, 1)) (k : zAt p l e R s m args below meth c D zCl w0 nL cells slots Q (wx h cI σ) (pc + 1) lv (.int (σ 7 j) :: st)) : zAt p l e R s m args below meth c D zCl w0 nL cells slots Q (wx h cI σ) pc lv (.int (nI j) :: .ref (h 7) :: st) := z_iald Z 7 0 rfl rfl hj (by decide) d k
theorem xs_7 (Z : zC p s m args meth c cc nL R_X (c0 :: wX) D zCl (zTy cI cB cL) w0) {j : Nat} {x : Int32} (hj : j < 24) (d : decode cc pc = .ok (.iastore, 1)) (k : zAt p l e R s m args below meth c D zCl w0 nL cells slots Q (wx h cI (va_up σ 7 (upd (σ 7) j x))) (pc + 1) lv st) : zAt p l e R s m args below meth c D zCl w0 nL cells slots Q (wx h cI σ) pc lv (.int x :: .int (nI j) :: .ref (h 7) :: st) := z_iast Z 7 0 rfl rfl hj (by decide) d rfl k
theorem xg_8 (Z : zC p s m args meth c cc nL R_X (c0 :: wX) D zCl (zTy cI cB cL) w0) (d : decode cc pc = .ok (.getfield 31, 3)) (k : zAt p l e R s m args below meth c D zCl w0 nL cells slots Q (wx h cI σ) (pc + 3) lv (.ref (h 8) :: st)) : zAt p l e R s m args below meth c D zCl w0 nL cells slots Q (wx h cI σ) pc lv (.ref (h 0) :: st) := z_get Z in_X 0 rfl rfl 8 (by decide) (List.mem_cons_of_mem _ lk_X_actions) rfl d k
theorem xl_8 (Z : zC p s m args meth c cc nL R_X (c0 :: wX) D zCl (zTy cI cB cL) w0) {j : Nat} (hj : j < 24) (d : decode cc pc = .ok (.iaload, 1)) (k : zAt p l e R s m args below meth c D zCl w0 nL cells slots Q (wx h cI σ) (pc + 1) lv (.int (σ 8 j) :: st)) : zAt p l e R s m args below meth c D zCl w0 nL cells slots Q (wx h cI σ) pc lv (.int (nI j) :: .ref (h 8) :: st) := z_iald Z 8 0 rfl rfl hj (by decide) d k
theorem xs_8 (Z : zC p s m args meth c cc nL R_X (c0 :: wX) D zCl (zTy cI cB cL) w0) {j : Nat} {x : Int32} (hj : j < 24) (d : decode cc pc = .ok (.iastore, 1)) (k : zAt p l e R s m args below meth c D zCl w0 nL cells slots Q (wx h cI (va_up σ 8 (upd (σ 8) j x))) (pc + 1) lv st) : zAt p l e R s m args below meth c D zCl w0 nL cells slots Q (wx h cI σ) pc lv (.int x :: .int (nI j) :: .ref (h 8) :: st) := z_iast Z 8 0 rfl rfl hj (by decide) d rfl k
theorem xg_9 (Z : zC p s m args meth c cc nL R_X (c0 :: wX) D zCl (zTy cI cB cL) w0) (d : decode cc pc = .ok (.getfield 34, 3)) (k : zAt p l e R s m args below meth c D zCl w0 nL cells slots Q (wx h cI σ) (pc + 3) lv (.ref (h 9) :: st)) : zAt p l e R s m args below meth c D zCl w0 nL cells slots Q (wx h cI σ) pc lv (.ref (h 0) :: st) := z_get Z in_X 0 rfl rfl 9 (by decide) (List.mem_cons_of_mem _ lk_X_targets) rfl d k
theorem xl_9 (Z : zC p s m args meth c cc nL R_X (c0 :: wX) D zCl (zTy cI cB cL) w0) {j : Nat} (hj : j < 24) (d : decode cc pc = .ok (.iaload, 1)) (k : zAt p l e R s m args below meth c D zCl w0 nL cells slots Q (wx h cI σ) (pc + 1) lv (.int (σ 9 j) :: st)) : zAt p l e R s m args below meth c D zCl w0 nL cells slots Q (wx h cI σ) pc lv (.int (nI j) :: .ref (h 9) :: st) := z_iald Z 9 0 rfl rfl hj (by decide) d k
theorem xs_9 (Z : zC p s m args meth c cc nL R_X (c0 :: wX) D zCl (zTy cI cB cL) w0) {j : Nat} {x : Int32} (hj : j < 24) (d : decode cc pc = .ok (.iastore, 1)) (k : zAt p l e R s m args below meth c D zCl w0 nL cells slots Q (wx h cI (va_up σ 9 (upd (σ 9) j x))) (pc + 1) lv st) : zAt p l e R s m args below meth c D zCl w0 nL cells slots Q (wx h cI σ) pc lv (.int x :: .int (nI j) :: .ref (h 9) :: st) := z_iast Z 9 0 rfl rfl hj (by decide) d rfl k
theorem xg_10 (Z : zC p s m args meth c cc nL R_X (c0 :: wX) D zCl (zTy cI cB cL) w0) (d : decode cc pc = .ok (.getfield 37, 3)) (k : zAt p l e R s m args below meth c D zCl w0 nL cells slots Q (wx h cI σ) (pc + 3) lv (.ref (h 10) :: st)) : zAt p l e R s m args below meth c D zCl w0 nL cells slots Q (wx h cI σ) pc lv (.ref (h 0) :: st) := z_get Z in_X 0 rfl rfl 10 (by decide) (List.mem_cons_of_mem _ lk_X_roots) rfl d k
theorem xl_10 (Z : zC p s m args meth c cc nL R_X (c0 :: wX) D zCl (zTy cI cB cL) w0) {j : Nat} (hj : j < 6) (d : decode cc pc = .ok (.iaload, 1)) (k : zAt p l e R s m args below meth c D zCl w0 nL cells slots Q (wx h cI σ) (pc + 1) lv (.int (σ 10 j) :: st)) : zAt p l e R s m args below meth c D zCl w0 nL cells slots Q (wx h cI σ) pc lv (.int (nI j) :: .ref (h 10) :: st) := z_iald Z 10 0 rfl rfl hj (by decide) d k
theorem xs_10 (Z : zC p s m args meth c cc nL R_X (c0 :: wX) D zCl (zTy cI cB cL) w0) {j : Nat} {x : Int32} (hj : j < 6) (d : decode cc pc = .ok (.iastore, 1)) (k : zAt p l e R s m args below meth c D zCl w0 nL cells slots Q (wx h cI (va_up σ 10 (upd (σ 10) j x))) (pc + 1) lv st) : zAt p l e R s m args below meth c D zCl w0 nL cells slots Q (wx h cI σ) pc lv (.int x :: .int (nI j) :: .ref (h 10) :: st) := z_iast Z 10 0 rfl rfl hj (by decide) d rfl k
theorem xg_11 (Z : zC p s m args meth c cc nL R_X (c0 :: wX) D zCl (zTy cI cB cL) w0) (d : decode cc pc = .ok (.getfield 40, 3)) (k : zAt p l e R s m args below meth c D zCl w0 nL cells slots Q (wx h cI σ) (pc + 3) lv (.ref (h 11) :: st)) : zAt p l e R s m args below meth c D zCl w0 nL cells slots Q (wx h cI σ) pc lv (.ref (h 0) :: st) := z_get Z in_X 0 rfl rfl 11 (by decide) (List.mem_cons_of_mem _ lk_X_queue) rfl d k
theorem xl_11 (Z : zC p s m args meth c cc nL R_X (c0 :: wX) D zCl (zTy cI cB cL) w0) {j : Nat} (hj : j < 24) (d : decode cc pc = .ok (.iaload, 1)) (k : zAt p l e R s m args below meth c D zCl w0 nL cells slots Q (wx h cI σ) (pc + 1) lv (.int (σ 11 j) :: st)) : zAt p l e R s m args below meth c D zCl w0 nL cells slots Q (wx h cI σ) pc lv (.int (nI j) :: .ref (h 11) :: st) := z_iald Z 11 0 rfl rfl hj (by decide) d k
theorem xs_11 (Z : zC p s m args meth c cc nL R_X (c0 :: wX) D zCl (zTy cI cB cL) w0) {j : Nat} {x : Int32} (hj : j < 24) (d : decode cc pc = .ok (.iastore, 1)) (k : zAt p l e R s m args below meth c D zCl w0 nL cells slots Q (wx h cI (va_up σ 11 (upd (σ 11) j x))) (pc + 1) lv st) : zAt p l e R s m args below meth c D zCl w0 nL cells slots Q (wx h cI σ) pc lv (.int x :: .int (nI j) :: .ref (h 11) :: st) := z_iast Z 11 0 rfl rfl hj (by decide) d rfl k
theorem xn_1 (Z : zC p s m args meth c cc nL R_X (c0 :: wX) D zCl (zTy cI cB cL) w0) (d : decode cc pc = .ok (.getfield 138, 3)) (k : zAt p l e R s m args below meth c D zCl w0 nL cells slots Q (wx h cI σ) (pc + 3) lv (.int (σ 0 1) :: st)) : zAt p l e R s m args below meth c D zCl w0 nL cells slots Q (wx h cI σ) pc lv (.ref (h 0) :: st) := z_get Z in_X 0 rfl rfl 12 (by decide) (List.mem_cons_of_mem _ lk_X_queueLength) rfl d k
theorem xp_1 (Z : zC p s m args meth c cc nL R_X (c0 :: wX) D zCl (zTy cI cB cL) w0) {x : Int32} (d : decode cc pc = .ok (.putfield 138, 3)) (k : zAt p l e R s m args below meth c D zCl w0 nL cells slots Q (wx h cI (va_up σ 0 (upd (σ 0) 1 x))) (pc + 3) lv st) : zAt p l e R s m args below meth c D zCl w0 nL cells slots Q (wx h cI σ) pc lv (.int x :: .ref (h 0) :: st) := z_put (ws' := (wx h cI (va_up σ 0 (upd (σ 0) 1 x)))) Z in_X t_X t_X_ok n_X 0 rfl rfl 12 (by decide) (List.mem_cons_of_mem _ lk_X_queueLength) rfl (ty := .int) (by decide +kernel) rfl rfl (Nat.le_of_ble_eq_true rfl) d rfl k
theorem xn_2 (Z : zC p s m args meth c cc nL R_X (c0 :: wX) D zCl (zTy cI cB cL) w0) (d : decode cc pc = .ok (.getfield 171, 3)) (k : zAt p l e R s m args below meth c D zCl w0 nL cells slots Q (wx h cI σ) (pc + 3) lv (.int (σ 0 2) :: st)) : zAt p l e R s m args below meth c D zCl w0 nL cells slots Q (wx h cI σ) pc lv (.ref (h 0) :: st) := z_get Z in_X 0 rfl rfl 13 (by decide) (List.mem_cons_of_mem _ lk_X_thingsMade) rfl d k
theorem xp_2 (Z : zC p s m args meth c cc nL R_X (c0 :: wX) D zCl (zTy cI cB cL) w0) {x : Int32} (d : decode cc pc = .ok (.putfield 171, 3)) (k : zAt p l e R s m args below meth c D zCl w0 nL cells slots Q (wx h cI (va_up σ 0 (upd (σ 0) 2 x))) (pc + 3) lv st) : zAt p l e R s m args below meth c D zCl w0 nL cells slots Q (wx h cI σ) pc lv (.int x :: .ref (h 0) :: st) := z_put (ws' := (wx h cI (va_up σ 0 (upd (σ 0) 2 x)))) Z in_X t_X t_X_ok n_X 0 rfl rfl 13 (by decide) (List.mem_cons_of_mem _ lk_X_thingsMade) rfl (ty := .int) (by decide +kernel) rfl rfl (Nat.le_of_ble_eq_true rfl) d rfl k
theorem xn_3 (Z : zC p s m args meth c cc nL R_X (c0 :: wX) D zCl (zTy cI cB cL) w0) (d : decode cc pc = .ok (.getfield 110, 3)) (k : zAt p l e R s m args below meth c D zCl w0 nL cells slots Q (wx h cI σ) (pc + 3) lv (.int (σ 0 3) :: st)) : zAt p l e R s m args below meth c D zCl w0 nL cells slots Q (wx h cI σ) pc lv (.ref (h 0) :: st) := z_get Z in_X 0 rfl rfl 14 (by decide) (List.mem_cons_of_mem _ lk_X_timesCollected) rfl d k
theorem xp_3 (Z : zC p s m args meth c cc nL R_X (c0 :: wX) D zCl (zTy cI cB cL) w0) {x : Int32} (d : decode cc pc = .ok (.putfield 110, 3)) (k : zAt p l e R s m args below meth c D zCl w0 nL cells slots Q (wx h cI (va_up σ 0 (upd (σ 0) 3 x))) (pc + 3) lv st) : zAt p l e R s m args below meth c D zCl w0 nL cells slots Q (wx h cI σ) pc lv (.int x :: .ref (h 0) :: st) := z_put (ws' := (wx h cI (va_up σ 0 (upd (σ 0) 3 x)))) Z in_X t_X t_X_ok n_X 0 rfl rfl 14 (by decide) (List.mem_cons_of_mem _ lk_X_timesCollected) rfl (ty := .int) (by decide +kernel) rfl rfl (Nat.le_of_ble_eq_true rfl) d rfl k
end RowsX
end
section
/-! small facts for the walks; what the class's methods do to its state -/
theorem zbt {b : Bool} (h : ¬ b = false) : b = true := by cases b; exact absurd rfl h; rfl
theorem zB0 {v : Int32} {p q : Prop} (h : (v = nI 1 ∧ p) ∨ (v = nI 0 ∧ q)) (e : v = 0) : q := by
  rcases h with ⟨h, _⟩ | ⟨_, h⟩
  · rw [h] at e; exact absurd e (by decide)
  · exact h
theorem zB1 {v : Int32} {p q : Prop} (h : (v = nI 1 ∧ p) ∨ (v = nI 0 ∧ q)) (e : ¬ v = 0) : p := by
  rcases h with ⟨_, h⟩ | ⟨h, _⟩
  · exact h
  · exact absurd h e
def fc (k : Int32) : Nat := if k = 0 then 3 else if k = 1 then 1 else 0
theorem fc_le (k : Int32) : fc k ≤ 3 := by unfold fc; split; exact Nat.le_refl _; split <;> decide
theorem fc_31 (k : Int32) : fc k < 2 ^ 31 := Nat.lt_of_le_of_lt (fc_le k) (by decide)
theorem fc_lt {k : Int32} {j : Nat} (h : j < fc k) : j < 2 ^ 31 := Nat.lt_trans h (fc_31 k)
theorem inN {x : Int32} {n : Nat} (h0 : ¬ x < 0) (h : x < nI n) (hn : n < 2 ^ 31 := by first | decide | exact fc_31 _) : ∃ j, j < n ∧ x = nI j := by
  obtain ⟨j, hj, rfl⟩ := nI_of h0
  exact ⟨j, (nI_ltI hj hn).mp h, rfl⟩
theorem in24 {x : Int32} (h0 : ¬ x < 0) (h : ¬ nI 24 ≤ x) : ∃ c, c < 24 ∧ x = nI c := by
  rcases pk_ix x (n := 24) (by decide) with q | q | q
  · exact absurd q h0
  · exact absurd q h
  · exact q
def isT (σ : St) (x : Int32) : Prop := ∃ c, c < 24 ∧ x = nI c ∧ bt (σ 0 0) c = true
theorem isT_nI {σ : St} {c : Nat} (hc : c < 24) : isT σ (nI c) ↔ bt (σ 0 0) c = true := by
  constructor
  · rintro ⟨d, hd, e, h⟩
    rw [(nI_eq (by omega) (by omega)).mp e]; exact h
  · intro h; exact ⟨c, hc, rfl, h⟩
theorem isT_neg {σ : St} {x : Int32} (h : x < 0) : ¬ isT σ x := by
  rintro ⟨c, hc, rfl, -⟩
  exact nI_pos (by omega) h
theorem isT_big {σ : St} {x : Int32} (h : nI 24 ≤ x) : ¬ isT σ x := by
  rintro ⟨c, hc, rfl, -⟩
  exact nI_ge hc (by decide) h
theorem set_or {x : Int32} {n d : Nat} {f : Nat → Int32} (h : ∀ c, c < 24 → (bt x c = true ↔ ∃ r, r < n ∧ f r = nI c)) (hd : d < 24) (e : f n = nI d) : ∀ c, c < 24 → (bt (x ||| ((1 : Int32) <<< (nI d &&& 31))) c = true ↔ ∃ r, r < n + 1 ∧ f r = nI c) := by
  intro c hc
  rw [zb_orc x hd hc, h c hc]
  constructor
  · rintro (⟨r, hr, q⟩ | rfl)
    · exact ⟨r, by omega, q⟩
    · exact ⟨n, by omega, e⟩
  · rintro ⟨r, hr, q⟩
    by_cases hrn : r = n
    · subst hrn
      exact Or.inr ((nI_eq (by omega) (by omega)).mp (q.symm.trans e))
    · exact Or.inl ⟨r, by omega, q⟩
theorem set_no {x : Int32} {n : Nat} {f : Nat → Int32} (h : ∀ c, c < 24 → (bt x c = true ↔ ∃ r, r < n ∧ f r = nI c)) (e : ∀ c, c < 24 → f n = nI c → False) : ∀ c, c < 24 → (bt x c = true ↔ ∃ r, r < n + 1 ∧ f r = nI c) := by
  intro c hc
  rw [h c hc]
  constructor
  · rintro ⟨r, hr, q⟩; exact ⟨r, by omega, q⟩
  · rintro ⟨r, hr, q⟩
    by_cases hrn : r = n
    · subst hrn; exact (e c hc q).elim
    · exact ⟨r, by omega, q⟩
theorem set_orK {x : Int32} {n d : Nat} {f : Nat → Int32} {g : Nat → Prop} (h : ∀ c, c < 24 → (bt x c = true ↔ ∃ r, r < n ∧ g r ∧ f r = nI c)) (hd : d < 24) (e : f n = nI d) (hg : g n) : ∀ c, c < 24 → (bt (x ||| ((1 : Int32) <<< (nI d &&& 31))) c = true ↔ ∃ r, r < n + 1 ∧ g r ∧ f r = nI c) := by
  intro c hc
  rw [zb_orc x hd hc, h c hc]
  constructor
  · rintro (⟨r, hr, q⟩ | rfl)
    · exact ⟨r, by omega, q⟩
    · exact ⟨n, by omega, hg, e⟩
  · rintro ⟨r, hr, g1, q⟩
    by_cases hrn : r = n
    · subst hrn
      exact Or.inr ((nI_eq (by omega) (by omega)).mp (q.symm.trans e))
    · exact Or.inl ⟨r, by omega, g1, q⟩
theorem set_noK {x : Int32} {n : Nat} {f : Nat → Int32} {g : Nat → Prop} (h : ∀ c, c < 24 → (bt x c = true ↔ ∃ r, r < n ∧ g r ∧ f r = nI c)) (hg : ¬ g n) : ∀ c, c < 24 → (bt x c = true ↔ ∃ r, r < n + 1 ∧ g r ∧ f r = nI c) := by
  intro c hc
  rw [h c hc]
  constructor
  · rintro ⟨r, hr, q⟩; exact ⟨r, by omega, q⟩
  · rintro ⟨r, hr, g1, q⟩
    by_cases hrn : r = n
    · subst hrn; exact (hg g1).elim
    · exact ⟨r, by omega, g1, q⟩
theorem hld_r {σ : St} {S : Nat → Prop} {c d : Nat} (h : σ 1 c = 0) : (∃ f, f < 3 ∧ σ 3 (c * 3 + f) = nI d) ↔ hld σ S c d := by
  constructor
  · intro q; exact Or.inl ⟨h, q⟩
  · rintro (⟨_, q⟩ | ⟨q, _⟩)
    · exact q
    · rw [h] at q; exact absurd q (by decide)
theorem hld_t {σ : St} {S : Nat → Prop} {c d : Nat} (h : σ 1 c = nI 2) : (∃ i, i < cnt σ c ∧ (∃ k, k < 24 ∧ σ 4 (c * 4 + i) = nI k ∧ S k) ∧ σ 5 (c * 4 + i) = nI d) ↔ hld σ S c d := by
  constructor
  · intro q; exact Or.inr ⟨h, q⟩
  · rintro (⟨q, _⟩ | ⟨_, q⟩)
    · rw [h] at q; exact absurd q (by decide)
    · exact q
theorem hld_n {σ : St} {S : Nat → Prop} {c d : Nat} (h0 : ¬ σ 1 c = 0) (h2 : ¬ σ 1 c = nI 2) (h : hld σ S c d) : False := by
  rcases h with ⟨q, _⟩ | ⟨q, _⟩
  · exact h0 q
  · exact h2 q
/-- the fields of c are emptied, the first i of them -/
def empF (f : Nat → Int32) (c : Nat) : Nat → Nat → Int32
  | 0 => f
  | i + 1 => upd (empF f c i) (c * 3 + i) (-1)
def emp (σ : St) (c : Nat) : St := va_up (va_up σ 3 (empF (σ 3) c 3)) 6 (upd (σ 6) c (nI 0))
def pl1 (σ : St) : St := va_up σ 0 (upd (σ 0) 2 (σ 0 2 + nI 1))
def pl2 (σ : St) (c : Nat) : St := va_up σ 0 (upd (σ 0) 0 (σ 0 0 ||| (nI 1 <<< (nI c &&& 31))))
def pl3 (σ : St) (c : Nat) (k : Int32) : St := va_up σ 1 (upd (σ 1) c k)
def pl4 (σ : St) (c : Nat) : St := va_up σ 2 (upd (σ 2) c (σ 0 2))
def pl5 (σ : St) (c : Nat) : St := va_up σ 7 (upd (σ 7) c (nI 0))
def plc (σ : St) (c : Nat) (k : Int32) : St := emp (pl5 (pl4 (pl3 (pl2 (pl1 σ) c) c k) c) c) c
def apd (σ : St) (c : Nat) (k v : Int32) : St := va_up (va_up (va_up σ 4 (upd (σ 4) (c * 4 + cnt σ c) k)) 5 (upd (σ 5) (c * 4 + cnt σ c) v)) 6 (upd (σ 6) c (nI (cnt σ c + 1)))
def cpy (σ : St) (c a b : Nat) : St := va_up (va_up σ 4 (upd (σ 4) (c * 4 + b) (σ 4 (c * 4 + a)))) 5 (upd (σ 5) (c * 4 + b) (σ 5 (c * 4 + a)))
/-- the rows from d up to i move down by one -/
def shf (f : Nat → Int32) (c d i : Nat) : Nat → Int32 := fun j => if c * 4 + d ≤ j ∧ j < c * 4 + i then f (j + 1) else f j
theorem shf_0 (f : Nat → Int32) (c d : Nat) : shf f c d d = f := by
  funext j; unfold shf; rw [if_neg (by omega)]
theorem shf_s (f : Nat → Int32) {c d i : Nat} (h : d ≤ i) : upd (shf f c d i) (c * 4 + i) (shf f c d i (c * 4 + (i + 1))) = shf f c d (i + 1) := by
  funext j
  by_cases e : j = c * 4 + i
  · subst e
    rw [pk_us]
    unfold shf
    rw [if_neg (by omega), if_pos (by omega)]; rfl
  · rw [pk_un e]
    unfold shf
    by_cases q : c * 4 + d ≤ j ∧ j < c * 4 + i
    · rw [if_pos q, if_pos (by omega)]
    · rw [if_neg q, if_neg (by omega)]
def dst (σ : St) (c d i : Nat) : St := va_up (va_up σ 4 (shf (σ 4) c d i)) 5 (shf (σ 5) c d i)
theorem va_up_same {α : Type} (f : Nat → α) (k : Nat) : va_up f k (f k) = f := by
  funext j; unfold va_up; split
  · rename_i h; rw [h]
  · rfl
theorem dst_0 (σ : St) (c d : Nat) : dst σ c d d = σ := by
  unfold dst; rw [shf_0, shf_0, va_up_same]
  exact va_up_same σ 5
theorem dst_step {σ : St} {c d i : Nat} (h : d ≤ i) : cpy (dst σ c d i) c (i + 1) i = dst σ c d (i + 1) := by
  have e4 : (dst σ c d i) 4 = shf (σ 4) c d i := rfl
  have e5 : (dst σ c d i) 5 = shf (σ 5) c d i := rfl
  unfold cpy
  rw [e4, e5, shf_s _ h, shf_s _ h]
  funext k
  unfold dst va_up
  by_cases h5 : k = 5
  · simp [h5]
  · by_cases h4 : k = 4
    · simp [h4]
    · simp [h4, h5]
def drp (σ : St) (c d : Nat) : St := va_up (dst σ c d (cnt σ c - 1)) 6 (upd (σ 6) c (nI (cnt σ c - 1)))
set_option maxHeartbeats 4000000 in
set_option maxRecDepth 100000 in
theorem c_contains {l : Launch} {D : va_G} {cI cB cL : ClassId} {x : Int32} {c : Nat} (hc : c < 32) : zMet l y_contains w_contains rm_contains D zCl (zTy cI cB cL) [] [.int x, .int (nI c)] (qi0 [] (fun v => (v = nI 1 ∧ bt x c = true) ∨ (v = nI 0 ∧ bt x c = false)) noX) 0 0 0 0 := by
  refine z_meth (by decide) rfl (Nat.le_of_ble_eq_true rfl) (fun p e s mm as bl me cd Z hr hnm ht => ?_)
  refine z_iload_n Z 0 d_contains_0 rfl rfl ?_
  refine z_iconst Z (nI 1) d_contains_1 zi_1 ?_
  refine z_iload_n Z 1 d_contains_2 rfl rfl ?_
  refine z_ishl Z d_contains_3 ?_
  refine z_iand Z d_contains_4 ?_
  refine z_if_eq Z 12 d_contains_5 (by decide) (fun h5 => ?_) (fun h5 => ?_)
  · refine z_iconst Z (nI 0) d_contains_12 zi_0 ?_
    refine z_ri0 Z hr rfl d_contains_13 (by decide) (by decide) ?_
    exact Or.inr ⟨rfl, (zb_has x hc).mp h5⟩
  · refine z_iconst Z (nI 1) d_contains_8 zi_1 ?_
    refine z_goto Z 13 d_contains_9 (by decide) ?_
    refine z_ri0 Z hr rfl d_contains_13 (by decide) (by decide) ?_
    exact Or.inl ⟨rfl, zbt (fun q => h5 ((zb_has x hc).mpr q))⟩
set_option maxHeartbeats 4000000 in
set_option maxRecDepth 100000 in
theorem c_fieldCount {l : Launch} {D : va_G} {cI cB cL : ClassId} {k : Int32} : zMet l y_fieldCount w_fieldCount rm_fieldCount D zCl (zTy cI cB cL) [] [.int k] (qi0 [] (fun v => v = nI (fc k)) noX) 0 0 0 0 := by
  refine z_meth (by decide) rfl (Nat.le_of_ble_eq_true rfl) (fun p e s mm as bl me cd Z hr hnm ht => ?_)
  refine z_iload_n Z 0 d_fieldCount_0 rfl rfl ?_
  refine z_if_ne Z 6 d_fieldCount_1 (by decide) (fun h1 => ?_) (fun h1 => ?_)
  · refine z_iload_n Z 0 d_fieldCount_6 rfl rfl ?_
    refine z_iconst Z (nI 1) d_fieldCount_7 zi_1 ?_
    refine z_icmp_ne Z 15 d_fieldCount_8 (by decide) (fun h8 => ?_) (fun h8 => ?_)
    · refine z_iconst Z (nI 0) d_fieldCount_15 zi_0 ?_
      refine z_ri0 Z hr rfl d_fieldCount_16 (by decide) (by decide) ?_
      simp [fc, show ¬ k = 0 from h1, show ¬ k = 1 from h8]
    · refine z_iconst Z (nI 1) d_fieldCount_11 zi_1 ?_
      refine z_goto Z 16 d_fieldCount_12 (by decide) ?_
      refine z_ri0 Z hr rfl d_fieldCount_16 (by decide) (by decide) ?_
      rw [show k = 1 from h8]; rfl
  · refine z_iconst Z (nI 3) d_fieldCount_4 zi_3 ?_
    refine z_ri0 Z hr rfl d_fieldCount_5 (by decide) (by decide) ?_
    rw [h1]; rfl
set_option maxHeartbeats 4000000 in
set_option maxRecDepth 100000 in
theorem c_fieldSlot {l : Launch} {D : va_G} {cI cB cL : ClassId} {c f : Nat} : zMet l y_fieldSlot w_fieldSlot rm_fieldSlot D zCl (zTy cI cB cL) [] [.int (nI c), .int (nI f)] (qi0 [] (fun v => v = nI (c * 3 + f)) noX) 0 0 0 0 := by
  refine z_meth (by decide) rfl (Nat.le_of_ble_eq_true rfl) (fun p e s mm as bl me cd Z hr hnm ht => ?_)
  refine z_iload_n Z 0 d_fieldSlot_0 rfl rfl ?_
  refine z_iconst Z (nI 3) d_fieldSlot_1 zi_3 ?_
  refine z_imulN Z d_fieldSlot_2 ?_
  refine z_iload_n Z 1 d_fieldSlot_3 rfl rfl ?_
  refine z_iaddN Z d_fieldSlot_4 ?_
  refine z_ri0 Z hr rfl d_fieldSlot_5 (by decide) (by decide) ?_
  rfl
set_option maxHeartbeats 4000000 in
set_option maxRecDepth 100000 in
theorem c_entrySlot {l : Launch} {D : va_G} {cI cB cL : ClassId} {c i : Nat} : zMet l y_entrySlot w_entrySlot rm_entrySlot D zCl (zTy cI cB cL) [] [.int (nI c), .int (nI i)] (qi0 [] (fun v => v = nI (c * 4 + i)) noX) 0 0 0 0 := by
  refine z_meth (by decide) rfl (Nat.le_of_ble_eq_true rfl) (fun p e s mm as bl me cd Z hr hnm ht => ?_)
  refine z_iload_n Z 0 d_entrySlot_0 rfl rfl ?_
  refine z_iconst Z (nI 4) d_entrySlot_1 zi_4 ?_
  refine z_imulN Z d_entrySlot_2 ?_
  refine z_iload_n Z 1 d_entrySlot_3 rfl rfl ?_
  refine z_iaddN Z d_entrySlot_4 ?_
  refine z_ri0 Z hr rfl d_entrySlot_5 (by decide) (by decide) ?_
  rfl
set_option maxHeartbeats 4000000 in
set_option maxRecDepth 100000 in
theorem c_hasThing {l : Launch} {D : va_G} {cI cB cL : ClassId} {h : Nat → Nat} {σ : St} {x : Int32} : zMet l y_hasThing w_hasThing rm_hasThing D zCl (zTy cI cB cL) (wx h cI σ) [.ref (h 0), .int x] (qi0 (wx h cI σ) (fun v => (v = nI 1 ∧ isT σ x) ∨ (v = nI 0 ∧ ¬ isT σ x)) noX) 0 0 0 0 := by
  refine z_meth (by decide) rfl (Nat.le_of_ble_eq_true rfl) (fun p e s mm as bl me cd Z hr hnm ht => ?_)
  refine z_iload_n Z 1 d_hasThing_0 rfl rfl ?_
  refine z_if_lt Z 25 d_hasThing_1 (by decide) (fun h1 => ?_) (fun h1 => ?_)
  · refine z_iconst Z (nI 0) d_hasThing_25 zi_0 ?_
    refine z_ri0 Z hr rfl d_hasThing_26 (by decide) (by decide) ?_
    exact Or.inr ⟨rfl, isT_neg h1⟩
  · refine z_iload_n Z 1 d_hasThing_4 rfl rfl ?_
    refine z_bipush Z (nI 24) d_hasThing_5 zb_24 ?_
    refine z_icmp_ge Z 25 d_hasThing_7 (by decide) (fun h7 => ?_) (fun h7 => ?_)
    · refine z_iconst Z (nI 0) d_hasThing_25 zi_0 ?_
      refine z_ri0 Z hr rfl d_hasThing_26 (by decide) (by decide) ?_
      exact Or.inr ⟨rfl, isT_big h7⟩
    · obtain ⟨c, hc, rfl⟩ := in24 h1 h7
      refine z_aload_n Z 0 d_hasThing_10 rfl rfl ?_
      refine xn_0 Z d_hasThing_11 ?_
      refine z_iload_n Z 1 d_hasThing_14 rfl rfl ?_
      refine z_S0 Z (c_contains (by omega)) (ok_contains _) rfl rfl ⟨by decide, by decide⟩ rfl rfl (Nat.le_of_ble_eq_true rfl) d_hasThing_15 ⟨by decide, by decide⟩ (fun v15 h15 => ?_)
      refine z_if_eq Z 25 d_hasThing_18 (by decide) (fun h18 => ?_) (fun h18 => ?_)
      · refine z_iconst Z (nI 0) d_hasThing_25 zi_0 ?_
        refine z_ri0 Z hr rfl d_hasThing_26 (by decide) (by decide) ?_
        exact Or.inr ⟨rfl, fun q => by rw [(isT_nI hc).mp q] at h15; exact Bool.noConfusion (zB0 h15 h18)⟩
      · refine z_iconst Z (nI 1) d_hasThing_21 zi_1 ?_
        refine z_goto Z 26 d_hasThing_22 (by decide) ?_
        refine z_ri0 Z hr rfl d_hasThing_26 (by decide) (by decide) ?_
        exact Or.inl ⟨rfl, (isT_nI hc).mpr (zB1 h15 h18)⟩
set_option maxHeartbeats 4000000 in
set_option maxRecDepth 100000 in
theorem c_requireThing {l : Launch} {D : va_G} {cI cB cL : ClassId} {h : Nat → Nat} {σ : St} (hlt : l.stackTraces = false) {x : Int32} : zMet l y_requireThing w_requireThing rm_requireThing D zCl (zTy cI cB cL) (wx h cI σ) [.ref (h 0), .int x] (qv0 (wx h cI σ) (isT σ x) (fun E => E = "java/util/NoSuchElementException" ∧ ¬ isT σ x)) 0 0 1 6 := by
  refine z_meth (by decide) rfl (Nat.le_of_ble_eq_true rfl) (fun p e s mm as bl me cd Z hr hnm ht => ?_)
  refine z_aload_n Z 0 d_requireThing_0 rfl rfl ?_
  refine z_iload_n Z 1 d_requireThing_1 rfl rfl ?_
  refine z_Wi0 Z (c_hasThing ) (ok_hasThing _) rfl rfl ⟨by decide, by decide⟩ rfl rfl rfl rfl (Nat.le_of_ble_eq_true rfl) d_requireThing_2 ⟨by decide, by decide⟩ (fun E h => h.elim) (fun v2 h2 => ?_)
  refine z_if_ne Z 18 d_requireThing_5 (by decide) (fun h5 => ?_) (fun h5 => ?_)
  · refine z_rv0 Z hr d_requireThing_18 (by decide) (by decide) ?_
    exact zB1 h2 h5
  · exact z_throw Z hlt (text := "no thing in this cell") (names := zNames) (by decide +kernel) zNames_fit st_160 (at_NoSuchElementException _) d_requireThing_8 d_requireThing_11 d_requireThing_12 d_requireThing_14 d_requireThing_17 (ht _) (by decide) (by decide) (by decide) (by decide) (by decide) (by decide) ⟨rfl, rfl, zB0 h2 h5⟩
set_option maxHeartbeats 4000000 in
set_option maxRecDepth 100000 in
theorem c_requireThingOrNone {l : Launch} {D : va_G} {cI cB cL : ClassId} {h : Nat → Nat} {σ : St} (hlt : l.stackTraces = false) {x : Int32} : zMet l y_requireThingOrNone w_requireThingOrNone rm_requireThingOrNone D zCl (zTy cI cB cL) (wx h cI σ) [.ref (h 0), .int x] (qv0 (wx h cI σ) (x = -1 ∨ isT σ x) (fun E => E = "java/util/NoSuchElementException" ∧ ¬ (x = -1 ∨ isT σ x))) 0 0 1 6 := by
  refine z_meth (by decide) rfl (Nat.le_of_ble_eq_true rfl) (fun p e s mm as bl me cd Z hr hnm ht => ?_)
  refine z_iload_n Z 1 d_requireThingOrNone_0 rfl rfl ?_
  refine z_iconst Z (-1) d_requireThingOrNone_1 zi_m1 ?_
  refine z_icmp_eq Z 10 d_requireThingOrNone_2 (by decide) (fun h2 => ?_) (fun h2 => ?_)
  · refine z_rv0 Z hr d_requireThingOrNone_10 (by decide) (by decide) ?_
    exact Or.inl h2
  · refine z_aload_n Z 0 d_requireThingOrNone_5 rfl rfl ?_
    refine z_iload_n Z 1 d_requireThingOrNone_6 rfl rfl ?_
    refine z_Wv0 Z (c_requireThing hlt) (ok_requireThing _) rfl rfl ⟨by decide, by decide⟩ rfl rfl rfl rfl (Nat.le_of_ble_eq_true rfl) d_requireThingOrNone_7 ⟨by decide, by decide⟩ (fun E h => z_out Z (ht _) (by decide) (by decide) ⟨rfl, h.1, fun q => q.elim h2 h.2⟩) (fun h7 => ?_)
    refine z_rv0 Z hr d_requireThingOrNone_10 (by decide) (by decide) ?_
    exact Or.inr h7
set_option maxHeartbeats 4000000 in
set_option maxRecDepth 100000 in
theorem c_requireField {l : Launch} {D : va_G} {cI cB cL : ClassId} {h : Nat → Nat} {σ : St} (hlt : l.stackTraces = false) {c : Nat} (hc : c < 24) {f : Int32} : zMet l y_requireField w_requireField rm_requireField D zCl (zTy cI cB cL) (wx h cI σ) [.ref (h 0), .int (nI c), .int f] (qv0 (wx h cI σ) (∃ j, j < fc (σ 1 c) ∧ f = nI j) (fun E => E = "java/lang/IllegalArgumentException" ∧ ¬ (∃ j, j < fc (σ 1 c) ∧ f = nI j))) 0 0 1 6 := by
  refine z_meth (by decide) rfl (Nat.le_of_ble_eq_true rfl) (fun p e s mm as bl me cd Z hr hnm ht => ?_)
  refine z_iload_n Z 2 d_requireField_0 rfl rfl ?_
  refine z_if_lt Z 17 d_requireField_1 (by decide) (fun h1 => ?_) (fun h1 => ?_)
  · exact z_throw Z hlt (text := "no such field") (names := zNames) (by decide +kernel) zNames_fit st_165 (at_IllegalArgumentException _) d_requireField_17 d_requireField_20 d_requireField_21 d_requireField_23 d_requireField_26 (ht _) (by decide) (by decide) (by decide) (by decide) (by decide) (by decide) ⟨rfl, rfl, fun ⟨j, hj, q⟩ => nI_pos (fc_lt hj) (q ▸ h1)⟩
  · refine z_iload_n Z 2 d_requireField_4 rfl rfl ?_
    refine z_aload_n Z 0 d_requireField_5 rfl rfl ?_
    refine xg_1 Z d_requireField_6 ?_
    refine z_iload_n Z 1 d_requireField_9 rfl rfl ?_
    refine xl_1 Z (by omega) d_requireField_10 ?_
    refine z_S0 Z (c_fieldCount ) (ok_fieldCount _) rfl rfl ⟨by decide, by decide⟩ rfl rfl (Nat.le_of_ble_eq_true rfl) d_requireField_11 ⟨by decide, by decide⟩ (fun v11 h11 => ?_)
    subst h11
    refine z_icmp_lt Z 27 d_requireField_14 (by decide) (fun h14 => ?_) (fun h14 => ?_)
    · refine z_rv0 Z hr d_requireField_27 (by decide) (by decide) ?_
      exact inN h1 h14
    · exact z_throw Z hlt (text := "no such field") (names := zNames) (by decide +kernel) zNames_fit st_165 (at_IllegalArgumentException _) d_requireField_17 d_requireField_20 d_requireField_21 d_requireField_23 d_requireField_26 (ht _) (by decide) (by decide) (by decide) (by decide) (by decide) (by decide) ⟨rfl, rfl, fun ⟨j, hj, q⟩ => h14 (by rw [q]; exact nI_lt hj (fc_31 _))⟩
set_option maxHeartbeats 4000000 in
set_option maxRecDepth 100000 in
theorem c_requireTable {l : Launch} {D : va_G} {cI cB cL : ClassId} {h : Nat → Nat} {σ : St} (hlt : l.stackTraces = false) {c : Nat} (hc : c < 24) : zMet l y_requireTable w_requireTable rm_requireTable D zCl (zTy cI cB cL) (wx h cI σ) [.ref (h 0), .int (nI c)] (qv0 (wx h cI σ) (σ 1 c = nI 2) (fun E => E = "java/lang/IllegalArgumentException" ∧ ¬ σ 1 c = nI 2)) 0 0 1 6 := by
  refine z_meth (by decide) rfl (Nat.le_of_ble_eq_true rfl) (fun p e s mm as bl me cd Z hr hnm ht => ?_)
  refine z_aload_n Z 0 d_requireTable_0 rfl rfl ?_
  refine xg_1 Z d_requireTable_1 ?_
  refine z_iload_n Z 1 d_requireTable_4 rfl rfl ?_
  refine xl_1 Z (by omega) d_requireTable_5 ?_
  refine z_iconst Z (nI 2) d_requireTable_6 zi_2 ?_
  refine z_icmp_eq Z 20 d_requireTable_7 (by decide) (fun h7 => ?_) (fun h7 => ?_)
  · refine z_rv0 Z hr d_requireTable_20 (by decide) (by decide) ?_
    exact h7
  · exact z_throw Z hlt (text := "no table") (names := zNames) (by decide +kernel) zNames_fit st_167 (at_IllegalArgumentException _) d_requireTable_10 d_requireTable_13 d_requireTable_14 d_requireTable_16 d_requireTable_19 (ht _) (by decide) (by decide) (by decide) (by decide) (by decide) (by decide) ⟨rfl, rfl, h7⟩
set_option maxHeartbeats 4000000 in
set_option maxRecDepth 100000 in
theorem c_requireRoot {l : Launch} {D : va_G} {cI cB cL : ClassId} {h : Nat → Nat} {σ : St} (hlt : l.stackTraces = false) {r : Int32} : zMet l y_requireRoot w_requireRoot rm_requireRoot D zCl (zTy cI cB cL) (wx h cI σ) [.ref (h 0), .int r] (qv0 (wx h cI σ) (∃ j, j < 6 ∧ r = nI j) (fun E => E = "java/lang/IndexOutOfBoundsException" ∧ ¬ (∃ j, j < 6 ∧ r = nI j))) 0 0 1 6 := by
  refine z_meth (by decide) rfl (Nat.le_of_ble_eq_true rfl) (fun p e s mm as bl me cd Z hr hnm ht => ?_)
  refine z_iload_n Z 1 d_requireRoot_0 rfl rfl ?_
  refine z_if_lt Z 10 d_requireRoot_1 (by decide) (fun h1 => ?_) (fun h1 => ?_)
  · exact z_throw Z hlt (text := "no such root") (names := zNames) (by decide +kernel) zNames_fit st_169 (at_IndexOutOfBoundsException _) d_requireRoot_10 d_requireRoot_13 d_requireRoot_14 d_requireRoot_16 d_requireRoot_19 (ht _) (by decide) (by decide) (by decide) (by decide) (by decide) (by decide) ⟨rfl, rfl, fun ⟨j, hj, q⟩ => nI_pos (by omega) (q ▸ h1)⟩
  · refine z_iload_n Z 1 d_requireRoot_4 rfl rfl ?_
    refine z_bipush Z (nI 6) d_requireRoot_5 zb_6 ?_
    refine z_icmp_lt Z 20 d_requireRoot_7 (by decide) (fun h7 => ?_) (fun h7 => ?_)
    · refine z_rv0 Z hr d_requireRoot_20 (by decide) (by decide) ?_
      exact inN h1 h7
    · exact z_throw Z hlt (text := "no such root") (names := zNames) (by decide +kernel) zNames_fit st_169 (at_IndexOutOfBoundsException _) d_requireRoot_10 d_requireRoot_13 d_requireRoot_14 d_requireRoot_16 d_requireRoot_19 (ht _) (by decide) (by decide) (by decide) (by decide) (by decide) (by decide) ⟨rfl, rfl, fun ⟨j, hj, q⟩ => h7 (by rw [q]; exact nI_lt hj (by decide))⟩
set_option maxHeartbeats 4000000 in
set_option maxRecDepth 100000 in
theorem c_leastFreeCell {l : Launch} {D : va_G} {cI cB cL : ClassId} {h : Nat → Nat} {σ : St}  : zMet l y_leastFreeCell w_leastFreeCell rm_leastFreeCell D zCl (zTy cI cB cL) (wx h cI σ) [.ref (h 0)] (qi0 (wx h cI σ) (fun v => (∃ c, c < 24 ∧ v = nI c ∧ bt (σ 0 0) c = false ∧ ∀ d, d < c → bt (σ 0 0) d = true) ∨ (v = -1 ∧ ∀ d, d < 24 → bt (σ 0 0) d = true)) noX) 0 0 0 0 := by
  refine z_meth (by decide) rfl (Nat.le_of_ble_eq_true rfl) (fun p e s mm as bl me cd Z hr hnm ht => ?_)
  refine z_iconst Z (nI 0) d_leastFreeCell_0 zi_0 ?_
  refine z_istore_n Z 1 d_leastFreeCell_1 rfl (by decide) rfl ?_
  refine z_lv (lv' := [(0, .ref (h 0)), (1, .int (nI 0))]) rfl ?_
  refine z_loop (fun i : Nat => i ≤ 24 ∧ ∀ d, d < i → bt (σ 0 0) d = true) (fun i => 24 - i) (fun _ => wx h cI σ) (fun i => [(0, .ref (h 0)), (1, .int (nI i))]) (fun i hi ih => ?_) 0 ⟨by omega, fun d hd => by omega⟩
  refine z_iload_n Z 1 d_leastFreeCell_2 rfl rfl ?_
  refine z_bipush Z (nI 24) d_leastFreeCell_3 zb_24 ?_
  refine z_icmpN_ge Z 27 d_leastFreeCell_5 (by decide) (by omega) (by omega) (fun h5 => ?_) (fun h5 => ?_)
  · refine z_iconst Z (-1) d_leastFreeCell_27 zi_m1 ?_
    refine z_ri0 Z hr rfl d_leastFreeCell_28 (by decide) (by decide) ?_
    exact Or.inr ⟨rfl, fun d hd => hi.2 d (by omega)⟩
  · refine z_aload_n Z 0 d_leastFreeCell_8 rfl rfl ?_
    refine xn_0 Z d_leastFreeCell_9 ?_
    refine z_iload_n Z 1 d_leastFreeCell_12 rfl rfl ?_
    refine z_S0 Z (c_contains (by omega)) (ok_contains _) rfl rfl ⟨by decide, by decide⟩ rfl rfl (Nat.le_of_ble_eq_true rfl) d_leastFreeCell_13 ⟨by decide, by decide⟩ (fun v13 h13 => ?_)
    refine z_if_ne Z 21 d_leastFreeCell_16 (by decide) (fun h16 => ?_) (fun h16 => ?_)
    · refine z_iincN Z 1 d_leastFreeCell_21 rfl (by decide) rfl ?_
      refine z_goto Z 2 d_leastFreeCell_24 (by decide) ?_
      exact z_lv rfl (ih (i + 1) ⟨by omega, fun d hd => by
          rcases Nat.lt_or_ge d i with q | q
          · exact hi.2 d q
          · rw [show d = i by omega]; exact zB1 h13 h16⟩ (by omega))
    · refine z_iload_n Z 1 d_leastFreeCell_19 rfl rfl ?_
      refine z_ri0 Z hr rfl d_leastFreeCell_20 (by decide) (by decide) ?_
      exact Or.inl ⟨i, by omega, rfl, zB0 h13 h16, hi.2⟩
end
section
set_option maxHeartbeats 4000000 in
set_option maxRecDepth 100000 in
theorem c_emptyThing {l : Launch} {D : va_G} {cI cB cL : ClassId} {h : Nat → Nat} {σ : St} {c : Nat} (hc : c < 24) : zMet l y_emptyThing w_emptyThing rm_emptyThing D zCl (zTy cI cB cL) (wx h cI σ) [.ref (h 0), .int (nI c)] (qv (wx h cI) (fun u => u = emp σ c) noXs) 0 0 0 0 := by
  refine z_meth (by decide) rfl (Nat.le_of_ble_eq_true rfl) (fun p e s mm as bl me cd Z hr hnm ht => ?_)
  refine z_iconst Z (nI 0) d_emptyThing_0 zi_0 ?_
  refine z_istore_n Z 2 d_emptyThing_1 rfl (by decide) rfl ?_
  refine z_lv (lv' := [(0, .ref (h 0)), (1, .int (nI c)), (2, .int (nI 0))]) rfl ?_
  refine z_ws (ws' := wx h cI (va_up σ 3 (empF (σ 3) c 0))) rfl ?_
  refine z_loop (fun i : Nat => i ≤ 3) (fun i : Nat => 3 - i) (fun i : Nat => wx h cI (va_up σ 3 (empF (σ 3) c i))) (fun i : Nat => [(0, .ref (h 0)), (1, .int (nI c)), (2, .int (nI i))]) (fun i hi ih => ?_) 0 (by omega)
  refine z_iload_n Z 2 d_emptyThing_2 rfl rfl ?_
  refine z_iconst Z (nI 3) d_emptyThing_3 zi_3 ?_
  refine z_icmpN_ge Z 24 d_emptyThing_4 (by decide) (by omega) (by omega) (fun h4 => ?_) (fun h4 => ?_)
  · obtain rfl : i = 3 := by omega
    refine z_aload_n Z 0 d_emptyThing_24 rfl rfl ?_
    refine xg_6 Z d_emptyThing_25 ?_
    refine z_iload_n Z 1 d_emptyThing_28 rfl rfl ?_
    refine z_iconst Z (nI 0) d_emptyThing_29 zi_0 ?_
    refine xs_6 Z (by omega) d_emptyThing_30 ?_
    refine z_rv Z _ hr d_emptyThing_31 (by decide) (by decide) rfl ?_
    rfl
  · refine z_aload_n Z 0 d_emptyThing_7 rfl rfl ?_
    refine xg_3 Z d_emptyThing_8 ?_
    refine z_iload_n Z 1 d_emptyThing_11 rfl rfl ?_
    refine z_iload_n Z 2 d_emptyThing_12 rfl rfl ?_
    refine z_S0 Z (c_fieldSlot ) (ok_fieldSlot _) rfl rfl ⟨by decide, by decide⟩ rfl rfl (Nat.le_of_ble_eq_true rfl) d_emptyThing_13 ⟨by decide, by decide⟩ (fun v13 h13 => ?_)
    subst h13
    refine z_iconst Z (-1) d_emptyThing_16 zi_m1 ?_
    refine xs_3 Z (by omega) d_emptyThing_17 ?_
    refine z_iincN Z 2 d_emptyThing_18 rfl (by decide) rfl ?_
    refine z_goto Z 2 d_emptyThing_21 (by decide) ?_
    exact z_ws rfl (z_lv rfl (ih (i + 1) (by omega) (by omega)))
set_option maxHeartbeats 4000000 in
set_option maxRecDepth 100000 in
theorem c_placeThing {l : Launch} {D : va_G} {cI cB cL : ClassId} {h : Nat → Nat} {σ : St} {c : Nat} (hc : c < 24) {k : Int32} : zMet l y_placeThing w_placeThing rm_placeThing D zCl (zTy cI cB cL) (wx h cI σ) [.ref (h 0), .int (nI c), .int k] (qv (wx h cI) (fun u => u = plc σ c k) noXs) 0 0 0 0 := by
  refine z_meth (by decide) rfl (Nat.le_of_ble_eq_true rfl) (fun p e s mm as bl me cd Z hr hnm ht => ?_)
  refine z_aload_n Z 0 d_placeThing_0 rfl rfl ?_
  refine z_dup Z d_placeThing_1 ?_
  refine xn_2 Z d_placeThing_2 ?_
  refine z_iconst Z (nI 1) d_placeThing_5 zi_1 ?_
  refine z_iadd Z d_placeThing_6 ?_
  refine xp_2 Z d_placeThing_7 ?_
  refine z_aload_n Z 0 d_placeThing_10 rfl rfl ?_
  refine z_dup Z d_placeThing_11 ?_
  refine xn_0 Z d_placeThing_12 ?_
  refine z_iconst Z (nI 1) d_placeThing_15 zi_1 ?_
  refine z_iload_n Z 1 d_placeThing_16 rfl rfl ?_
  refine z_ishl Z d_placeThing_17 ?_
  refine z_ior Z d_placeThing_18 ?_
  refine xp_0 Z d_placeThing_19 ?_
  refine z_aload_n Z 0 d_placeThing_22 rfl rfl ?_
  refine xg_1 Z d_placeThing_23 ?_
  refine z_iload_n Z 1 d_placeThing_26 rfl rfl ?_
  refine z_iload_n Z 2 d_placeThing_27 rfl rfl ?_
  refine xs_1 Z (by omega) d_placeThing_28 ?_
  refine z_aload_n Z 0 d_placeThing_29 rfl rfl ?_
  refine xg_2 Z d_placeThing_30 ?_
  refine z_iload_n Z 1 d_placeThing_33 rfl rfl ?_
  refine z_aload_n Z 0 d_placeThing_34 rfl rfl ?_
  refine xn_2 Z d_placeThing_35 ?_
  refine xs_2 Z (by omega) d_placeThing_38 ?_
  refine z_aload_n Z 0 d_placeThing_39 rfl rfl ?_
  refine xg_7 Z d_placeThing_40 ?_
  refine z_iload_n Z 1 d_placeThing_43 rfl rfl ?_
  refine z_iconst Z (nI 0) d_placeThing_44 zi_0 ?_
  refine xs_7 Z (by omega) d_placeThing_45 ?_
  refine z_aload_n Z 0 d_placeThing_46 rfl rfl ?_
  refine z_iload_n Z 1 d_placeThing_47 rfl rfl ?_
  refine z_Wv Z (c_emptyThing hc) (ok_emptyThing _) rfl rfl ⟨by decide, by decide⟩ rfl rfl rfl rfl (Nat.le_of_ble_eq_true rfl) d_placeThing_48 ⟨by decide, by decide⟩ (fun E u h => h.elim) (fun u48 h48 => ?_)
  subst h48
  refine z_rv Z _ hr d_placeThing_51 (by decide) (by decide) rfl ?_
  rfl
set_option maxHeartbeats 4000000 in
set_option maxRecDepth 100000 in
theorem c_entryOf {l : Launch} {D : va_G} {cI cB cL : ClassId} {h : Nat → Nat} {σ : St} (hw : wf σ) {c : Nat} (hc : c < 24) {k : Int32} : zMet l y_entryOf w_entryOf rm_entryOf D zCl (zTy cI cB cL) (wx h cI σ) [.ref (h 0), .int (nI c), .int k] (qi0 (wx h cI σ) (fun v => (∃ i, i < cnt σ c ∧ v = nI i ∧ σ 4 (c * 4 + i) = k ∧ ∀ j, j < i → σ 4 (c * 4 + j) ≠ k) ∨ (v = -1 ∧ ∀ j, j < cnt σ c → σ 4 (c * 4 + j) ≠ k)) noX) 0 0 0 0 := by
  have e6 : σ 6 c = nI (cnt σ c) := (wf_cnt hw hc).2
  have n6 : cnt σ c ≤ 4 := (wf_cnt hw hc).1
  refine z_meth (by decide) rfl (Nat.le_of_ble_eq_true rfl) (fun p e s mm as bl me cd Z hr hnm ht => ?_)
  refine z_iconst Z (nI 0) d_entryOf_0 zi_0 ?_
  refine z_istore_n Z 3 d_entryOf_1 rfl (by decide) rfl ?_
  refine z_lv (lv' := [(0, .ref (h 0)), (1, .int (nI c)), (2, .int k), (3, .int (nI 0))]) rfl ?_
  refine z_loop (fun i : Nat => i ≤ cnt σ c ∧ ∀ j, j < i → σ 4 (c * 4 + j) ≠ k) (fun i : Nat => cnt σ c - i) (fun i : Nat => wx h cI σ) (fun i : Nat => [(0, .ref (h 0)), (1, .int (nI c)), (2, .int k), (3, .int (nI i))]) (fun i hi ih => ?_) 0 ⟨by omega, fun d hd => by omega⟩
  refine z_iload_n Z 3 d_entryOf_2 rfl rfl ?_
  refine z_aload_n Z 0 d_entryOf_3 rfl rfl ?_
  refine xg_6 Z d_entryOf_4 ?_
  refine z_iload_n Z 1 d_entryOf_7 rfl rfl ?_
  refine xl_6 Z (by omega) d_entryOf_8 ?_
  refine z_eqi e6 ?_
  refine z_icmpN_ge Z 34 d_entryOf_9 (by decide) (by omega) (by omega) (fun h9 => ?_) (fun h9 => ?_)
  · refine z_iconst Z (-1) d_entryOf_34 zi_m1 ?_
    refine z_ri0 Z hr rfl d_entryOf_35 (by decide) (by decide) ?_
    exact Or.inr ⟨rfl, fun j hj => hi.2 j (by omega)⟩
  · refine z_aload_n Z 0 d_entryOf_12 rfl rfl ?_
    refine xg_4 Z d_entryOf_13 ?_
    refine z_iload_n Z 1 d_entryOf_16 rfl rfl ?_
    refine z_iload_n Z 3 d_entryOf_17 rfl rfl ?_
    refine z_S0 Z (c_entrySlot ) (ok_entrySlot _) rfl rfl ⟨by decide, by decide⟩ rfl rfl (Nat.le_of_ble_eq_true rfl) d_entryOf_18 ⟨by decide, by decide⟩ (fun v18 h18 => ?_)
    subst h18
    refine xl_4 Z (by omega) d_entryOf_21 ?_
    refine z_iload_n Z 2 d_entryOf_22 rfl rfl ?_
    refine z_icmp_ne Z 28 d_entryOf_23 (by decide) (fun h23 => ?_) (fun h23 => ?_)
    · refine z_iincN Z 3 d_entryOf_28 rfl (by decide) rfl ?_
      refine z_goto Z 2 d_entryOf_31 (by decide) ?_
      exact z_lv rfl (ih (i + 1) ⟨by omega, fun j hj => by
          rcases Nat.lt_or_ge j i with q | q
          · exact hi.2 j q
          · rw [show j = i by omega]; exact h23⟩ (by omega))
    · refine z_iload_n Z 3 d_entryOf_26 rfl rfl ?_
      refine z_ri0 Z hr rfl d_entryOf_27 (by decide) (by decide) ?_
      exact Or.inl ⟨i, by omega, rfl, h23, hi.2⟩
set_option maxHeartbeats 4000000 in
set_option maxRecDepth 100000 in
theorem c_appendEntry {l : Launch} {D : va_G} {cI cB cL : ClassId} {h : Nat → Nat} {σ : St} (hw : wf σ) {c : Nat} (hc : c < 24) (hn : cnt σ c < 4) {k v : Int32} : zMet l y_appendEntry w_appendEntry rm_appendEntry D zCl (zTy cI cB cL) (wx h cI σ) [.ref (h 0), .int (nI c), .int k, .int v] (qv (wx h cI) (fun u => u = apd σ c k v) noXs) 0 0 0 0 := by
  have e6 : σ 6 c = nI (cnt σ c) := (wf_cnt hw hc).2
  refine z_meth (by decide) rfl (Nat.le_of_ble_eq_true rfl) (fun p e s mm as bl me cd Z hr hnm ht => ?_)
  refine z_iload_n Z 1 d_appendEntry_0 rfl rfl ?_
  refine z_aload_n Z 0 d_appendEntry_1 rfl rfl ?_
  refine xg_6 Z d_appendEntry_2 ?_
  refine z_iload_n Z 1 d_appendEntry_5 rfl rfl ?_
  refine xl_6 Z (by omega) d_appendEntry_6 ?_
  refine z_eqi e6 ?_
  refine z_S0 Z (c_entrySlot ) (ok_entrySlot _) rfl rfl ⟨by decide, by decide⟩ rfl rfl (Nat.le_of_ble_eq_true rfl) d_appendEntry_7 ⟨by decide, by decide⟩ (fun v7 h7 => ?_)
  subst h7
  refine z_istore Z 4 d_appendEntry_10 (by decide) rfl ?_
  refine z_aload_n Z 0 d_appendEntry_12 rfl rfl ?_
  refine xg_4 Z d_appendEntry_13 ?_
  refine z_iload Z 4 d_appendEntry_16 rfl ?_
  refine z_iload_n Z 2 d_appendEntry_18 rfl rfl ?_
  refine xs_4 Z (by omega) d_appendEntry_19 ?_
  refine z_aload_n Z 0 d_appendEntry_20 rfl rfl ?_
  refine xg_5 Z d_appendEntry_21 ?_
  refine z_iload Z 4 d_appendEntry_24 rfl ?_
  refine z_iload_n Z 3 d_appendEntry_26 rfl rfl ?_
  refine xs_5 Z (by omega) d_appendEntry_27 ?_
  refine z_aload_n Z 0 d_appendEntry_28 rfl rfl ?_
  refine xg_6 Z d_appendEntry_29 ?_
  refine z_iload_n Z 1 d_appendEntry_32 rfl rfl ?_
  refine z_dup2 Z d_appendEntry_33 ?_
  refine xl_6 Z (by omega) d_appendEntry_34 ?_
  refine z_eqi (y := nI (cnt σ c)) e6 ?_
  refine z_iconst Z (nI 1) d_appendEntry_35 zi_1 ?_
  refine z_iaddN Z d_appendEntry_36 ?_
  refine xs_6 Z (by omega) d_appendEntry_37 ?_
  refine z_rv Z _ hr d_appendEntry_38 (by decide) (by decide) rfl ?_
  rfl
set_option maxHeartbeats 4000000 in
set_option maxRecDepth 100000 in
theorem c_copyEntry {l : Launch} {D : va_G} {cI cB cL : ClassId} {h : Nat → Nat} {σ : St} {c a b : Nat} (hc : c < 24) (ha : a < 4) (hb : b < 4) : zMet l y_copyEntry w_copyEntry rm_copyEntry D zCl (zTy cI cB cL) (wx h cI σ) [.ref (h 0), .int (nI c), .int (nI a), .int (nI b)] (qv (wx h cI) (fun u => u = cpy σ c a b) noXs) 0 0 0 0 := by
  refine z_meth (by decide) rfl (Nat.le_of_ble_eq_true rfl) (fun p e s mm as bl me cd Z hr hnm ht => ?_)
  refine z_aload_n Z 0 d_copyEntry_0 rfl rfl ?_
  refine xg_4 Z d_copyEntry_1 ?_
  refine z_iload_n Z 1 d_copyEntry_4 rfl rfl ?_
  refine z_iload_n Z 3 d_copyEntry_5 rfl rfl ?_
  refine z_S0 Z (c_entrySlot ) (ok_entrySlot _) rfl rfl ⟨by decide, by decide⟩ rfl rfl (Nat.le_of_ble_eq_true rfl) d_copyEntry_6 ⟨by decide, by decide⟩ (fun v6 h6 => ?_)
  subst h6
  refine z_aload_n Z 0 d_copyEntry_9 rfl rfl ?_
  refine xg_4 Z d_copyEntry_10 ?_
  refine z_iload_n Z 1 d_copyEntry_13 rfl rfl ?_
  refine z_iload_n Z 2 d_copyEntry_14 rfl rfl ?_
  refine z_S0 Z (c_entrySlot ) (ok_entrySlot _) rfl rfl ⟨by decide, by decide⟩ rfl rfl (Nat.le_of_ble_eq_true rfl) d_copyEntry_15 ⟨by decide, by decide⟩ (fun v15 h15 => ?_)
  subst h15
  refine xl_4 Z (by omega) d_copyEntry_18 ?_
  refine xs_4 Z (by omega) d_copyEntry_19 ?_
  refine z_aload_n Z 0 d_copyEntry_20 rfl rfl ?_
  refine xg_5 Z d_copyEntry_21 ?_
  refine z_iload_n Z 1 d_copyEntry_24 rfl rfl ?_
  refine z_iload_n Z 3 d_copyEntry_25 rfl rfl ?_
  refine z_S0 Z (c_entrySlot ) (ok_entrySlot _) rfl rfl ⟨by decide, by decide⟩ rfl rfl (Nat.le_of_ble_eq_true rfl) d_copyEntry_26 ⟨by decide, by decide⟩ (fun v26 h26 => ?_)
  subst h26
  refine z_aload_n Z 0 d_copyEntry_29 rfl rfl ?_
  refine xg_5 Z d_copyEntry_30 ?_
  refine z_iload_n Z 1 d_copyEntry_33 rfl rfl ?_
  refine z_iload_n Z 2 d_copyEntry_34 rfl rfl ?_
  refine z_S0 Z (c_entrySlot ) (ok_entrySlot _) rfl rfl ⟨by decide, by decide⟩ rfl rfl (Nat.le_of_ble_eq_true rfl) d_copyEntry_35 ⟨by decide, by decide⟩ (fun v35 h35 => ?_)
  subst h35
  refine xl_5 Z (by omega) d_copyEntry_38 ?_
  refine xs_5 Z (by omega) d_copyEntry_39 ?_
  refine z_rv Z _ hr d_copyEntry_40 (by decide) (by decide) rfl ?_
  rfl
set_option maxHeartbeats 4000000 in
set_option maxRecDepth 100000 in
theorem c_dropEntry {l : Launch} {D : va_G} {cI cB cL : ClassId} {h : Nat → Nat} {σ : St} (hw : wf σ) {c : Nat} (hc : c < 24) {d : Nat} (hd : d < cnt σ c) : zMet l y_dropEntry w_dropEntry rm_dropEntry D zCl (zTy cI cB cL) (wx h cI σ) [.ref (h 0), .int (nI c), .int (nI d)] (qv (wx h cI) (fun u => u = drp σ c d) noXs) 0 0 0 0 := by
  have e6 : σ 6 c = nI (cnt σ c) := (wf_cnt hw hc).2
  have n6 : cnt σ c ≤ 4 := (wf_cnt hw hc).1
  refine z_meth (by decide) rfl (Nat.le_of_ble_eq_true rfl) (fun p e s mm as bl me cd Z hr hnm ht => ?_)
  refine z_aload_n Z 0 d_dropEntry_0 rfl rfl ?_
  refine xg_6 Z d_dropEntry_1 ?_
  refine z_iload_n Z 1 d_dropEntry_4 rfl rfl ?_
  refine xl_6 Z (by omega) d_dropEntry_5 ?_
  refine z_eqi e6 ?_
  refine z_iconst Z (nI 1) d_dropEntry_6 zi_1 ?_
  refine z_isubN Z d_dropEntry_7 (by omega) ?_
  refine z_istore_n Z 3 d_dropEntry_8 rfl (by decide) rfl ?_
  refine z_iload_n Z 2 d_dropEntry_9 rfl rfl ?_
  refine z_istore Z 4 d_dropEntry_10 (by decide) rfl ?_
  refine z_lv (lv' := [(0, .ref (h 0)), (1, .int (nI c)), (2, .int (nI d)), (3, .int (nI (cnt σ c - 1))), (4, .int (nI d))]) rfl ?_
  refine z_ws (ws' := wx h cI (dst σ c d d)) (by rw [dst_0]) ?_
  refine z_loop (fun i : Nat => d ≤ i ∧ i ≤ cnt σ c - 1) (fun i : Nat => cnt σ c - 1 - i) (fun i : Nat => wx h cI (dst σ c d i)) (fun i : Nat => [(0, .ref (h 0)), (1, .int (nI c)), (2, .int (nI d)), (3, .int (nI (cnt σ c - 1))), (4, .int (nI i))]) (fun i hi ih => ?_) d ⟨by omega, by omega⟩
  refine z_iload Z 4 d_dropEntry_12 rfl ?_
  refine z_iload_n Z 3 d_dropEntry_14 rfl rfl ?_
  refine z_icmpN_ge Z 35 d_dropEntry_15 (by decide) (by omega) (by omega) (fun h15 => ?_) (fun h15 => ?_)
  · obtain rfl : i = cnt σ c - 1 := by omega
    refine z_aload_n Z 0 d_dropEntry_35 rfl rfl ?_
    refine xg_6 Z d_dropEntry_36 ?_
    refine z_iload_n Z 1 d_dropEntry_39 rfl rfl ?_
    refine z_iload_n Z 3 d_dropEntry_40 rfl rfl ?_
    refine xs_6 Z (by omega) d_dropEntry_41 ?_
    refine z_rv Z _ hr d_dropEntry_42 (by decide) (by decide) rfl ?_
    rfl
  · refine z_aload_n Z 0 d_dropEntry_18 rfl rfl ?_
    refine z_iload_n Z 1 d_dropEntry_19 rfl rfl ?_
    refine z_iload Z 4 d_dropEntry_20 rfl ?_
    refine z_iconst Z (nI 1) d_dropEntry_22 zi_1 ?_
    refine z_iaddN Z d_dropEntry_23 ?_
    refine z_iload Z 4 d_dropEntry_24 rfl ?_
    refine z_Wv Z (c_copyEntry hc (by omega) (by omega)) (ok_copyEntry _) rfl rfl ⟨by decide, by decide⟩ rfl rfl rfl rfl (Nat.le_of_ble_eq_true rfl) d_dropEntry_26 ⟨by decide, by decide⟩ (fun E u h => h.elim) (fun u26 h26 => ?_)
    rw [h26, dst_step hi.1]
    refine z_iincN Z 4 d_dropEntry_29 rfl (by decide) rfl ?_
    refine z_goto Z 12 d_dropEntry_32 (by decide) ?_
    exact z_lv rfl (ih (i + 1) ⟨by omega, by omega⟩ (by omega))
set_option maxHeartbeats 4000000 in
set_option maxRecDepth 100000 in
theorem c_thingsInRoots {l : Launch} {D : va_G} {cI cB cL : ClassId} {h : Nat → Nat} {σ : St} (hw : wf σ) : zMet l y_thingsInRoots w_thingsInRoots rm_thingsInRoots D zCl (zTy cI cB cL) (wx h cI σ) [.ref (h 0)] (qi0 (wx h cI σ) (fun v => lo24 v ∧ ∀ c, c < 24 → (bt v c = true ↔ ∃ r, r < 6 ∧ σ 10 r = nI c)) noX) 0 0 0 0 := by
  refine z_meth (by decide) rfl (Nat.le_of_ble_eq_true rfl) (fun p e s mm as bl me cd Z hr hnm ht => ?_)
  refine z_iconst Z (nI 0) d_thingsInRoots_0 zi_0 ?_
  refine z_istore_n Z 1 d_thingsInRoots_1 rfl (by decide) rfl ?_
  refine z_iconst Z (nI 0) d_thingsInRoots_2 zi_0 ?_
  refine z_istore_n Z 2 d_thingsInRoots_3 rfl (by decide) rfl ?_
  refine z_lv (lv' := [(0, .ref (h 0)), (1, .int 0), (2, .int (nI 0))]) rfl ?_
  refine z_loop (fun q : Nat × Int32 => q.1 ≤ 6 ∧ lo24 q.2 ∧ ∀ c, c < 24 → (bt q.2 c = true ↔ ∃ r, r < q.1 ∧ σ 10 r = nI c)) (fun q : Nat × Int32 => 6 - q.1) (fun q : Nat × Int32 => wx h cI σ) (fun q : Nat × Int32 => [(0, .ref (h 0)), (1, .int q.2), (2, .int (nI q.1))]) (fun q hi ih => ?_) (0, 0) ⟨by omega, lo24_0, fun c hc => ⟨fun q => (by rw [b_0] at q; cases q), fun ⟨r, hr, _⟩ => absurd hr (Nat.not_lt_zero _)⟩⟩
  obtain ⟨i, x⟩ := q
  dsimp only at hi ih ⊢
  refine z_iload_n Z 2 d_thingsInRoots_4 rfl rfl ?_
  refine z_bipush Z (nI 6) d_thingsInRoots_5 zb_6 ?_
  refine z_icmpN_ge Z 37 d_thingsInRoots_7 (by decide) (by omega) (by omega) (fun h7 => ?_) (fun h7 => ?_)
  · refine z_iload_n Z 1 d_thingsInRoots_37 rfl rfl ?_
    refine z_ri0 Z hr rfl d_thingsInRoots_38 (by decide) (by decide) ?_
    obtain rfl : i = 6 := by omega
    exact ⟨hi.2.1, hi.2.2⟩
  · refine z_aload_n Z 0 d_thingsInRoots_10 rfl rfl ?_
    refine xg_10 Z d_thingsInRoots_11 ?_
    refine z_iload_n Z 2 d_thingsInRoots_14 rfl rfl ?_
    refine xl_10 Z (by omega) d_thingsInRoots_15 ?_
    refine z_iconst Z (-1) d_thingsInRoots_16 zi_m1 ?_
    refine z_icmp_eq Z 31 d_thingsInRoots_17 (by decide) (fun h17 => ?_) (fun h17 => ?_)
    · refine z_iincN Z 2 d_thingsInRoots_31 rfl (by decide) rfl ?_
      refine z_goto Z 4 d_thingsInRoots_34 (by decide) ?_
      exact z_lv rfl (ih (i + 1, x) ⟨by omega, hi.2.1, set_no hi.2.2 (fun c hc q => nI_m1 (by omega) (q.symm.trans h17))⟩ (by dsimp only; omega))
    · obtain ⟨d, hd, ed⟩ := nc_cl (hw.2.2.2.2.2.1 i (by omega)) h17
      refine z_iload_n Z 1 d_thingsInRoots_20 rfl rfl ?_
      refine z_iconst Z (nI 1) d_thingsInRoots_21 zi_1 ?_
      refine z_aload_n Z 0 d_thingsInRoots_22 rfl rfl ?_
      refine xg_10 Z d_thingsInRoots_23 ?_
      refine z_iload_n Z 2 d_thingsInRoots_26 rfl rfl ?_
      refine xl_10 Z (by omega) d_thingsInRoots_27 ?_
      refine z_eqi ed ?_
      refine z_ishl Z d_thingsInRoots_28 ?_
      refine z_ior Z d_thingsInRoots_29 ?_
      refine z_istore_n Z 1 d_thingsInRoots_30 rfl (by decide) rfl ?_
      refine z_iincN Z 2 d_thingsInRoots_31 rfl (by decide) rfl ?_
      refine z_goto Z 4 d_thingsInRoots_34 (by decide) ?_
      exact z_lv rfl (ih (i + 1, _) ⟨by omega, lo24_or hi.2.1 (lo24_one hd), set_or hi.2.2 hd ed⟩ (by dsimp only; omega))
set_option maxHeartbeats 4000000 in
set_option maxRecDepth 100000 in
theorem c_thingsInQueue {l : Launch} {D : va_G} {cI cB cL : ClassId} {h : Nat → Nat} {σ : St} (hw : wf σ) {w : Nat} (hq : w ≤ 24) (eq : σ 0 1 = nI w) : zMet l y_thingsInQueue w_thingsInQueue rm_thingsInQueue D zCl (zTy cI cB cL) (wx h cI σ) [.ref (h 0)] (qi0 (wx h cI σ) (fun v => lo24 v ∧ ∀ c, c < 24 → (bt v c = true ↔ ∃ r, r < w ∧ σ 11 r = nI c)) noX) 0 0 0 0 := by
  refine z_meth (by decide) rfl (Nat.le_of_ble_eq_true rfl) (fun p e s mm as bl me cd Z hr hnm ht => ?_)
  refine z_iconst Z (nI 0) d_thingsInQueue_0 zi_0 ?_
  refine z_istore_n Z 1 d_thingsInQueue_1 rfl (by decide) rfl ?_
  refine z_iconst Z (nI 0) d_thingsInQueue_2 zi_0 ?_
  refine z_istore_n Z 2 d_thingsInQueue_3 rfl (by decide) rfl ?_
  refine z_lv (lv' := [(0, .ref (h 0)), (1, .int 0), (2, .int (nI 0))]) rfl ?_
  refine z_loop (fun q : Nat × Int32 => q.1 ≤ w ∧ lo24 q.2 ∧ ∀ c, c < 24 → (bt q.2 c = true ↔ ∃ r, r < q.1 ∧ σ 11 r = nI c)) (fun q : Nat × Int32 => w - q.1) (fun q : Nat × Int32 => wx h cI σ) (fun q : Nat × Int32 => [(0, .ref (h 0)), (1, .int q.2), (2, .int (nI q.1))]) (fun q hi ih => ?_) (0, 0) ⟨by omega, lo24_0, fun c hc => ⟨fun q => (by rw [b_0] at q; cases q), fun ⟨r, hr, _⟩ => absurd hr (Nat.not_lt_zero _)⟩⟩
  obtain ⟨i, x⟩ := q
  dsimp only at hi ih ⊢
  refine z_iload_n Z 2 d_thingsInQueue_4 rfl rfl ?_
  refine z_aload_n Z 0 d_thingsInQueue_5 rfl rfl ?_
  refine xn_1 Z d_thingsInQueue_6 ?_
  refine z_eqi eq ?_
  refine z_icmpN_ge Z 29 d_thingsInQueue_9 (by decide) (by omega) (by omega) (fun h9 => ?_) (fun h9 => ?_)
  · refine z_iload_n Z 1 d_thingsInQueue_29 rfl rfl ?_
    refine z_ri0 Z hr rfl d_thingsInQueue_30 (by decide) (by decide) ?_
    obtain rfl : i = w := by omega
    exact ⟨hi.2.1, hi.2.2⟩
  · obtain ⟨d, hd, ed⟩ := hw.2.2.2.2.2.2.1 i (by omega)
    refine z_iload_n Z 1 d_thingsInQueue_12 rfl rfl ?_
    refine z_iconst Z (nI 1) d_thingsInQueue_13 zi_1 ?_
    refine z_aload_n Z 0 d_thingsInQueue_14 rfl rfl ?_
    refine xg_11 Z d_thingsInQueue_15 ?_
    refine z_iload_n Z 2 d_thingsInQueue_18 rfl rfl ?_
    refine xl_11 Z (by omega) d_thingsInQueue_19 ?_
    refine z_eqi ed ?_
    refine z_ishl Z d_thingsInQueue_20 ?_
    refine z_ior Z d_thingsInQueue_21 ?_
    refine z_istore_n Z 1 d_thingsInQueue_22 rfl (by decide) rfl ?_
    refine z_iincN Z 2 d_thingsInQueue_23 rfl (by decide) rfl ?_
    refine z_goto Z 4 d_thingsInQueue_26 (by decide) ?_
    exact z_lv rfl (ih (i + 1, _) ⟨by omega, lo24_or hi.2.1 (lo24_one hd), set_or hi.2.2 hd ed⟩ (by dsimp only; omega))
set_option maxHeartbeats 4000000 in
set_option maxRecDepth 100000 in
theorem c_thingsInFields {l : Launch} {D : va_G} {cI cB cL : ClassId} {h : Nat → Nat} {σ : St} (hw : wf σ) {c : Nat} (hc : c < 24) : zMet l y_thingsInFields w_thingsInFields rm_thingsInFields D zCl (zTy cI cB cL) (wx h cI σ) [.ref (h 0), .int (nI c)] (qi0 (wx h cI σ) (fun v => lo24 v ∧ ∀ d, d < 24 → (bt v d = true ↔ ∃ f, f < 3 ∧ σ 3 (c * 3 + f) = nI d)) noX) 0 0 0 0 := by
  refine z_meth (by decide) rfl (Nat.le_of_ble_eq_true rfl) (fun p e s mm as bl me cd Z hr hnm ht => ?_)
  refine z_iconst Z (nI 0) d_thingsInFields_0 zi_0 ?_
  refine z_istore_n Z 2 d_thingsInFields_1 rfl (by decide) rfl ?_
  refine z_iconst Z (nI 0) d_thingsInFields_2 zi_0 ?_
  refine z_istore_n Z 3 d_thingsInFields_3 rfl (by decide) rfl ?_
  refine z_lv (lv' := [(0, .ref (h 0)), (1, .int (nI c)), (2, .int 0), (3, .int (nI 0))]) rfl ?_
  refine z_loop (fun q : Nat × Int32 => q.1 ≤ 3 ∧ lo24 q.2 ∧ ∀ d, d < 24 → (bt q.2 d = true ↔ ∃ f, f < q.1 ∧ σ 3 (c * 3 + f) = nI d)) (fun q : Nat × Int32 => 3 - q.1) (fun q : Nat × Int32 => wx h cI σ) (fun q : Nat × Int32 => [(0, .ref (h 0)), (1, .int (nI c)), (2, .int q.2), (3, .int (nI q.1))]) (fun q hi ih => ?_) (0, 0) ⟨by omega, lo24_0, fun c hc => ⟨fun q => (by rw [b_0] at q; cases q), fun ⟨r, hr, _⟩ => absurd hr (Nat.not_lt_zero _)⟩⟩
  obtain ⟨i, x⟩ := q
  dsimp only at hi ih ⊢
  refine z_iload_n Z 3 d_thingsInFields_4 rfl rfl ?_
  refine z_iconst Z (nI 3) d_thingsInFields_5 zi_3 ?_
  refine z_icmpN_ge Z 40 d_thingsInFields_6 (by decide) (by omega) (by omega) (fun h6 => ?_) (fun h6 => ?_)
  · refine z_iload_n Z 2 d_thingsInFields_40 rfl rfl ?_
    refine z_ri0 Z hr rfl d_thingsInFields_41 (by decide) (by decide) ?_
    obtain rfl : i = 3 := by omega
    exact ⟨hi.2.1, hi.2.2⟩
  · refine z_aload_n Z 0 d_thingsInFields_9 rfl rfl ?_
    refine xg_3 Z d_thingsInFields_10 ?_
    refine z_iload_n Z 1 d_thingsInFields_13 rfl rfl ?_
    refine z_iload_n Z 3 d_thingsInFields_14 rfl rfl ?_
    refine z_S0 Z (c_fieldSlot ) (ok_fieldSlot _) rfl rfl ⟨by decide, by decide⟩ rfl rfl (Nat.le_of_ble_eq_true rfl) d_thingsInFields_15 ⟨by decide, by decide⟩ (fun v15 h15 => ?_)
    subst h15
    refine xl_3 Z (by omega) d_thingsInFields_18 ?_
    refine z_istore Z 4 d_thingsInFields_19 (by decide) rfl ?_
    refine z_iload Z 4 d_thingsInFields_21 rfl ?_
    refine z_iconst Z (-1) d_thingsInFields_23 zi_m1 ?_
    refine z_icmp_eq Z 34 d_thingsInFields_24 (by decide) (fun h24 => ?_) (fun h24 => ?_)
    · refine z_iincN Z 3 d_thingsInFields_34 rfl (by decide) rfl ?_
      refine z_goto Z 4 d_thingsInFields_37 (by decide) ?_
      exact z_lv rfl (ih (i + 1, x) ⟨by omega, hi.2.1, set_no hi.2.2 (fun c hc q => nI_m1 (by omega) (q.symm.trans h24))⟩ (by dsimp only; omega))
    · obtain ⟨d, hd, ed⟩ := nc_cl (hw.2.1 (c * 3 + i) (by omega)) h24
      refine z_iload_n Z 2 d_thingsInFields_27 rfl rfl ?_
      refine z_iconst Z (nI 1) d_thingsInFields_28 zi_1 ?_
      refine z_iload Z 4 d_thingsInFields_29 rfl ?_
      refine z_eqi ed ?_
      refine z_ishl Z d_thingsInFields_31 ?_
      refine z_ior Z d_thingsInFields_32 ?_
      refine z_istore_n Z 2 d_thingsInFields_33 rfl (by decide) rfl ?_
      refine z_iincN Z 3 d_thingsInFields_34 rfl (by decide) rfl ?_
      refine z_goto Z 4 d_thingsInFields_37 (by decide) ?_
      exact z_lv rfl (ih (i + 1, _) ⟨by omega, lo24_or hi.2.1 (lo24_one hd), set_or hi.2.2 hd ed⟩ (by dsimp only; omega))
set_option maxHeartbeats 4000000 in
set_option maxRecDepth 100000 in
theorem c_valuesOfKeysIn {l : Launch} {D : va_G} {cI cB cL : ClassId} {h : Nat → Nat} {σ : St} (hw : wf σ) {c : Nat} (hc : c < 24) {x : Int32} : zMet l y_valuesOfKeysIn w_valuesOfKeysIn rm_valuesOfKeysIn D zCl (zTy cI cB cL) (wx h cI σ) [.ref (h 0), .int (nI c), .int x] (qi0 (wx h cI σ) (fun v => lo24 v ∧ ∀ d, d < 24 → (bt v d = true ↔ ∃ i, i < cnt σ c ∧ (∃ k, k < 24 ∧ σ 4 (c * 4 + i) = nI k ∧ bt x k = true) ∧ σ 5 (c * 4 + i) = nI d)) noX) 0 0 0 0 := by
  have e6 : σ 6 c = nI (cnt σ c) := (wf_cnt hw hc).2
  have n6 : cnt σ c ≤ 4 := (wf_cnt hw hc).1
  refine z_meth (by decide) rfl (Nat.le_of_ble_eq_true rfl) (fun p e s mm as bl me cd Z hr hnm ht => ?_)
  refine z_iconst Z (nI 0) d_valuesOfKeysIn_0 zi_0 ?_
  refine z_istore_n Z 3 d_valuesOfKeysIn_1 rfl (by decide) rfl ?_
  refine z_iconst Z (nI 0) d_valuesOfKeysIn_2 zi_0 ?_
  refine z_istore Z 4 d_valuesOfKeysIn_3 (by decide) rfl ?_
  refine z_lv (lv' := [(0, .ref (h 0)), (1, .int (nI c)), (2, .int x), (3, .int 0), (4, .int (nI 0))]) rfl ?_
  refine z_loop (fun q : Nat × Int32 => q.1 ≤ cnt σ c ∧ lo24 q.2 ∧ ∀ d, d < 24 → (bt q.2 d = true ↔ ∃ i, i < q.1 ∧ (∃ k, k < 24 ∧ σ 4 (c * 4 + i) = nI k ∧ bt x k = true) ∧ σ 5 (c * 4 + i) = nI d)) (fun q : Nat × Int32 => cnt σ c - q.1) (fun q : Nat × Int32 => wx h cI σ) (fun q : Nat × Int32 => [(0, .ref (h 0)), (1, .int (nI c)), (2, .int x), (3, .int q.2), (4, .int (nI q.1))]) (fun q hi ih => ?_) (0, 0) ⟨by omega, lo24_0, fun c hc => ⟨fun q => (by rw [b_0] at q; cases q), fun ⟨r, hr, _⟩ => absurd hr (Nat.not_lt_zero _)⟩⟩
  obtain ⟨i, y⟩ := q
  dsimp only at hi ih ⊢
  refine z_iload Z 4 d_valuesOfKeysIn_5 rfl ?_
  refine z_aload_n Z 0 d_valuesOfKeysIn_7 rfl rfl ?_
  refine xg_6 Z d_valuesOfKeysIn_8 ?_
  refine z_iload_n Z 1 d_valuesOfKeysIn_11 rfl rfl ?_
  refine xl_6 Z (by omega) d_valuesOfKeysIn_12 ?_
  refine z_eqi e6 ?_
  refine z_icmpN_ge Z 56 d_valuesOfKeysIn_13 (by decide) (by omega) (by omega) (fun h13 => ?_) (fun h13 => ?_)
  · refine z_iload_n Z 3 d_valuesOfKeysIn_56 rfl rfl ?_
    refine z_ri0 Z hr rfl d_valuesOfKeysIn_57 (by decide) (by decide) ?_
    obtain rfl : i = cnt σ c := by omega
    exact ⟨hi.2.1, hi.2.2⟩
  · refine z_iload_n Z 1 d_valuesOfKeysIn_16 rfl rfl ?_
    refine z_iload Z 4 d_valuesOfKeysIn_17 rfl ?_
    refine z_S0 Z (c_entrySlot ) (ok_entrySlot _) rfl rfl ⟨by decide, by decide⟩ rfl rfl (Nat.le_of_ble_eq_true rfl) d_valuesOfKeysIn_19 ⟨by decide, by decide⟩ (fun v19 h19 => ?_)
    subst h19
    refine z_istore Z 5 d_valuesOfKeysIn_22 (by decide) rfl ?_
    obtain ⟨k, hk, ek⟩ := hw.2.2.1 (c * 4 + i) (by omega)
    obtain ⟨d, hd, ed⟩ := hw.2.2.2.1 (c * 4 + i) (by omega)
    refine z_iload_n Z 2 d_valuesOfKeysIn_24 rfl rfl ?_
    refine z_aload_n Z 0 d_valuesOfKeysIn_25 rfl rfl ?_
    refine xg_4 Z d_valuesOfKeysIn_26 ?_
    refine z_iload Z 5 d_valuesOfKeysIn_29 rfl ?_
    refine xl_4 Z (by omega) d_valuesOfKeysIn_31 ?_
    refine z_eqi ek ?_
    refine z_S0 Z (c_contains (by omega)) (ok_contains _) rfl rfl ⟨by decide, by decide⟩ rfl rfl (Nat.le_of_ble_eq_true rfl) d_valuesOfKeysIn_32 ⟨by decide, by decide⟩ (fun v32 h32 => ?_)
    refine z_if_eq Z 50 d_valuesOfKeysIn_35 (by decide) (fun h35 => ?_) (fun h35 => ?_)
    · refine z_iincN Z 4 d_valuesOfKeysIn_50 rfl (by decide) rfl ?_
      refine z_goto Z 5 d_valuesOfKeysIn_53 (by decide) ?_
      exact z_lv rfl (ih (i + 1, y) ⟨by omega, hi.2.1, set_noK hi.2.2 (fun ⟨k2, hk2, q1, q2⟩ => by rw [← (nI_eq (by omega) (by omega)).mp (ek.symm.trans q1), zB0 h32 h35] at q2; cases q2)⟩ (by dsimp only; omega))
    · refine z_iload_n Z 3 d_valuesOfKeysIn_38 rfl rfl ?_
      refine z_iconst Z (nI 1) d_valuesOfKeysIn_39 zi_1 ?_
      refine z_aload_n Z 0 d_valuesOfKeysIn_40 rfl rfl ?_
      refine xg_5 Z d_valuesOfKeysIn_41 ?_
      refine z_iload Z 5 d_valuesOfKeysIn_44 rfl ?_
      refine xl_5 Z (by omega) d_valuesOfKeysIn_46 ?_
      refine z_eqi ed ?_
      refine z_ishl Z d_valuesOfKeysIn_47 ?_
      refine z_ior Z d_valuesOfKeysIn_48 ?_
      refine z_istore_n Z 3 d_valuesOfKeysIn_49 rfl (by decide) rfl ?_
      refine z_iincN Z 4 d_valuesOfKeysIn_50 rfl (by decide) rfl ?_
      refine z_goto Z 5 d_valuesOfKeysIn_53 (by decide) ?_
      exact z_lv rfl (ih (i + 1, _) ⟨by omega, lo24_or hi.2.1 (lo24_one hd), set_orK hi.2.2 hd ed ⟨k, hk, ek, zB1 h32 h35⟩⟩ (by dsimp only; omega))
set_option maxHeartbeats 4000000 in
set_option maxRecDepth 100000 in
theorem c_thingsHeldBy {l : Launch} {D : va_G} {cI cB cL : ClassId} {h : Nat → Nat} {σ : St} (hw : wf σ) {c : Nat} (hc : c < 24) {x : Int32} : zMet l y_thingsHeldBy w_thingsHeldBy rm_thingsHeldBy D zCl (zTy cI cB cL) (wx h cI σ) [.ref (h 0), .int (nI c), .int x] (qi0 (wx h cI σ) (fun v => lo24 v ∧ ∀ d, d < 24 → (bt v d = true ↔ hld σ (fun k => bt x k = true) c d)) noX) 0 0 0 0 := by
  refine z_meth (by decide) rfl (Nat.le_of_ble_eq_true rfl) (fun p e s mm as bl me cd Z hr hnm ht => ?_)
  refine z_aload_n Z 0 d_thingsHeldBy_0 rfl rfl ?_
  refine xg_1 Z d_thingsHeldBy_1 ?_
  refine z_iload_n Z 1 d_thingsHeldBy_4 rfl rfl ?_
  refine xl_1 Z (by omega) d_thingsHeldBy_5 ?_
  refine z_if_ne Z 15 d_thingsHeldBy_6 (by decide) (fun h6 => ?_) (fun h6 => ?_)
  · refine z_aload_n Z 0 d_thingsHeldBy_15 rfl rfl ?_
    refine xg_1 Z d_thingsHeldBy_16 ?_
    refine z_iload_n Z 1 d_thingsHeldBy_19 rfl rfl ?_
    refine xl_1 Z (by omega) d_thingsHeldBy_20 ?_
    refine z_iconst Z (nI 2) d_thingsHeldBy_21 zi_2 ?_
    refine z_icmp_ne Z 34 d_thingsHeldBy_22 (by decide) (fun h22 => ?_) (fun h22 => ?_)
    · refine z_iconst Z (nI 0) d_thingsHeldBy_34 zi_0 ?_
      refine z_ri0 Z hr rfl d_thingsHeldBy_35 (by decide) (by decide) ?_
      exact ⟨lo24_0, fun d hd => ⟨fun q => (by rw [show nI 0 = 0 from rfl, b_0] at q; cases q), fun q => (hld_n h6 h22 q).elim⟩⟩
    · refine z_aload_n Z 0 d_thingsHeldBy_25 rfl rfl ?_
      refine z_iload_n Z 1 d_thingsHeldBy_26 rfl rfl ?_
      refine z_iload_n Z 2 d_thingsHeldBy_27 rfl rfl ?_
      refine z_Wi0 Z (c_valuesOfKeysIn hw hc) (ok_valuesOfKeysIn _) rfl rfl ⟨by decide, by decide⟩ rfl rfl rfl rfl (Nat.le_of_ble_eq_true rfl) d_thingsHeldBy_28 ⟨by decide, by decide⟩ (fun E h => h.elim) (fun v28 h28 => ?_)
      refine z_goto Z 35 d_thingsHeldBy_31 (by decide) ?_
      refine z_ri0 Z hr rfl d_thingsHeldBy_35 (by decide) (by decide) ?_
      exact ⟨h28.1, fun d hd => (h28.2 d hd).trans (hld_t h22)⟩
  · refine z_aload_n Z 0 d_thingsHeldBy_9 rfl rfl ?_
    refine z_iload_n Z 1 d_thingsHeldBy_10 rfl rfl ?_
    refine z_Wi0 Z (c_thingsInFields hw hc) (ok_thingsInFields _) rfl rfl ⟨by decide, by decide⟩ rfl rfl rfl rfl (Nat.le_of_ble_eq_true rfl) d_thingsHeldBy_11 ⟨by decide, by decide⟩ (fun E h => h.elim) (fun v11 h11 => ?_)
    refine z_ri0 Z hr rfl d_thingsHeldBy_14 (by decide) (by decide) ?_
    exact ⟨h11.1, fun d hd => (h11.2 d hd).trans (hld_r h6)⟩
end
section
/-! a pass over the graph, its closure; what is forgotten outside a set -/
def whp (σ : St) (x v : Int32) : Prop := lo24 v ∧ (∀ c, c < 24 → bt x c = true → bt v c = true) ∧ (∀ T : Nat → Prop, (∀ c, c < 24 → bt x c = true → T c) → clo σ T → ∀ c, c < 24 → bt v c = true → T c) ∧ (v = x → clo σ (fun c => bt x c = true))
def whi (σ : St) (x : Int32) (i : Nat) (y : Int32) : Prop := lo24 y ∧ (∀ c, c < 24 → bt x c = true → bt y c = true) ∧ (∀ T : Nat → Prop, (∀ c, c < 24 → bt x c = true → T c) → clo σ T → ∀ c, c < 24 → bt y c = true → T c) ∧ ∀ c d, c < i → c < 24 → d < 24 → bt x c = true → hld σ (fun k => bt x k = true) c d → bt y d = true
theorem whi_0 {σ : St} {x : Int32} (hx : lo24 x) : whi σ x 0 x := ⟨hx, fun _ _ h => h, fun _ h _ => h, fun c _ h => absurd h (Nat.not_lt_zero _)⟩
theorem whi_no {σ : St} {x y : Int32} {i : Nat} (h : whi σ x i y) (hb : bt y i = false) : whi σ x (i + 1) y := ⟨h.1, h.2.1, h.2.2.1, fun c d h1 h2 h3 h4 h5 => by
  by_cases e : c = i
  · subst e
    have := h.2.1 c h2 h4
    rw [hb] at this; cases this
  · exact h.2.2.2 c d (by omega) h2 h3 h4 h5⟩
theorem whi_yes {σ : St} {x y v : Int32} {i : Nat} (hi : i < 24) (h : whi σ x i y) (hb : bt y i = true) (hv : lo24 v) (h2 : ∀ d, d < 24 → (bt v d = true ↔ hld σ (fun k => bt y k = true) i d)) : whi σ x (i + 1) (y ||| v) := by
  have hor : ∀ c, bt (y ||| v) c = true ↔ (bt y c = true ∨ bt v c = true) := fun c => by rw [b_or, Bool.or_eq_true]
  refine ⟨lo24_or h.1 hv, fun c h3 h4 => (hor c).mpr (Or.inl (h.2.1 c h3 h4)), fun T h3 h4 c h5 h6 => ?_, fun c d h3 h4 h5 h6 h7 => ?_⟩
  · rcases (hor c).mp h6 with h7 | h7
    · exact h.2.2.1 T h3 h4 c h5 h7
    · exact h4 i c hi h5 (h.2.2.1 T h3 h4 i hi hb) (hld_mono (fun k hk hy => h.2.2.1 T h3 h4 k hk hy) ((h2 c h5).mp h7))
  · refine (hor d).mpr ?_
    by_cases e : c = i
    · subst e
      exact Or.inr ((h2 d h5).mpr (hld_mono (fun k hk hy => h.2.1 k hk hy) h7))
    · exact Or.inl (h.2.2.2 c d (by omega) h4 h5 h6 h7)
theorem whi_end {σ : St} {x y : Int32} (h : whi σ x 24 y) : whp σ x y := ⟨h.1, h.2.1, h.2.2.1, fun e c d hc hd h1 h2 => by
  have := h.2.2.2 c d hc hc hd h1 h2
  rw [e] at this; exact this⟩
def cli (σ : St) (x : Int32) (i : Nat) (y : Int32) : Prop := lo24 y ∧ (∀ c, c < 24 → bt x c = true → bt y c = true) ∧ (∀ c, c < 24 → bt y c = true → rch σ (fun d => bt x d = true) c) ∧ i ≤ num (fun c => bt y c) 24
theorem cli_0 {σ : St} {x : Int32} (hx : lo24 x) : cli σ x 0 x := ⟨hx, fun _ _ h => h, fun _ hc h => rch_base hc h, Nat.zero_le _⟩
theorem cli_full {σ : St} {x y : Int32} (h : cli σ x 24 y) : lo24 y ∧ ∀ c, c < 24 → (bt y c = true ↔ rch σ (fun d => bt x d = true) c) :=
  ⟨h.1, rch_iff (S := fun c => bt y c = true) h.2.1 (fun _ d _ hd _ _ => num_full h.2.2.2 d hd) h.2.2.1⟩
theorem cli_end {σ : St} {x y z : Int32} {i : Nat} (h : cli σ x i y) (hz : whp σ y z) (e : z = y) : lo24 y ∧ ∀ c, c < 24 → (bt y c = true ↔ rch σ (fun d => bt x d = true) c) :=
  ⟨h.1, rch_iff (S := fun c => bt y c = true) h.2.1 (hz.2.2.2 e) h.2.2.1⟩
theorem lo24_grow {y z : Int32} (hy : lo24 y) (hz : lo24 z) (hm : ∀ c, c < 24 → bt y c = true → bt z c = true) (hn : ¬ z = y) : ∃ c, c < 24 ∧ bt y c = false ∧ bt z c = true := by
  by_cases h : ∃ c, c < 24 ∧ bt y c = false ∧ bt z c = true
  · exact h
  · refine absurd (lo24_ext hz hy (fun c hc => ?_)) hn
    cases h1 : bt y c
    · cases h2 : bt z c
      · rfl
      · exact absurd ⟨c, hc, h1, h2⟩ h
    · rw [hm c hc h1]
theorem cli_step {σ : St} {x y z : Int32} {i : Nat} (h : cli σ x i y) (hz : whp σ y z) (hn : ¬ z = y) : cli σ x (i + 1) z := by
  obtain ⟨c, hc, h1, h2⟩ := lo24_grow h.1 hz.1 hz.2.1 hn
  have := num_lt (S := fun c => bt y c) (S' := fun c => bt z c) hz.2.1 hc h1 h2
  have h4 := h.2.2.2
  exact ⟨hz.1, fun d hd q => hz.2.1 d hd (h.2.1 d hd q), fun d hd q => hz.2.2.1 _ h.2.2.1 (rch_clo σ _) d hd q, by omega⟩
/-- a weak thing's referent outside S is forgotten -/
def fgr (σ : St) (c : Nat) (S : Nat → Bool) : St := if σ 3 (c * 3 + 0) ≠ -1 ∧ S (σ 3 (c * 3 + 0)).toNatClampNeg = false then va_up σ 3 (upd (σ 3) (c * 3 + 0) (-1)) else σ
def rws (σ : St) (c n : Nat) : List (Int32 × Int32) := (List.range n).map (fun i => (σ 4 (c * 4 + i), σ 5 (c * 4 + i)))
theorem ent_rws (σ : St) (c : Nat) : ent σ c = rws σ c (cnt σ c) := rfl
theorem rws_s (σ : St) (c n : Nat) : rws σ c (n + 1) = rws σ c n ++ [(σ 4 (c * 4 + n), σ 5 (c * 4 + n))] := by
  simp [rws, List.range_succ]
theorem rws_congr {σ τ : St} {c n : Nat} (h : ∀ j, c * 4 ≤ j → j < c * 4 + n → τ 4 j = σ 4 j ∧ τ 5 j = σ 5 j) : rws τ c n = rws σ c n := by
  unfold rws
  refine List.map_congr_left (fun i hi => ?_)
  have := h (c * 4 + i) (by omega) (by have := List.mem_range.mp hi; omega)
  rw [this.1, this.2]
theorem cnt_congr {σ τ : St} {c : Nat} (h : τ 6 c = σ 6 c) : cnt τ c = cnt σ c := by unfold cnt; rw [h]
theorem ent_congr {σ τ : St} {c : Nat} (h6 : τ 6 c = σ 6 c) (hn : cnt σ c ≤ 4) (h : ∀ j, c * 4 ≤ j → j < c * 4 + 4 → τ 4 j = σ 4 j ∧ τ 5 j = σ 5 j) : ent τ c = ent σ c := by
  rw [ent_rws, ent_rws, cnt_congr h6]
  exact rws_congr (fun j h1 h2 => h j h1 (by omega))
def fgi (σ : St) (c : Nat) (S : Nat → Bool) (i r : Nat) (τ : St) : Prop := r ≤ i ∧ i ≤ cnt σ c ∧ (∀ k, k ≠ 4 → k ≠ 5 → τ k = σ k) ∧ (∀ j, (j < c * 4 ∨ c * 4 + i ≤ j) → τ 4 j = σ 4 j ∧ τ 5 j = σ 5 j) ∧ rws τ c r = (rws σ c i).filter (fun q => S q.1.toNatClampNeg) ∧ wf τ
theorem fgi_0 {σ : St} {c : Nat} {S : Nat → Bool} (hw : wf σ) : fgi σ c S 0 0 σ := ⟨Nat.le_refl _, Nat.zero_le _, fun _ _ _ => rfl, fun _ _ => ⟨rfl, rfl⟩, rfl, hw⟩
theorem fgi_6 {σ τ : St} {c i r : Nat} {S : Nat → Bool} (h : fgi σ c S i r τ) : τ 6 c = σ 6 c := by rw [h.2.2.1 6 (by decide) (by decide)]
theorem fgi_wf {σ τ : St} {c i r : Nat} {S : Nat → Bool} (h : fgi σ c S i r τ) : wf τ := h.2.2.2.2.2
theorem fgi_no {σ τ : St} {c i r k : Nat} {S : Nat → Bool} (h : fgi σ c S i r τ) (hi : i < cnt σ c) (hk : k < 24) (ek : τ 4 (c * 4 + i) = nI k) (hs : S k = false) : fgi σ c S (i + 1) r τ := by
  obtain ⟨h1, h2, h3, h4, h5, h6⟩ := h
  have e4 : σ 4 (c * 4 + i) = nI k := by rw [← (h4 (c * 4 + i) (Or.inr (Nat.le_refl _))).1]; exact ek
  refine ⟨by omega, by omega, h3, fun j hj => h4 j (by omega), ?_, h6⟩
  rw [rws_s, List.filter_append, h5]
  simp [e4, nI_clamp (show k < 2 ^ 31 by omega), hs]
theorem wf_cpy {τ : St} {c a b : Nat} (hw : wf τ) (hc : c < 24) (ha : a < 4) (hb : b < 4) : wf (cpy τ c a b) := by
  obtain ⟨h1, h2, h3, h4, h5, h6, h7, h8⟩ := hw
  refine ⟨h1, h2, fun j hj => ?_, fun j hj => ?_, h5, h6, h7, h8⟩
  · show cl24 (upd (τ 4) (c * 4 + b) (τ 4 (c * 4 + a)) j)
    by_cases e : j = c * 4 + b
    · rw [e, pk_us]; exact h3 _ (by omega)
    · rw [pk_un e]; exact h3 j hj
  · show cl24 (upd (τ 5) (c * 4 + b) (τ 5 (c * 4 + a)) j)
    by_cases e : j = c * 4 + b
    · rw [e, pk_us]; exact h4 _ (by omega)
    · rw [pk_un e]; exact h4 j hj
theorem fgi_yes {σ τ : St} {c i r k : Nat} {S : Nat → Bool} (h : fgi σ c S i r τ) (hc : c < 24) (hn : cnt σ c ≤ 4) (hi : i < cnt σ c) (hk : k < 24) (ek : τ 4 (c * 4 + i) = nI k) (hs : S k = true) : fgi σ c S (i + 1) (r + 1) (cpy τ c i r) := by
  obtain ⟨h1, h2, h3, h4, h5, h6⟩ := h
  have q4 := h4 (c * 4 + i) (Or.inr (Nat.le_refl _))
  have e4 : σ 4 (c * 4 + i) = nI k := by rw [← q4.1]; exact ek
  refine ⟨by omega, by omega, fun j ha hb => ?_, fun j hj => ?_, ?_, wf_cpy h6 hc (by omega) (by omega)⟩
  · show va_up (va_up τ 4 _) 5 _ j = σ j
    rw [va_up_ne _ _ hb, va_up_ne _ _ ha]; exact h3 j ha hb
  · have := h4 j (by omega)
    refine ⟨?_, ?_⟩
    · show upd (τ 4) (c * 4 + r) _ j = _
      rw [pk_un (by omega)]; exact this.1
    · show upd (τ 5) (c * 4 + r) _ j = _
      rw [pk_un (by omega)]; exact this.2
  · have e1 : rws (cpy τ c i r) c r = rws τ c r := rws_congr (fun j ha hb => by
      refine ⟨?_, ?_⟩
      · show upd (τ 4) (c * 4 + r) _ j = _
        rw [pk_un (by omega)]
      · show upd (τ 5) (c * 4 + r) _ j = _
        rw [pk_un (by omega)])
    have e2 : (cpy τ c i r) 4 (c * 4 + r) = σ 4 (c * 4 + i) := by
      show upd (τ 4) (c * 4 + r) (τ 4 (c * 4 + i)) (c * 4 + r) = _
      rw [pk_us]; exact q4.1
    have e3 : (cpy τ c i r) 5 (c * 4 + r) = σ 5 (c * 4 + i) := by
      show upd (τ 5) (c * 4 + r) (τ 5 (c * 4 + i)) (c * 4 + r) = _
      rw [pk_us]; exact q4.2
    rw [rws_s, rws_s, List.filter_append, e1, e2, e3, h5]
    simp [e4, nI_clamp (show k < 2 ^ 31 by omega), hs]
/-- a table's entries with keys outside S are forgotten -/
def fge (σ : St) (c : Nat) (S : Nat → Bool) (u : St) : Prop := (∀ k, k ≠ 4 → k ≠ 5 → k ≠ 6 → u k = σ k) ∧ (∀ j, (j < c * 4 ∨ c * 4 + 4 ≤ j) → u 4 j = σ 4 j ∧ u 5 j = σ 5 j) ∧ (∀ c', c' ≠ c → u 6 c' = σ 6 c') ∧ ent u c = (ent σ c).filter (fun q => S q.1.toNatClampNeg) ∧ wf u
theorem wf_6 {τ : St} {c r : Nat} (hw : wf τ) (hr : r ≤ 4) : wf (va_up τ 6 (upd (τ 6) c (nI r))) := by
  obtain ⟨h1, h2⟩ := hw
  refine ⟨fun c' hc' => ?_, h2⟩
  show ∃ n, n ≤ 4 ∧ upd (τ 6) c (nI r) c' = nI n
  by_cases e : c' = c
  · rw [e, pk_us]; exact ⟨r, hr, rfl⟩
  · rw [pk_un e]; exact h1 c' hc'
theorem fge_end {σ τ : St} {c r : Nat} {S : Nat → Bool} (hw : wf σ) (hc : c < 24) (h : fgi σ c S (cnt σ c) r τ) : fge σ c S (va_up τ 6 (upd (τ 6) c (nI r))) := by
  obtain ⟨h1, h2, h3, h4, h5, h6⟩ := h
  have hn := (wf_cnt hw hc).1
  refine ⟨fun k ha hb hc' => ?_, fun j hj => ?_, fun c' hc' => ?_, ?_, wf_6 h6 (by omega)⟩
  · rw [va_up_ne _ _ hc']; exact h3 k ha hb
  · exact h4 j (by omega)
  · show upd (τ 6) c (nI r) c' = _
    rw [pk_un hc', h3 6 (by decide) (by decide)]
  · have e : cnt (va_up τ 6 (upd (τ 6) c (nI r))) c = r := by
      show (upd (τ 6) c (nI r) c).toNatClampNeg = r
      rw [pk_us, nI_clamp (by omega)]
    rw [ent_rws, e, ent_rws, ← h5]
    rfl
def fgF (σ : St) (S : Nat → Bool) (c f : Nat) : Int32 := if S c = true ∧ σ 1 c = nI 1 ∧ f = 0 ∧ σ 3 (c * 3 + 0) ≠ -1 ∧ S (σ 3 (c * 3 + 0)).toNatClampNeg = false then -1 else σ 3 (c * 3 + f)
def fgL (σ : St) (S : Nat → Bool) (c : Nat) : List (Int32 × Int32) := if S c = true ∧ σ 1 c = nI 2 then (ent σ c).filter (fun q => S q.1.toNatClampNeg) else ent σ c
/-- in all cells before i what lies outside S is forgotten -/
def fgo (σ : St) (S : Nat → Bool) (i : Nat) (u : St) : Prop := (∀ k, k ≠ 3 → k ≠ 4 → k ≠ 5 → k ≠ 6 → u k = σ k) ∧ wf u ∧ (∀ c, c < 24 → c < i → (∀ f, f < 3 → u 3 (c * 3 + f) = fgF σ S c f) ∧ ent u c = fgL σ S c) ∧ ∀ c, c < 24 → i ≤ c → (∀ f, f < 3 → u 3 (c * 3 + f) = σ 3 (c * 3 + f)) ∧ ent u c = ent σ c
theorem fgo_0 {σ : St} {S : Nat → Bool} (hw : wf σ) : fgo σ S 0 σ := ⟨fun _ _ _ _ _ => rfl, hw, fun _ _ h => absurd h (Nat.not_lt_zero _), fun _ _ _ => ⟨fun _ _ => rfl, rfl⟩⟩
theorem fgo_wf {σ τ : St} {S : Nat → Bool} {i : Nat} (h : fgo σ S i τ) : wf τ := h.2.1
/-- one cell more -/
theorem fgo_s {σ τ u : St} {S : Nat → Bool} {i : Nat} (h : fgo σ S i τ) (hk : ∀ k, k ≠ 3 → k ≠ 4 → k ≠ 5 → k ≠ 6 → u k = τ k) (hw : wf u) (ho : ∀ c, c < 24 → c ≠ i → (∀ f, f < 3 → u 3 (c * 3 + f) = τ 3 (c * 3 + f)) ∧ ent u c = ent τ c)
    (hi : i < 24 → (∀ f, f < 3 → u 3 (i * 3 + f) = fgF σ S i f) ∧ ent u i = fgL σ S i) : fgo σ S (i + 1) u := by
  refine ⟨fun k h3 h4 h5 h6 => (hk k h3 h4 h5 h6).trans (h.1 k h3 h4 h5 h6), hw, fun c hc hci => ?_, fun c hc hci => ?_⟩
  · by_cases e : c = i
    · subst e; exact hi hc
    · obtain ⟨a, b⟩ := ho c hc e
      obtain ⟨a2, b2⟩ := h.2.2.1 c hc (by omega)
      exact ⟨fun f hf => (a f hf).trans (a2 f hf), b.trans b2⟩
  · obtain ⟨a, b⟩ := ho c hc (by omega)
    obtain ⟨a2, b2⟩ := h.2.2.2 c hc (by omega)
    exact ⟨fun f hf => (a f hf).trans (a2 f hf), b.trans b2⟩
theorem fgo_no {σ τ : St} {S : Nat → Bool} {i : Nat} (h24 : i < 24) (h : fgo σ S i τ) (hn : S i = false ∨ (¬ σ 1 i = nI 1 ∧ ¬ σ 1 i = nI 2)) : fgo σ S (i + 1) τ := by
  refine fgo_s h (fun _ _ _ _ _ => rfl) h.2.1 (fun _ _ _ => ⟨fun _ _ => rfl, rfl⟩) (fun _ => ?_)
  obtain ⟨a, b⟩ := h.2.2.2 i h24 (Nat.le_refl _)
  refine ⟨fun f hf => ?_, ?_⟩
  · rw [a f hf]; unfold fgF; rw [if_neg]
    rintro ⟨q1, q2, -⟩
    rcases hn with hn | hn
    · rw [hn] at q1; cases q1
    · exact hn.1 q2
  · rw [b]; unfold fgL; rw [if_neg]
    rintro ⟨q1, q2⟩
    rcases hn with hn | hn
    · rw [hn] at q1; cases q1
    · exact hn.2 q2
theorem wf_3 {τ : St} {j : Nat} {x : Int32} (hw : wf τ) (hx : nc x) : wf (va_up τ 3 (upd (τ 3) j x)) := by
  obtain ⟨h1, h2, h3⟩ := hw
  refine ⟨h1, fun j' hj' => ?_, h3⟩
  show nc (upd (τ 3) j x j')
  by_cases e : j' = j
  · rw [e, pk_us]; exact hx
  · rw [pk_un e]; exact h2 j' hj'
theorem fgo_weak {σ τ : St} {S : Nat → Bool} {i : Nat} (h24 : i < 24) (h : fgo σ S i τ) (hs : S i = true) (h1 : σ 1 i = nI 1) : fgo σ S (i + 1) (fgr τ i S) := by
  obtain ⟨a, b⟩ := h.2.2.2 i h24 (Nat.le_refl _)
  have a0 : τ 3 (i * 3 + 0) = σ 3 (i * 3 + 0) := a 0 (by decide)
  have hl : fgL σ S i = ent σ i := by
    unfold fgL; rw [if_neg]
    rintro ⟨-, q⟩; rw [h1] at q; exact absurd q (by decide)
  by_cases q : τ 3 (i * 3 + 0) ≠ -1 ∧ S (τ 3 (i * 3 + 0)).toNatClampNeg = false
  · have e : fgr τ i S = va_up τ 3 (upd (τ 3) (i * 3 + 0) (-1)) := by unfold fgr; rw [if_pos q]
    rw [e]
    refine fgo_s h (fun k h3 _ _ _ => va_up_ne _ _ h3) (wf_3 h.2.1 (Or.inl rfl)) (fun c hc hci => ⟨fun f hf => ?_, rfl⟩) (fun _ => ⟨fun f hf => ?_, b.trans hl.symm⟩)
    · show upd (τ 3) (i * 3 + 0) (-1) (c * 3 + f) = _
      rw [pk_un (by omega)]
    · show upd (τ 3) (i * 3 + 0) (-1) (i * 3 + f) = _
      by_cases f0 : f = 0
      · subst f0
        rw [pk_us]; unfold fgF; rw [if_pos ⟨hs, h1, rfl, by rw [← a0]; exact q.1, by rw [← a0]; exact q.2⟩]
      · rw [pk_un (by omega), a f hf]; unfold fgF; rw [if_neg (fun z => f0 z.2.2.1)]
  · have e : fgr τ i S = τ := by unfold fgr; rw [if_neg q]
    rw [e]
    refine fgo_s h (fun _ _ _ _ _ => rfl) h.2.1 (fun _ _ _ => ⟨fun _ _ => rfl, rfl⟩) (fun _ => ⟨fun f hf => ?_, b.trans hl.symm⟩)
    rw [a f hf]; unfold fgF; rw [if_neg (fun z => q ⟨by rw [a0]; exact z.2.2.2.1, by rw [a0]; exact z.2.2.2.2⟩)]
theorem fgo_tab {σ τ u : St} {S : Nat → Bool} {i : Nat} (h24 : i < 24) (h : fgo σ S i τ) (hs : S i = true) (h2 : σ 1 i = nI 2) (hg : fge τ i S u) : fgo σ S (i + 1) u := by
  obtain ⟨a, b⟩ := h.2.2.2 i h24 (Nat.le_refl _)
  obtain ⟨g1, g2, g3, g4, g5⟩ := hg
  have e3 : u 3 = τ 3 := g1 3 (by decide) (by decide) (by decide)
  refine fgo_s h (fun k _ h4 h5 h6 => g1 k h4 h5 h6) g5 (fun c hc hci => ⟨fun f hf => by rw [e3], ?_⟩) (fun _ => ⟨fun f hf => ?_, ?_⟩)
  · exact ent_congr (g3 c hci) (wf_cnt h.2.1 hc).1 (fun j h1 h2 => g2 j (by omega))
  · rw [e3, a f hf]; unfold fgF; rw [if_neg]
    rintro ⟨-, q, -⟩; rw [h2] at q; exact absurd q (by decide)
  · rw [g4, b]; unfold fgL; rw [if_pos ⟨hs, h2⟩]
set_option maxHeartbeats 4000000 in
set_option maxRecDepth 100000 in
theorem c_withThingsHeld {l : Launch} {D : va_G} {cI cB cL : ClassId} {h : Nat → Nat} {σ : St} (hw : wf σ) {x : Int32} (hx : lo24 x) : zMet l y_withThingsHeld w_withThingsHeld rm_withThingsHeld D zCl (zTy cI cB cL) (wx h cI σ) [.ref (h 0), .int x] (qi0 (wx h cI σ) (fun v => whp σ x v) noX) 0 0 0 0 := by
  refine z_meth (by decide) rfl (Nat.le_of_ble_eq_true rfl) (fun p e s mm as bl me cd Z hr hnm ht => ?_)
  refine z_iload_n Z 1 d_withThingsHeld_0 rfl rfl ?_
  refine z_istore_n Z 2 d_withThingsHeld_1 rfl (by decide) rfl ?_
  refine z_iconst Z (nI 0) d_withThingsHeld_2 zi_0 ?_
  refine z_istore_n Z 3 d_withThingsHeld_3 rfl (by decide) rfl ?_
  refine z_lv (lv' := [(0, .ref (h 0)), (1, .int x), (2, .int x), (3, .int (nI 0))]) rfl ?_
  refine z_loop (fun q : Nat × Int32 => q.1 ≤ 24 ∧ whi σ x q.1 q.2) (fun q : Nat × Int32 => 24 - q.1) (fun q : Nat × Int32 => wx h cI σ) (fun q : Nat × Int32 => [(0, .ref (h 0)), (1, .int x), (2, .int q.2), (3, .int (nI q.1))]) (fun q hi ih => ?_) (0, x) ⟨by omega, whi_0 hx⟩
  obtain ⟨i, y⟩ := q
  dsimp only at hi ih ⊢
  refine z_iload_n Z 3 d_withThingsHeld_4 rfl rfl ?_
  refine z_bipush Z (nI 24) d_withThingsHeld_5 zb_24 ?_
  refine z_icmpN_ge Z 33 d_withThingsHeld_7 (by decide) (by omega) (by omega) (fun h7 => ?_) (fun h7 => ?_)
  · refine z_iload_n Z 2 d_withThingsHeld_33 rfl rfl ?_
    refine z_ri0 Z hr rfl d_withThingsHeld_34 (by decide) (by decide) ?_
    obtain rfl : i = 24 := by omega
    exact whi_end hi.2
  · refine z_iload_n Z 2 d_withThingsHeld_10 rfl rfl ?_
    refine z_iload_n Z 3 d_withThingsHeld_11 rfl rfl ?_
    refine z_S0 Z (c_contains (by omega)) (ok_contains _) rfl rfl ⟨by decide, by decide⟩ rfl rfl (Nat.le_of_ble_eq_true rfl) d_withThingsHeld_12 ⟨by decide, by decide⟩ (fun v12 h12 => ?_)
    refine z_if_eq Z 27 d_withThingsHeld_15 (by decide) (fun h15 => ?_) (fun h15 => ?_)
    · refine z_iincN Z 3 d_withThingsHeld_27 rfl (by decide) rfl ?_
      refine z_goto Z 4 d_withThingsHeld_30 (by decide) ?_
      exact z_lv rfl (ih (i + 1, y) ⟨by omega, whi_no hi.2 (zB0 h12 h15)⟩ (by dsimp only; omega))
    · refine z_iload_n Z 2 d_withThingsHeld_18 rfl rfl ?_
      refine z_aload_n Z 0 d_withThingsHeld_19 rfl rfl ?_
      refine z_iload_n Z 3 d_withThingsHeld_20 rfl rfl ?_
      refine z_iload_n Z 2 d_withThingsHeld_21 rfl rfl ?_
      refine z_Wi0 Z (c_thingsHeldBy hw (by omega)) (ok_thingsHeldBy _) rfl rfl ⟨by decide, by decide⟩ rfl rfl rfl rfl (Nat.le_of_ble_eq_true rfl) d_withThingsHeld_22 ⟨by decide, by decide⟩ (fun E h => h.elim) (fun v22 h22 => ?_)
      refine z_ior Z d_withThingsHeld_25 ?_
      refine z_istore_n Z 2 d_withThingsHeld_26 rfl (by decide) rfl ?_
      refine z_iincN Z 3 d_withThingsHeld_27 rfl (by decide) rfl ?_
      refine z_goto Z 4 d_withThingsHeld_30 (by decide) ?_
      exact z_lv rfl (ih (i + 1, _) ⟨by omega, whi_yes (by omega) hi.2 (zB1 h12 h15) h22.1 h22.2⟩ (by dsimp only; omega))
set_option maxHeartbeats 4000000 in
set_option maxRecDepth 100000 in
theorem c_closureOf {l : Launch} {D : va_G} {cI cB cL : ClassId} {h : Nat → Nat} {σ : St} (hw : wf σ) {x : Int32} (hx : lo24 x) : zMet l y_closureOf w_closureOf rm_closureOf D zCl (zTy cI cB cL) (wx h cI σ) [.ref (h 0), .int x] (qi0 (wx h cI σ) (fun v => lo24 v ∧ ∀ c, c < 24 → (bt v c = true ↔ rch σ (fun d => bt x d = true) c)) noX) 0 0 0 0 := by
  refine z_meth (by decide) rfl (Nat.le_of_ble_eq_true rfl) (fun p e s mm as bl me cd Z hr hnm ht => ?_)
  refine z_iload_n Z 1 d_closureOf_0 rfl rfl ?_
  refine z_istore_n Z 2 d_closureOf_1 rfl (by decide) rfl ?_
  refine z_iconst Z (nI 0) d_closureOf_2 zi_0 ?_
  refine z_istore_n Z 3 d_closureOf_3 rfl (by decide) rfl ?_
  refine z_lv (lv' := [(0, .ref (h 0)), (1, .int x), (2, .int x), (3, .int (nI 0))]) rfl ?_
  refine z_loop (fun q : Nat × Int32 => q.1 ≤ 24 ∧ cli σ x q.1 q.2) (fun q : Nat × Int32 => 24 - q.1) (fun q : Nat × Int32 => wx h cI σ) (fun q : Nat × Int32 => [(0, .ref (h 0)), (1, .int x), (2, .int q.2), (3, .int (nI q.1))]) (fun q hi ih => ?_) (0, x) ⟨by omega, cli_0 hx⟩
  obtain ⟨i, y⟩ := q
  dsimp only at hi ih ⊢
  refine z_iload_n Z 3 d_closureOf_4 rfl rfl ?_
  refine z_bipush Z (nI 24) d_closureOf_5 zb_24 ?_
  refine z_icmpN_ge Z 34 d_closureOf_7 (by decide) (by omega) (by omega) (fun h7 => ?_) (fun h7 => ?_)
  · refine z_iload_n Z 2 d_closureOf_34 rfl rfl ?_
    refine z_ri0 Z hr rfl d_closureOf_35 (by decide) (by decide) ?_
    obtain rfl : i = 24 := by omega
    exact cli_full hi.2
  · refine z_aload_n Z 0 d_closureOf_10 rfl rfl ?_
    refine z_iload_n Z 2 d_closureOf_11 rfl rfl ?_
    refine z_Wi0 Z (c_withThingsHeld hw hi.2.1) (ok_withThingsHeld _) rfl rfl ⟨by decide, by decide⟩ rfl rfl rfl rfl (Nat.le_of_ble_eq_true rfl) d_closureOf_12 ⟨by decide, by decide⟩ (fun E h => h.elim) (fun v12 h12 => ?_)
    refine z_istore Z 4 d_closureOf_15 (by decide) rfl ?_
    refine z_iload Z 4 d_closureOf_17 rfl ?_
    refine z_iload_n Z 2 d_closureOf_19 rfl rfl ?_
    refine z_icmp_ne Z 25 d_closureOf_20 (by decide) (fun h20 => ?_) (fun h20 => ?_)
    · refine z_iload Z 4 d_closureOf_25 rfl ?_
      refine z_istore_n Z 2 d_closureOf_27 rfl (by decide) rfl ?_
      refine z_iincN Z 3 d_closureOf_28 rfl (by decide) rfl ?_
      refine z_goto Z 4 d_closureOf_31 (by decide) ?_
      exact z_lv rfl (ih (i + 1, v12) ⟨by omega, cli_step hi.2 h12 h20⟩ (by dsimp only; omega))
    · refine z_iload_n Z 2 d_closureOf_23 rfl rfl ?_
      refine z_ri0 Z hr rfl d_closureOf_24 (by decide) (by decide) ?_
      exact cli_end hi.2 h12 h20
set_option maxHeartbeats 4000000 in
set_option maxRecDepth 100000 in
theorem c_forgetReferentOutside {l : Launch} {D : va_G} {cI cB cL : ClassId} {h : Nat → Nat} {σ : St} (hw : wf σ) {c : Nat} (hc : c < 24) {x : Int32} : zMet l y_forgetReferentOutside w_forgetReferentOutside rm_forgetReferentOutside D zCl (zTy cI cB cL) (wx h cI σ) [.ref (h 0), .int (nI c), .int x] (qv (wx h cI) (fun u => u = fgr σ c (fun d => bt x d)) noXs) 0 0 0 0 := by
  refine z_meth (by decide) rfl (Nat.le_of_ble_eq_true rfl) (fun p e s mm as bl me cd Z hr hnm ht => ?_)
  refine z_iload_n Z 1 d_forgetReferentOutside_0 rfl rfl ?_
  refine z_iconst Z (nI 0) d_forgetReferentOutside_1 zi_0 ?_
  refine z_S0 Z (c_fieldSlot ) (ok_fieldSlot _) rfl rfl ⟨by decide, by decide⟩ rfl rfl (Nat.le_of_ble_eq_true rfl) d_forgetReferentOutside_2 ⟨by decide, by decide⟩ (fun v2 h2 => ?_)
  subst h2
  refine z_istore_n Z 3 d_forgetReferentOutside_5 rfl (by decide) rfl ?_
  refine z_aload_n Z 0 d_forgetReferentOutside_6 rfl rfl ?_
  refine xg_3 Z d_forgetReferentOutside_7 ?_
  refine z_iload_n Z 3 d_forgetReferentOutside_10 rfl rfl ?_
  refine xl_3 Z (by omega) d_forgetReferentOutside_11 ?_
  refine z_iconst Z (-1) d_forgetReferentOutside_12 zi_m1 ?_
  refine z_icmp_eq Z 36 d_forgetReferentOutside_13 (by decide) (fun h13 => ?_) (fun h13 => ?_)
  · refine z_rv Z _ hr d_forgetReferentOutside_36 (by decide) (by decide) rfl ?_
    unfold fgr; rw [if_neg (fun q => q.1 h13)]
  · obtain ⟨d, hd, ed⟩ := nc_cl (hw.2.1 (c * 3 + 0) (by omega)) h13
    refine z_iload_n Z 2 d_forgetReferentOutside_16 rfl rfl ?_
    refine z_aload_n Z 0 d_forgetReferentOutside_17 rfl rfl ?_
    refine xg_3 Z d_forgetReferentOutside_18 ?_
    refine z_iload_n Z 3 d_forgetReferentOutside_21 rfl rfl ?_
    refine xl_3 Z (by omega) d_forgetReferentOutside_22 ?_
    refine z_eqi ed ?_
    refine z_S0 Z (c_contains (by omega)) (ok_contains _) rfl rfl ⟨by decide, by decide⟩ rfl rfl (Nat.le_of_ble_eq_true rfl) d_forgetReferentOutside_23 ⟨by decide, by decide⟩ (fun v23 h23 => ?_)
    refine z_if_ne Z 36 d_forgetReferentOutside_26 (by decide) (fun h26 => ?_) (fun h26 => ?_)
    · refine z_rv Z _ hr d_forgetReferentOutside_36 (by decide) (by decide) rfl ?_
      unfold fgr; rw [if_neg (fun q => by have q2 : bt x d = false := (by have q3 := q.2; rw [ed, nI_clamp (by omega)] at q3; exact q3); rw [zB1 h23 h26] at q2; cases q2)]
    · refine z_aload_n Z 0 d_forgetReferentOutside_29 rfl rfl ?_
      refine xg_3 Z d_forgetReferentOutside_30 ?_
      refine z_iload_n Z 3 d_forgetReferentOutside_33 rfl rfl ?_
      refine z_iconst Z (-1) d_forgetReferentOutside_34 zi_m1 ?_
      refine xs_3 Z (by omega) d_forgetReferentOutside_35 ?_
      refine z_rv Z _ hr d_forgetReferentOutside_36 (by decide) (by decide) rfl ?_
      unfold fgr; rw [if_pos ⟨h13, by rw [ed, nI_clamp (by omega)]; exact zB0 h23 h26⟩]
set_option maxHeartbeats 4000000 in
set_option maxRecDepth 100000 in
theorem c_forgetEntriesOutside {l : Launch} {D : va_G} {cI cB cL : ClassId} {h : Nat → Nat} {σ : St} (hw : wf σ) {c : Nat} (hc : c < 24) {x : Int32} : zMet l y_forgetEntriesOutside w_forgetEntriesOutside rm_forgetEntriesOutside D zCl (zTy cI cB cL) (wx h cI σ) [.ref (h 0), .int (nI c), .int x] (qv (wx h cI) (fun u => fge σ c (fun d => bt x d) u) noXs) 0 0 0 0 := by
  refine z_meth (by decide) rfl (Nat.le_of_ble_eq_true rfl) (fun p e s mm as bl me cd Z hr hnm ht => ?_)
  refine z_iconst Z (nI 0) d_forgetEntriesOutside_0 zi_0 ?_
  refine z_istore_n Z 3 d_forgetEntriesOutside_1 rfl (by decide) rfl ?_
  refine z_iconst Z (nI 0) d_forgetEntriesOutside_2 zi_0 ?_
  refine z_istore Z 4 d_forgetEntriesOutside_3 (by decide) rfl ?_
  refine z_lv (lv' := [(0, .ref (h 0)), (1, .int (nI c)), (2, .int x), (3, .int (nI 0)), (4, .int (nI 0))]) rfl ?_
  refine z_loop (fun q : Nat × Nat × St => fgi σ c (fun d => bt x d) q.1 q.2.1 q.2.2) (fun q : Nat × Nat × St => cnt σ c - q.1) (fun q : Nat × Nat × St => wx h cI q.2.2) (fun q : Nat × Nat × St => [(0, .ref (h 0)), (1, .int (nI c)), (2, .int x), (3, .int (nI q.2.1)), (4, .int (nI q.1))]) (fun q hi ih => ?_) (0, 0, σ) (fgi_0 hw)
  obtain ⟨i, r, τ⟩ := q
  dsimp only at hi ih ⊢
  have e6 : τ 6 c = nI (cnt σ c) := by rw [fgi_6 hi]; exact (wf_cnt hw hc).2
  have n6 : cnt σ c ≤ 4 := (wf_cnt hw hc).1
  have hri : r ≤ i ∧ i ≤ cnt σ c := ⟨hi.1, hi.2.1⟩
  refine z_iload Z 4 d_forgetEntriesOutside_5 rfl ?_
  refine z_aload_n Z 0 d_forgetEntriesOutside_7 rfl rfl ?_
  refine xg_6 Z d_forgetEntriesOutside_8 ?_
  refine z_iload_n Z 1 d_forgetEntriesOutside_11 rfl rfl ?_
  refine xl_6 Z (by omega) d_forgetEntriesOutside_12 ?_
  refine z_eqi e6 ?_
  refine z_icmpN_ge Z 51 d_forgetEntriesOutside_13 (by decide) (by omega) (by omega) (fun h13 => ?_) (fun h13 => ?_)
  · obtain rfl : i = cnt σ c := by omega
    refine z_aload_n Z 0 d_forgetEntriesOutside_51 rfl rfl ?_
    refine xg_6 Z d_forgetEntriesOutside_52 ?_
    refine z_iload_n Z 1 d_forgetEntriesOutside_55 rfl rfl ?_
    refine z_iload_n Z 3 d_forgetEntriesOutside_56 rfl rfl ?_
    refine xs_6 Z (by omega) d_forgetEntriesOutside_57 ?_
    refine z_rv Z _ hr d_forgetEntriesOutside_58 (by decide) (by decide) rfl ?_
    exact fge_end hw hc hi
  · refine z_iload_n Z 2 d_forgetEntriesOutside_16 rfl rfl ?_
    refine z_aload_n Z 0 d_forgetEntriesOutside_17 rfl rfl ?_
    refine xg_4 Z d_forgetEntriesOutside_18 ?_
    refine z_iload_n Z 1 d_forgetEntriesOutside_21 rfl rfl ?_
    refine z_iload Z 4 d_forgetEntriesOutside_22 rfl ?_
    refine z_S0 Z (c_entrySlot ) (ok_entrySlot _) rfl rfl ⟨by decide, by decide⟩ rfl rfl (Nat.le_of_ble_eq_true rfl) d_forgetEntriesOutside_24 ⟨by decide, by decide⟩ (fun v24 h24 => ?_)
    subst h24
    refine xl_4 Z (by omega) d_forgetEntriesOutside_27 ?_
    obtain ⟨k, hk, ek⟩ := (fgi_wf hi).2.2.1 (c * 4 + i) (by omega)
    refine z_eqi ek ?_
    refine z_S0 Z (c_contains (by omega)) (ok_contains _) rfl rfl ⟨by decide, by decide⟩ rfl rfl (Nat.le_of_ble_eq_true rfl) d_forgetEntriesOutside_28 ⟨by decide, by decide⟩ (fun v28 h28 => ?_)
    refine z_if_eq Z 45 d_forgetEntriesOutside_31 (by decide) (fun h31 => ?_) (fun h31 => ?_)
    · refine z_iincN Z 4 d_forgetEntriesOutside_45 rfl (by decide) rfl ?_
      refine z_goto Z 5 d_forgetEntriesOutside_48 (by decide) ?_
      exact z_lv rfl (ih (i + 1, r, τ) (fgi_no hi (by omega) hk ek (zB0 h28 h31)) (by dsimp only; omega))
    · refine z_aload_n Z 0 d_forgetEntriesOutside_34 rfl rfl ?_
      refine z_iload_n Z 1 d_forgetEntriesOutside_35 rfl rfl ?_
      refine z_iload Z 4 d_forgetEntriesOutside_36 rfl ?_
      refine z_iload_n Z 3 d_forgetEntriesOutside_38 rfl rfl ?_
      refine z_Wv Z (c_copyEntry hc (by omega) (by omega)) (ok_copyEntry _) rfl rfl ⟨by decide, by decide⟩ rfl rfl rfl rfl (Nat.le_of_ble_eq_true rfl) d_forgetEntriesOutside_39 ⟨by decide, by decide⟩ (fun E u h => h.elim) (fun u39 h39 => ?_)
      subst h39
      refine z_iincN Z 3 d_forgetEntriesOutside_42 rfl (by decide) rfl ?_
      refine z_iincN Z 4 d_forgetEntriesOutside_45 rfl (by decide) rfl ?_
      refine z_goto Z 5 d_forgetEntriesOutside_48 (by decide) ?_
      exact z_lv rfl (ih (i + 1, r + 1, _) (fgi_yes hi hc n6 (by omega) hk ek (zB1 h28 h31)) (by dsimp only; omega))
set_option maxHeartbeats 4000000 in
set_option maxRecDepth 100000 in
theorem c_forgetOutside {l : Launch} {D : va_G} {cI cB cL : ClassId} {h : Nat → Nat} {σ : St} (hw : wf σ) {x : Int32} : zMet l y_forgetOutside w_forgetOutside rm_forgetOutside D zCl (zTy cI cB cL) (wx h cI σ) [.ref (h 0), .int x] (qv (wx h cI) (fun u => fgo σ (fun d => bt x d) 24 u) noXs) 0 0 0 0 := by
  refine z_meth (by decide) rfl (Nat.le_of_ble_eq_true rfl) (fun p e s mm as bl me cd Z hr hnm ht => ?_)
  refine z_iconst Z (nI 0) d_forgetOutside_0 zi_0 ?_
  refine z_istore_n Z 2 d_forgetOutside_1 rfl (by decide) rfl ?_
  refine z_lv (lv' := [(0, .ref (h 0)), (1, .int x), (2, .int (nI 0))]) rfl ?_
  refine z_loop (fun q : Nat × St => q.1 ≤ 24 ∧ fgo σ (fun d => bt x d) q.1 q.2) (fun q : Nat × St => 24 - q.1) (fun q : Nat × St => wx h cI q.2) (fun q : Nat × St => [(0, .ref (h 0)), (1, .int x), (2, .int (nI q.1))]) (fun q hi ih => ?_) (0, σ) ⟨by omega, fgo_0 hw⟩
  obtain ⟨i, τ⟩ := q
  dsimp only at hi ih ⊢
  have e1 : τ 1 = σ 1 := hi.2.1 1 (by decide) (by decide) (by decide) (by decide)
  refine z_iload_n Z 2 d_forgetOutside_2 rfl rfl ?_
  refine z_bipush Z (nI 24) d_forgetOutside_3 zb_24 ?_
  refine z_icmpN_ge Z 57 d_forgetOutside_5 (by decide) (by omega) (by omega) (fun h5 => ?_) (fun h5 => ?_)
  · obtain rfl : i = 24 := by omega
    refine z_rv Z _ hr d_forgetOutside_57 (by decide) (by decide) rfl ?_
    exact hi.2
  · refine z_iload_n Z 1 d_forgetOutside_8 rfl rfl ?_
    refine z_iload_n Z 2 d_forgetOutside_9 rfl rfl ?_
    refine z_S0 Z (c_contains (by omega)) (ok_contains _) rfl rfl ⟨by decide, by decide⟩ rfl rfl (Nat.le_of_ble_eq_true rfl) d_forgetOutside_10 ⟨by decide, by decide⟩ (fun v10 h10 => ?_)
    refine z_if_eq Z 51 d_forgetOutside_13 (by decide) (fun h13 => ?_) (fun h13 => ?_)
    · refine z_iincN Z 2 d_forgetOutside_51 rfl (by decide) rfl ?_
      refine z_goto Z 2 d_forgetOutside_54 (by decide) ?_
      exact z_lv rfl (ih (i + 1, τ) ⟨by omega, fgo_no (by omega) hi.2 (Or.inl (zB0 h10 h13))⟩ (by dsimp only; omega))
    · refine z_aload_n Z 0 d_forgetOutside_16 rfl rfl ?_
      refine xg_1 Z d_forgetOutside_17 ?_
      refine z_iload_n Z 2 d_forgetOutside_20 rfl rfl ?_
      refine xl_1 Z (by omega) d_forgetOutside_21 ?_
      refine z_iconst Z (nI 1) d_forgetOutside_22 zi_1 ?_
      refine z_icmp_ne Z 35 d_forgetOutside_23 (by decide) (fun h23 => ?_) (fun h23 => ?_)
      · refine z_aload_n Z 0 d_forgetOutside_35 rfl rfl ?_
        refine xg_1 Z d_forgetOutside_36 ?_
        refine z_iload_n Z 2 d_forgetOutside_39 rfl rfl ?_
        refine xl_1 Z (by omega) d_forgetOutside_40 ?_
        refine z_iconst Z (nI 2) d_forgetOutside_41 zi_2 ?_
        refine z_icmp_ne Z 51 d_forgetOutside_42 (by decide) (fun h42 => ?_) (fun h42 => ?_)
        · refine z_iincN Z 2 d_forgetOutside_51 rfl (by decide) rfl ?_
          refine z_goto Z 2 d_forgetOutside_54 (by decide) ?_
          exact z_lv rfl (ih (i + 1, τ) ⟨by omega, fgo_no (by omega) hi.2 (Or.inr ⟨e1 ▸ h23, e1 ▸ h42⟩)⟩ (by dsimp only; omega))
        · refine z_aload_n Z 0 d_forgetOutside_45 rfl rfl ?_
          refine z_iload_n Z 2 d_forgetOutside_46 rfl rfl ?_
          refine z_iload_n Z 1 d_forgetOutside_47 rfl rfl ?_
          refine z_Wv Z (c_forgetEntriesOutside (fgo_wf hi.2) (by omega)) (ok_forgetEntriesOutside _) rfl rfl ⟨by decide, by decide⟩ rfl rfl rfl rfl (Nat.le_of_ble_eq_true rfl) d_forgetOutside_48 ⟨by decide, by decide⟩ (fun E u h => h.elim) (fun u48 h48 => ?_)
          refine z_iincN Z 2 d_forgetOutside_51 rfl (by decide) rfl ?_
          refine z_goto Z 2 d_forgetOutside_54 (by decide) ?_
          exact z_lv rfl (ih (i + 1, _) ⟨by omega, fgo_tab (by omega) hi.2 (zB1 h10 h13) (e1 ▸ h42) h48⟩ (by dsimp only; omega))
      · refine z_aload_n Z 0 d_forgetOutside_26 rfl rfl ?_
        refine z_iload_n Z 2 d_forgetOutside_27 rfl rfl ?_
        refine z_iload_n Z 1 d_forgetOutside_28 rfl rfl ?_
        refine z_Wv Z (c_forgetReferentOutside (fgo_wf hi.2) (by omega)) (ok_forgetReferentOutside _) rfl rfl ⟨by decide, by decide⟩ rfl rfl rfl rfl (Nat.le_of_ble_eq_true rfl) d_forgetOutside_29 ⟨by decide, by decide⟩ (fun E u h => h.elim) (fun u29 h29 => ?_)
        subst h29
        refine z_goto Z 51 d_forgetOutside_32 (by decide) ?_
        refine z_iincN Z 2 d_forgetOutside_51 rfl (by decide) rfl ?_
        refine z_goto Z 2 d_forgetOutside_54 (by decide) ?_
        exact z_lv rfl (ih (i + 1, _) ⟨by omega, fgo_weak (by omega) hi.2 (zB1 h10 h13) (e1 ▸ h23)⟩ (by dsimp only; omega))
end
section
/-! the queue -/
def enqW (τ : St) (i w : Nat) : St := va_up (va_up (va_up τ 7 (upd (τ 7) i (nI 2))) 11 (upd (τ 11) w (nI i))) 0 (upd (τ 0) 1 (nI (w + 1)))
def enq (τ : St) (i : Nat) : St := enqW τ i (τ 0 1).toNatClampNeg
def qst (σ : St) (S : Nat → Bool) : Nat → St
  | 0 => σ
  | i + 1 => if S i = true ∧ (qst σ S i) 7 i = nI 1 then enq (qst σ S i) i else qst σ S i
theorem qst_no {σ : St} {S : Nat → Bool} {i : Nat} (h : ¬ (S i = true ∧ (qst σ S i) 7 i = nI 1)) : qst σ S i = qst σ S (i + 1) := by
  show _ = if _ then _ else _
  rw [if_neg h]
theorem qst_yes {σ : St} {S : Nat → Bool} {i : Nat} (h : S i = true ∧ (qst σ S i) 7 i = nI 1) : qst σ S (i + 1) = enq (qst σ S i) i := by
  show (if _ then _ else _) = _
  rw [if_pos h]
/-- what the queue holds are things apart whose state is 2 -/
def qI (τ : St) : Prop := ∃ w, w ≤ 24 ∧ τ 0 1 = nI w ∧ (∀ i, i < w → ∃ d, d < 24 ∧ τ 11 i = nI d ∧ τ 7 d = nI 2) ∧ ∀ i j, i < w → j < w → τ 11 i = τ 11 j → i = j
theorem pigeon : ∀ (m n : Nat) (f : Nat → Nat), (∀ i, i < n → f i < m) → (∀ i j, i < n → j < n → f i = f j → i = j) → n ≤ m := by
  intro m
  induction m with
  | zero => intro n f h1 _; rcases Nat.eq_zero_or_pos n with h | h
            · omega
            · exact absurd (h1 0 h) (Nat.not_lt_zero _)
  | succ m ih =>
    intro n f h1 h2
    by_cases hx : ∃ k, k < n ∧ f k = m
    · obtain ⟨k, hk, ek⟩ := hx
      have h3 := ih (n - 1) (fun i => if i < k then f i else f (i + 1)) (fun i hi => by
          split
          · have := h1 i (by omega)
            have : f i ≠ m := fun e => by have := h2 i k (by omega) hk (e.trans ek.symm); omega
            omega
          · have := h1 (i + 1) (by omega)
            have : f (i + 1) ≠ m := fun e => by have := h2 (i + 1) k (by omega) hk (e.trans ek.symm); omega
            omega) (fun i j hi hj e => by
          split at e <;> split at e
          · exact h2 i j (by omega) (by omega) e
          · have := h2 i (j + 1) (by omega) (by omega) e; omega
          · have := h2 (i + 1) j (by omega) (by omega) e; omega
          · have := h2 (i + 1) (j + 1) (by omega) (by omega) e; omega)
      omega
    · have := ih n f (fun i hi => by
          have := h1 i hi
          have : f i ≠ m := fun e => hx ⟨i, hi, e⟩
          omega) h2
      omega
theorem qI_room {τ : St} {w i : Nat} (h : qI τ) (ew : τ 0 1 = nI w) (hw : w ≤ 24) (hi : i < 24) (h1 : τ 7 i = nI 1) : w < 24 := by
  obtain ⟨w', hw', ew', hq, hd⟩ := h
  have e : w' = w := (nI_eq (by omega) (by omega)).mp (ew'.symm.trans ew)
  subst e
  have := pigeon 24 (w' + 1) (fun j => if j < w' then (τ 11 j).toNatClampNeg else i) (fun j hj => by
      split
      · rename_i hl
        obtain ⟨d, hd24, ed, -⟩ := hq j hl
        rw [ed, nI_clamp (by omega)]; exact hd24
      · exact hi) (fun a b ha hb e => by
      split at e <;> split at e
      · rename_i h3 h4
        obtain ⟨d, hd24, ed, -⟩ := hq a h3
        obtain ⟨d', hd24', ed', -⟩ := hq b h4
        rw [ed, ed', nI_clamp (by omega), nI_clamp (by omega)] at e
        exact hd a b h3 h4 (by rw [ed, ed', e])
      · rename_i h3 h4
        obtain ⟨d, hd24, ed, e2⟩ := hq a h3
        rw [ed, nI_clamp (by omega)] at e
        rw [e, h1] at e2; exact absurd e2 (by decide)
      · rename_i h3 h4
        obtain ⟨d, hd24, ed, e2⟩ := hq b h4
        rw [ed, nI_clamp (by omega)] at e
        rw [← e, h1] at e2; exact absurd e2 (by decide)
      · omega)
  omega
theorem enq_ok {τ : St} {i : Nat} (hw : wf τ) (hq : qI τ) (hi : i < 24) (h1 : τ 7 i = nI 1) : wf (enq τ i) ∧ qI (enq τ i) := by
  obtain ⟨w, hw24, ew, h3, h4⟩ := id hq
  have hl := qI_room hq ew hw24 hi h1
  have ecl : (τ 0 1).toNatClampNeg = w := by rw [ew, nI_clamp (by omega)]
  unfold enq
  rw [ecl]
  have q11 : ∀ j, (enqW τ i w) 11 j = upd (τ 11) w (nI i) j := fun _ => rfl
  have q7 : ∀ j, (enqW τ i w) 7 j = upd (τ 7) i (nI 2) j := fun _ => rfl
  have q0 : (enqW τ i w) 0 1 = nI (w + 1) := rfl
  constructor
  · obtain ⟨a1, a2, a3, a4, a5, a6, a7, a8⟩ := hw
    refine ⟨a1, a2, a3, a4, a5, a6, fun j hj => ?_, w + 1, by omega, q0⟩
    rw [q11]
    by_cases e : j = w
    · rw [e, pk_us]; exact ⟨i, hi, rfl⟩
    · rw [pk_un e]; exact a7 j hj
  · refine ⟨w + 1, by omega, q0, fun j hj => ?_, fun a b ha hb e => ?_⟩
    · rw [q11]
      by_cases e : j = w
      · rw [e, pk_us]; exact ⟨i, hi, rfl, by rw [q7, pk_us]⟩
      · rw [pk_un e]
        obtain ⟨d, hd, ed, sd⟩ := h3 j (by omega)
        refine ⟨d, hd, ed, ?_⟩
        rw [q7]
        by_cases e2 : d = i
        · rw [e2, pk_us]
        · rw [pk_un e2]; exact sd
    · rw [q11, q11] at e
      have ne : ∀ a, a < w → τ 11 a ≠ nI i := fun a ha q => by
        obtain ⟨d, hd, ed, sd⟩ := h3 a ha
        have : d = i := (nI_eq (by omega) (by omega)).mp (ed.symm.trans q)
        rw [this, h1] at sd; exact absurd sd (by decide)
      by_cases ea : a = w
      · by_cases eb : b = w
        · omega
        · rw [ea, pk_us, pk_un eb] at e
          exact absurd e.symm (ne b (by omega))
      · by_cases eb : b = w
        · rw [eb, pk_us, pk_un ea] at e
          exact absurd e (ne a (by omega))
        · rw [pk_un ea, pk_un eb] at e
          exact h4 a b (by omega) (by omega) e
theorem qst_ok {σ : St} (hw : wf σ) (hq : qI σ) (S : Nat → Bool) : ∀ {i : Nat}, i ≤ 24 → wf (qst σ S i) ∧ qI (qst σ S i) := by
  intro i
  induction i with
  | zero => intro _; exact ⟨hw, hq⟩
  | succ i ih =>
    intro hi
    obtain ⟨h1, h2⟩ := ih (by omega)
    by_cases h : S i = true ∧ (qst σ S i) 7 i = nI 1
    · rw [qst_yes h]; exact enq_ok h1 h2 (by omega) h.2
    · rw [← qst_no h]; exact ⟨h1, h2⟩
def shq (f : Nat → Int32) (n : Nat) : Nat → Int32 := fun j => if j < n then f (j + 1) else f j
theorem shq_s (f : Nat → Int32) (i : Nat) : upd (shq f i) i (shq f i (i + 1)) = shq f (i + 1) := by
  funext j
  by_cases e : j = i
  · subst e; rw [pk_us]; unfold shq; rw [if_neg (by omega), if_pos (by omega)]
  · rw [pk_un e]; unfold shq
    by_cases q : j < i
    · rw [if_pos q, if_pos (by omega)]
    · rw [if_neg q, if_neg (by omega)]
theorem shq_0 (f : Nat → Int32) : shq f 0 = f := by funext j; unfold shq; rw [if_neg (by omega)]
def deqN (σ : St) (w i : Nat) : St := va_up (va_up σ 0 (upd (σ 0) 1 (nI w))) 11 (shq (σ 11) i)
def deq (σ : St) (w : Nat) : St := deqN σ w w
theorem deqN_s (σ : St) (w i : Nat) : va_up (deqN σ w i) 11 (upd (shq (σ 11) i) i (shq (σ 11) i (i + 1))) = deqN σ w (i + 1) := by
  rw [shq_s]
  unfold deqN
  funext k
  by_cases e : k = 11
  · rw [e, va_up_self, va_up_self]
  · rw [va_up_ne _ _ e, va_up_ne _ _ e, va_up_ne _ _ e]
def act (σ : St) (c a : Nat) : St := match a with
  | 1 => va_up σ 10 (upd (σ 10) (σ 9 c).toNatClampNeg (nI c))
  | 2 => if σ 1 c = 0 then va_up σ 10 (upd (σ 10) (σ 9 c).toNatClampNeg (σ 3 (c * 3 + 0))) else σ
  | 3 => emp σ c
  | _ => σ
/-- one collection more -/
def col1 (σ : St) : St := va_up σ 0 (upd (σ 0) 3 (σ 0 3 + nI 1))
theorem wf_0 {σ : St} (h : wf σ) : wf (col1 σ) := h
theorem qI_col {σ : St} (h : qI σ) : qI (col1 σ) := h
theorem qI_fgo {σ u : St} {S : Nat → Bool} {i : Nat} (h : fgo σ S i u) (hq : qI σ) : qI u := by
  have e0 := h.1 0 (by decide) (by decide) (by decide) (by decide)
  have e7 := h.1 7 (by decide) (by decide) (by decide) (by decide)
  have e11 := h.1 11 (by decide) (by decide) (by decide) (by decide)
  unfold qI
  rw [e0, e7, e11]; exact hq
/-- what a collection of the class does -/
def colX (σ : St) (v : Int32) (u : St) : Prop := ∃ (x0 L : Int32) (σ2 : St) (q : Int32) (w : Nat) (K : Int32) (σ4 : St),
  (lo24 x0 ∧ ∀ c, c < 24 → (bt x0 c = true ↔ ∃ r, r < 6 ∧ (col1 σ) 10 r = nI c)) ∧ (lo24 L ∧ ∀ c, c < 24 → (bt L c = true ↔ rch (col1 σ) (fun d => bt x0 d = true) c)) ∧ fgo (col1 σ) (fun d => bt L d) 24 σ2 ∧
  w ≤ 24 ∧ (qst σ2 (fun d => bt (σ2 0 0 &&& (L ^^^ -1)) d) 24) 0 1 = nI w ∧ (lo24 q ∧ ∀ c, c < 24 → (bt q c = true ↔ ∃ r, r < w ∧ (qst σ2 (fun d => bt (σ2 0 0 &&& (L ^^^ -1)) d) 24) 11 r = nI c)) ∧
  (lo24 K ∧ ∀ c, c < 24 → (bt K c = true ↔ rch (qst σ2 (fun d => bt (σ2 0 0 &&& (L ^^^ -1)) d) 24) (fun d => bt (L ||| q) d = true) c)) ∧ fgo (qst σ2 (fun d => bt (σ2 0 0 &&& (L ^^^ -1)) d) 24) (fun d => bt K d) 24 σ4 ∧
  v = nI (num (fun c => bt (σ4 0 0 &&& (K ^^^ -1)) c) 32) ∧ u = va_up σ4 0 (upd (σ4 0) 0 K)
set_option maxHeartbeats 4000000 in
set_option maxRecDepth 100000 in
theorem c_queueWaiting {l : Launch} {D : va_G} {cI cB cL : ClassId} {h : Nat → Nat} {σ : St} (hw : wf σ) (hq : qI σ) {x : Int32} : zMet l y_queueWaiting w_queueWaiting rm_queueWaiting D zCl (zTy cI cB cL) (wx h cI σ) [.ref (h 0), .int x] (qv (wx h cI) (fun u => u = qst σ (fun d => bt x d) 24) noXs) 0 0 0 0 := by
  refine z_meth (by decide) rfl (Nat.le_of_ble_eq_true rfl) (fun p e s mm as bl me cd Z hr hnm ht => ?_)
  refine z_iconst Z (nI 0) d_queueWaiting_0 zi_0 ?_
  refine z_istore_n Z 2 d_queueWaiting_1 rfl (by decide) rfl ?_
  refine z_lv (lv' := [(0, .ref (h 0)), (1, .int x), (2, .int (nI 0))]) rfl ?_
  refine z_ws (ws' := wx h cI (qst σ (fun d => bt x d) 0)) rfl ?_
  refine z_loop (fun i : Nat => i ≤ 24) (fun i : Nat => 24 - i) (fun i : Nat => wx h cI (qst σ (fun d => bt x d) i)) (fun i : Nat => [(0, .ref (h 0)), (1, .int x), (2, .int (nI i))]) (fun i hi ih => ?_) 0 (by omega)
  obtain ⟨hwi, hqi⟩ := qst_ok hw hq (fun d => bt x d) hi
  refine z_iload_n Z 2 d_queueWaiting_2 rfl rfl ?_
  refine z_bipush Z (nI 24) d_queueWaiting_3 zb_24 ?_
  refine z_icmpN_ge Z 68 d_queueWaiting_5 (by decide) (by omega) (by omega) (fun h5 => ?_) (fun h5 => ?_)
  · obtain rfl : i = 24 := by omega
    refine z_rv Z _ hr d_queueWaiting_68 (by decide) (by decide) rfl ?_
    rfl
  · refine z_iload_n Z 1 d_queueWaiting_8 rfl rfl ?_
    refine z_iload_n Z 2 d_queueWaiting_9 rfl rfl ?_
    refine z_S0 Z (c_contains (by omega)) (ok_contains _) rfl rfl ⟨by decide, by decide⟩ rfl rfl (Nat.le_of_ble_eq_true rfl) d_queueWaiting_10 ⟨by decide, by decide⟩ (fun v10 h10 => ?_)
    refine z_if_eq Z 62 d_queueWaiting_13 (by decide) (fun h13 => ?_) (fun h13 => ?_)
    · refine z_iincN Z 2 d_queueWaiting_62 rfl (by decide) rfl ?_
      refine z_goto Z 2 d_queueWaiting_65 (by decide) ?_
      exact z_ws (by rw [qst_no (fun q => by have q1 := q.1; rw [zB0 h10 h13] at q1; cases q1)]) (z_lv rfl (ih (i + 1) (by omega) (by omega)))
    · refine z_aload_n Z 0 d_queueWaiting_16 rfl rfl ?_
      refine xg_7 Z d_queueWaiting_17 ?_
      refine z_iload_n Z 2 d_queueWaiting_20 rfl rfl ?_
      refine xl_7 Z (by omega) d_queueWaiting_21 ?_
      refine z_iconst Z (nI 1) d_queueWaiting_22 zi_1 ?_
      refine z_icmp_ne Z 62 d_queueWaiting_23 (by decide) (fun h23 => ?_) (fun h23 => ?_)
      · refine z_iincN Z 2 d_queueWaiting_62 rfl (by decide) rfl ?_
        refine z_goto Z 2 d_queueWaiting_65 (by decide) ?_
        exact z_ws (by rw [qst_no (fun q => h23 q.2)]) (z_lv rfl (ih (i + 1) (by omega) (by omega)))
      · obtain ⟨w, hw24, ew, -, -⟩ := id hqi
        have hwl : w < 24 := qI_room hqi ew hw24 (by omega) h23
        have ecl : ((qst σ (fun d => bt x d) i) 0 1).toNatClampNeg = w := by rw [ew, nI_clamp (by omega)]
        refine z_aload_n Z 0 d_queueWaiting_26 rfl rfl ?_
        refine xn_1 Z d_queueWaiting_27 ?_
        refine z_bipush Z (nI 24) d_queueWaiting_30 zb_24 ?_
        refine z_eqi2 ew ?_
        refine z_icmpN_ge Z 62 d_queueWaiting_32 (by decide) (by omega) (by omega) (fun hx => absurd hx (by omega)) (fun h32 => ?_)
        refine z_aload_n Z 0 d_queueWaiting_35 rfl rfl ?_
        refine xg_7 Z d_queueWaiting_36 ?_
        refine z_iload_n Z 2 d_queueWaiting_39 rfl rfl ?_
        refine z_iconst Z (nI 2) d_queueWaiting_40 zi_2 ?_
        refine xs_7 Z (by omega) d_queueWaiting_41 ?_
        refine z_aload_n Z 0 d_queueWaiting_42 rfl rfl ?_
        refine xg_11 Z d_queueWaiting_43 ?_
        refine z_aload_n Z 0 d_queueWaiting_46 rfl rfl ?_
        refine xn_1 Z d_queueWaiting_47 ?_
        refine z_eqi (y := nI w) ew ?_
        refine z_iload_n Z 2 d_queueWaiting_50 rfl rfl ?_
        refine xs_11 Z (by omega) d_queueWaiting_51 ?_
        refine z_aload_n Z 0 d_queueWaiting_52 rfl rfl ?_
        refine z_dup Z d_queueWaiting_53 ?_
        refine xn_1 Z d_queueWaiting_54 ?_
        refine z_eqi (y := nI w) ew ?_
        refine z_iconst Z (nI 1) d_queueWaiting_57 zi_1 ?_
        refine z_iaddN Z d_queueWaiting_58 ?_
        refine xp_1 Z d_queueWaiting_59 ?_
        refine z_iincN Z 2 d_queueWaiting_62 rfl (by decide) rfl ?_
        refine z_goto Z 2 d_queueWaiting_65 (by decide) ?_
        refine z_ws (ws' := wx h cI (qst σ (fun d => bt x d) (i + 1))) (by rw [qst_yes ⟨zB1 h10 h13, h23⟩, enq, ecl]; rfl) ?_
        exact z_lv rfl (ih (i + 1) (by omega) (by omega))
set_option maxHeartbeats 4000000 in
set_option maxRecDepth 100000 in
theorem c_takeFirstQueued {l : Launch} {D : va_G} {cI cB cL : ClassId} {h : Nat → Nat} {σ : St} (hw : wf σ) {w : Nat} (hl : w < 24) (ew : σ 0 1 = nI (w + 1)) : zMet l y_takeFirstQueued w_takeFirstQueued rm_takeFirstQueued D zCl (zTy cI cB cL) (wx h cI σ) [.ref (h 0)] (qi (wx h cI) (fun v u => v = σ 11 0 ∧ u = deq σ w) noXs) 0 0 0 0 := by
  refine z_meth (by decide) rfl (Nat.le_of_ble_eq_true rfl) (fun p e s mm as bl me cd Z hr hnm ht => ?_)
  refine z_aload_n Z 0 d_takeFirstQueued_0 rfl rfl ?_
  refine xg_11 Z d_takeFirstQueued_1 ?_
  refine z_iconst Z (nI 0) d_takeFirstQueued_4 zi_0 ?_
  refine xl_11 Z (by omega) d_takeFirstQueued_5 ?_
  refine z_istore_n Z 1 d_takeFirstQueued_6 rfl (by decide) rfl ?_
  refine z_aload_n Z 0 d_takeFirstQueued_7 rfl rfl ?_
  refine z_dup Z d_takeFirstQueued_8 ?_
  refine xn_1 Z d_takeFirstQueued_9 ?_
  refine z_eqi ew ?_
  refine z_iconst Z (nI 1) d_takeFirstQueued_12 zi_1 ?_
  refine z_isubN Z d_takeFirstQueued_13 (by omega) ?_
  refine xp_1 Z d_takeFirstQueued_14 ?_
  refine z_iconst Z (nI 0) d_takeFirstQueued_17 zi_0 ?_
  refine z_istore_n Z 2 d_takeFirstQueued_18 rfl (by decide) rfl ?_
  refine z_lv (lv' := [(0, .ref (h 0)), (1, .int (σ 11 0)), (2, .int (nI 0))]) rfl ?_
  refine z_ws (ws' := wx h cI (deqN σ w 0)) rfl ?_
  refine z_loop (fun i : Nat => i ≤ w) (fun i : Nat => w - i) (fun i : Nat => wx h cI (deqN σ w i)) (fun i : Nat => [(0, .ref (h 0)), (1, .int (σ 11 0)), (2, .int (nI i))]) (fun i hi ih => ?_) 0 (by omega)
  refine z_iload_n Z 2 d_takeFirstQueued_19 rfl rfl ?_
  refine z_aload_n Z 0 d_takeFirstQueued_20 rfl rfl ?_
  refine xn_1 Z d_takeFirstQueued_21 ?_
  refine z_eqi (y := nI w) rfl ?_
  refine z_icmpN_ge Z 47 d_takeFirstQueued_24 (by decide) (by omega) (by omega) (fun h24 => ?_) (fun h24 => ?_)
  · obtain rfl : i = w := by omega
    refine z_iload_n Z 1 d_takeFirstQueued_47 rfl rfl ?_
    refine z_ri Z _ hr rfl d_takeFirstQueued_48 (by decide) (by decide) rfl ?_
    exact ⟨rfl, rfl⟩
  · refine z_aload_n Z 0 d_takeFirstQueued_27 rfl rfl ?_
    refine xg_11 Z d_takeFirstQueued_28 ?_
    refine z_iload_n Z 2 d_takeFirstQueued_31 rfl rfl ?_
    refine z_aload_n Z 0 d_takeFirstQueued_32 rfl rfl ?_
    refine xg_11 Z d_takeFirstQueued_33 ?_
    refine z_iload_n Z 2 d_takeFirstQueued_36 rfl rfl ?_
    refine z_iconst Z (nI 1) d_takeFirstQueued_37 zi_1 ?_
    refine z_iaddN Z d_takeFirstQueued_38 ?_
    refine xl_11 Z (by omega) d_takeFirstQueued_39 ?_
    refine xs_11 Z (by omega) d_takeFirstQueued_40 ?_
    refine z_iincN Z 2 d_takeFirstQueued_41 rfl (by decide) rfl ?_
    refine z_goto Z 19 d_takeFirstQueued_44 (by decide) ?_
    refine z_ws (ws' := wx h cI (deqN σ w (i + 1))) (by rw [← deqN_s]; rfl) ?_
    exact z_lv rfl (ih (i + 1) (by omega) (by omega))
set_option maxHeartbeats 4000000 in
set_option maxRecDepth 100000 in
theorem c_performAction {l : Launch} {D : va_G} {cI cB cL : ClassId} {h : Nat → Nat} {σ : St} (hw : wf σ) {c : Nat} (hc : c < 24) {a : Nat} (ea : σ 8 c = nI a) (ha : a < 4) : zMet l y_performAction w_performAction rm_performAction D zCl (zTy cI cB cL) (wx h cI σ) [.ref (h 0), .int (nI c)] (qv (wx h cI) (fun u => u = act σ c a) noXs) 0 0 0 0 := by
  obtain ⟨t, ht6, et⟩ := hw.2.2.2.2.1 c hc
  have ect : (σ 9 c).toNatClampNeg = t := by rw [et, nI_clamp (by omega)]
  refine z_meth (by decide) rfl (Nat.le_of_ble_eq_true rfl) (fun p e s mm as bl me cd Z hr hnm ht => ?_)
  refine z_aload_n Z 0 d_performAction_0 rfl rfl ?_
  refine xg_8 Z d_performAction_1 ?_
  refine z_iload_n Z 1 d_performAction_4 rfl rfl ?_
  refine xl_8 Z (by omega) d_performAction_5 ?_
  refine z_eqi ea ?_
  rcases (show a = 0 ∨ a = 1 ∨ a = 2 ∨ a = 3 by omega) with rfl | rfl | rfl | rfl
  · refine z_tableOut Z 88 d_performAction_6 (Or.inl (by decide)) (by decide) ?_
    refine z_rv Z _ hr d_performAction_88 (by decide) (by decide) rfl ?_
    rfl
  · refine z_tableIn Z 32 (off := 26) d_performAction_6 (by decide) (by decide) (by decide) (by decide) ?_
    refine z_aload_n Z 0 d_performAction_32 rfl rfl ?_
    refine xg_10 Z d_performAction_33 ?_
    refine z_aload_n Z 0 d_performAction_36 rfl rfl ?_
    refine xg_9 Z d_performAction_37 ?_
    refine z_iload_n Z 1 d_performAction_40 rfl rfl ?_
    refine xl_9 Z (by omega) d_performAction_41 ?_
    refine z_eqi et ?_
    refine z_iload_n Z 1 d_performAction_42 rfl rfl ?_
    refine xs_10 Z (by omega) d_performAction_43 ?_
    refine z_goto Z 88 d_performAction_44 (by decide) ?_
    refine z_rv Z _ hr d_performAction_88 (by decide) (by decide) rfl ?_
    show _ = va_up σ 10 (upd (σ 10) (σ 9 c).toNatClampNeg (nI c))
    rw [ect]
  · refine z_tableIn Z 47 (off := 41) d_performAction_6 (by decide) (by decide) (by decide) (by decide) ?_
    refine z_aload_n Z 0 d_performAction_47 rfl rfl ?_
    refine xg_1 Z d_performAction_48 ?_
    refine z_iload_n Z 1 d_performAction_51 rfl rfl ?_
    refine xl_1 Z (by omega) d_performAction_52 ?_
    refine z_if_ne Z 88 d_performAction_53 (by decide) (fun h53 => ?_) (fun h53 => ?_)
    · refine z_rv Z _ hr d_performAction_88 (by decide) (by decide) rfl ?_
      show σ = if _ then _ else _
      rw [if_neg h53]
    · refine z_aload_n Z 0 d_performAction_56 rfl rfl ?_
      refine xg_10 Z d_performAction_57 ?_
      refine z_aload_n Z 0 d_performAction_60 rfl rfl ?_
      refine xg_9 Z d_performAction_61 ?_
      refine z_iload_n Z 1 d_performAction_64 rfl rfl ?_
      refine xl_9 Z (by omega) d_performAction_65 ?_
      refine z_eqi et ?_
      refine z_aload_n Z 0 d_performAction_66 rfl rfl ?_
      refine xg_3 Z d_performAction_67 ?_
      refine z_iload_n Z 1 d_performAction_70 rfl rfl ?_
      refine z_iconst Z (nI 0) d_performAction_71 zi_0 ?_
      refine z_S0 Z (c_fieldSlot ) (ok_fieldSlot _) rfl rfl ⟨by decide, by decide⟩ rfl rfl (Nat.le_of_ble_eq_true rfl) d_performAction_72 ⟨by decide, by decide⟩ (fun v72 h72 => ?_)
      subst h72
      refine xl_3 Z (by omega) d_performAction_75 ?_
      refine xs_10 Z (by omega) d_performAction_76 ?_
      refine z_goto Z 88 d_performAction_77 (by decide) ?_
      refine z_rv Z _ hr d_performAction_88 (by decide) (by decide) rfl ?_
      show _ = if _ then _ else _
      rw [if_pos h53, ect]
  · refine z_tableIn Z 80 (off := 74) d_performAction_6 (by decide) (by decide) (by decide) (by decide) ?_
    refine z_aload_n Z 0 d_performAction_80 rfl rfl ?_
    refine z_iload_n Z 1 d_performAction_81 rfl rfl ?_
    refine z_Wv Z (c_emptyThing hc) (ok_emptyThing _) rfl rfl ⟨by decide, by decide⟩ rfl rfl rfl rfl (Nat.le_of_ble_eq_true rfl) d_performAction_82 ⟨by decide, by decide⟩ (fun E u h => h.elim) (fun u82 h82 => ?_)
    subst h82
    refine z_goto Z 88 d_performAction_85 (by decide) ?_
    refine z_rv Z _ hr d_performAction_88 (by decide) (by decide) rfl ?_
    rfl
end
section
/-! Integer.bitCount counts bits -/
theorem zand {u v a b : Nat} (hu : u < 256) (ha : a < 256) : (u + 256 * v) &&& (a + 256 * b) = (u &&& a) + 256 * (v &&& b) := by
  have hua : u &&& a < 2 ^ 8 := Nat.and_lt_two_pow u (by omega)
  apply Nat.eq_of_testBit_eq
  intro j
  rw [Nat.testBit_and, show u + 256 * v = 2 ^ 8 * v + u by omega, show a + 256 * b = 2 ^ 8 * b + a by omega, show (u &&& a) + 256 * (v &&& b) = 2 ^ 8 * (v &&& b) + (u &&& a) by omega,
    Nat.testBit_two_pow_mul_add _ (show u < 2 ^ 8 by omega), Nat.testBit_two_pow_mul_add _ (show a < 2 ^ 8 by omega), Nat.testBit_two_pow_mul_add _ hua]
  split
  · rw [Nat.testBit_and]
  · rw [Nat.testBit_and]
theorem zc_1 : ∀ a, a < 256 → ∀ b, b < 2 → (a / 2 + 128 * b) &&& 85 = a / 2 &&& 85 := by decide +kernel
theorem zc_2 : ∀ a, a < 256 → ∀ b, b < 4 → (a / 4 + 64 * b) &&& 51 = a / 4 &&& 51 := by decide +kernel
theorem zc_3 : ∀ a, a < 256 → ∀ b, b < 8 → (a + 16 * b) &&& 15 = a &&& 15 := by decide +kernel
def q1 (a : Nat) : Nat := a - (a / 2 &&& 85)
def q2 (a : Nat) : Nat := (q1 a &&& 51) + (q1 a / 4 &&& 51)
def q3 (a : Nat) : Nat := (q2 a + q2 a / 16) &&& 15
theorem zq : ∀ a, a < 256 → (a / 2 &&& 85) ≤ a ∧ q1 a < 256 ∧ q2 a ≤ 68 ∧ q2 a % 16 ≤ 4 ∧ q3 a = num (fun i => a.testBit i) 8 := by decide +kernel
/-- a number of four bytes -/
def by4 (a b c d : Nat) : Nat := a + 256 * (b + 256 * (c + 256 * d))
theorem by4_of {n : Nat} (h : n < 2 ^ 32) : ∃ a b c d, a < 256 ∧ b < 256 ∧ c < 256 ∧ d < 256 ∧ n = by4 a b c d :=
  ⟨n % 256, n / 256 % 256, n / 65536 % 256, n / 16777216, by omega, by omega, by omega, by omega, by unfold by4; omega⟩
theorem by4_and {a b c d x y z w : Nat} (ha : a < 256) (hb : b < 256) (hc : c < 256) (hx : x < 256) (hy : y < 256) (hz : z < 256) : by4 a b c d &&& by4 x y z w = by4 (a &&& x) (b &&& y) (c &&& z) (d &&& w) := by
  unfold by4
  rw [zand ha hx, zand hb hy, zand hc hz]
theorem bc_1 {a b c d : Nat} (ha : a < 256) (hb : b < 256) (hc : c < 256) (hd : d < 256) : by4 a b c d / 2 &&& 1431655765 = by4 (a / 2 &&& 85) (b / 2 &&& 85) (c / 2 &&& 85) (d / 2 &&& 85) := by
  rw [show by4 a b c d / 2 = by4 (a / 2 + 128 * (b % 2)) (b / 2 + 128 * (c % 2)) (c / 2 + 128 * (d % 2)) (d / 2) by unfold by4; omega, show (1431655765 : Nat) = by4 85 85 85 85 by decide,
    by4_and (by omega) (by omega) (by omega) (by omega) (by omega) (by omega), zc_1 a ha _ (by omega), zc_1 b hb _ (by omega), zc_1 c hc _ (by omega)]
theorem bc_2 {a b c d : Nat} (ha : a < 256) (hb : b < 256) (hc : c < 256) (hd : d < 256) : by4 a b c d / 4 &&& 858993459 = by4 (a / 4 &&& 51) (b / 4 &&& 51) (c / 4 &&& 51) (d / 4 &&& 51) := by
  rw [show by4 a b c d / 4 = by4 (a / 4 + 64 * (b % 4)) (b / 4 + 64 * (c % 4)) (c / 4 + 64 * (d % 4)) (d / 4) by unfold by4; omega, show (858993459 : Nat) = by4 51 51 51 51 by decide,
    by4_and (by omega) (by omega) (by omega) (by omega) (by omega) (by omega), zc_2 a ha _ (by omega), zc_2 b hb _ (by omega), zc_2 c hc _ (by omega)]
theorem num_add (S : Nat → Bool) (a b : Nat) : num S (a + b) = num S a + num (fun c => S (a + c)) b := by
  induction b with
  | zero => rfl
  | succ b ih =>
    show num S (a + b) + (if S (a + b) = true then 1 else 0) = num S a + (num (fun c => S (a + c)) b + (if S (a + b) = true then 1 else 0))
    rw [ih, Nat.add_assoc]
theorem num_congr {S S' : Nat → Bool} {n : Nat} (h : ∀ c, c < n → S c = S' c) : num S n = num S' n := by
  induction n with
  | zero => rfl
  | succ n ih =>
    unfold num
    rw [ih (fun c hc => h c (by omega)), h n (by omega)]
theorem by4_bit {a b c d : Nat} (ha : a < 256) (hb : b < 256) (hc : c < 256) : num (fun i => (by4 a b c d).testBit i) 32 = num (fun i => a.testBit i) 8 + (num (fun i => b.testBit i) 8 + (num (fun i => c.testBit i) 8 + num (fun i => d.testBit i) 8)) := by
  have h1 : ∀ {u v : Nat}, u < 256 → ∀ n, num (fun i => (u + 256 * v).testBit i) (8 + n) = num (fun i => u.testBit i) 8 + num (fun i => v.testBit i) n := by
    intro u v hu n
    rw [num_add]
    have e : ∀ j, (u + 256 * v).testBit j = if j < 8 then u.testBit j else v.testBit (j - 8) := fun j => by
      rw [show u + 256 * v = 2 ^ 8 * v + u by omega, Nat.testBit_two_pow_mul_add _ (show u < 2 ^ 8 by omega)]
    congr 1
    · exact num_congr (fun c hc => by rw [e, if_pos hc])
    · exact num_congr (fun c hc => by rw [e, if_neg (by omega), Nat.add_sub_cancel_left])
  unfold by4
  rw [h1 ha 24, h1 hb 16, h1 hc 8]
theorem bc_sum {a b c d : Nat} (ha : a ≤ 8) (hb : b ≤ 8) (hc : c ≤ 8) (hd : d ≤ 8) : ((by4 a b c d + by4 a b c d / 256) + (by4 a b c d + by4 a b c d / 256) / 65536) % 64 = a + (b + (c + d)) := by
  have f1 : by4 a b c d / 256 = b + 256 * (c + 256 * d) := by unfold by4; omega
  have f2 : (by4 a b c d + (b + 256 * (c + 256 * d))) / 65536 = c + d + 256 * d := by unfold by4; omega
  rw [f1, f2]; unfold by4; omega
/-- the method's own sum -/
theorem bc_all {n : Nat} (h : n < 2 ^ 32) : (n / 2 &&& 1431655765) ≤ n ∧ ∃ i1 i2 i3 : Nat, i1 = n - (n / 2 &&& 1431655765) ∧ i2 = (i1 &&& 858993459) + (i1 / 4 &&& 858993459) ∧ i3 = (i2 + i2 / 16) &&& 252645135 ∧ i1 < 2 ^ 32 ∧ i2 < 2 ^ 31 ∧ i3 < 2 ^ 28 ∧
    ((i3 + i3 / 256) + (i3 + i3 / 256) / 65536) &&& 63 = num (fun i => n.testBit i) 32 := by
  obtain ⟨a, b, c, d, ha, hb, hc, hd, rfl⟩ := by4_of h
  obtain ⟨a1, a2, a3, a4, a5⟩ := zq a ha
  obtain ⟨b1, b2, b3, b4, b5⟩ := zq b hb
  obtain ⟨c1, c2, c3, c4, c5⟩ := zq c hc
  obtain ⟨d1, d2, d3, d4, d5⟩ := zq d hd
  have e0 := bc_1 ha hb hc hd
  have e1 : by4 a b c d - (by4 a b c d / 2 &&& 1431655765) = by4 (q1 a) (q1 b) (q1 c) (q1 d) := by
    rw [e0]; unfold by4 q1; omega
  have e2 : (by4 (q1 a) (q1 b) (q1 c) (q1 d) &&& 858993459) + (by4 (q1 a) (q1 b) (q1 c) (q1 d) / 4 &&& 858993459) = by4 (q2 a) (q2 b) (q2 c) (q2 d) := by
    rw [bc_2 a2 b2 c2 d2, show (858993459 : Nat) = by4 51 51 51 51 by decide, by4_and a2 b2 c2 (by omega) (by omega) (by omega)]
    unfold by4 q2; omega
  have e3 : (by4 (q2 a) (q2 b) (q2 c) (q2 d) + by4 (q2 a) (q2 b) (q2 c) (q2 d) / 16) &&& 252645135 = by4 (q3 a) (q3 b) (q3 c) (q3 d) := by
    rw [show by4 (q2 a) (q2 b) (q2 c) (q2 d) + by4 (q2 a) (q2 b) (q2 c) (q2 d) / 16 = by4 (q2 a + q2 a / 16 + 16 * (q2 b % 16)) (q2 b + q2 b / 16 + 16 * (q2 c % 16)) (q2 c + q2 c / 16 + 16 * (q2 d % 16)) (q2 d + q2 d / 16) by unfold by4; omega,
      show (252645135 : Nat) = by4 15 15 15 15 by decide, by4_and (by omega) (by omega) (by omega) (by omega) (by omega) (by omega), zc_3 _ (by omega) _ (by omega), zc_3 _ (by omega) _ (by omega), zc_3 _ (by omega) _ (by omega)]
    rfl
  refine ⟨by rw [e0]; unfold by4; omega, _, _, _, e1.symm, e2.symm, e3.symm, by unfold by4; omega, by unfold by4; omega, ?_, ?_⟩
  · have := num_le (fun i => a.testBit i) 8
    have := num_le (fun i => b.testBit i) 8
    have := num_le (fun i => c.testBit i) 8
    have := num_le (fun i => d.testBit i) 8
    rw [a5, b5, c5, d5]; unfold by4; omega
  · rw [by4_bit ha hb hc, ← a5, ← b5, ← c5, ← d5]
    have := num_le (fun i => a.testBit i) 8
    have := num_le (fun i => b.testBit i) 8
    have := num_le (fun i => c.testBit i) 8
    have := num_le (fun i => d.testBit i) 8
    rw [show (63 : Nat) = 2 ^ 6 - 1 by decide, Nat.and_two_pow_sub_one_eq_mod]
    exact bc_sum (by omega) (by omega) (by omega) (by omega)
theorem bt_nI {n : Nat} (i : Nat) (hi : i < 32) : bt (nI n) i = n.testBit i := by
  show (BitVec.ofNat 32 n).getLsbD i = _
  rw [BitVec.getLsbD_ofNat]; simp [hi]
theorem nI_all (x : Int32) : ∃ n, n < 2 ^ 32 ∧ x = nI n := ⟨x.toBitVec.toNat, x.toBitVec.isLt, Int32.toBitVec_inj.mp (by show x.toBitVec = BitVec.ofNat 32 x.toBitVec.toNat; simp)⟩
theorem d_bitCount_0 : decode b_bitCount 0 = .ok (.iload_n 0, 1) := by decide +kernel
theorem d_bitCount_1 : decode b_bitCount 1 = .ok (.iload_n 0, 1) := by decide +kernel
theorem d_bitCount_2 : decode b_bitCount 2 = .ok (.iconst 1, 1) := by decide +kernel
theorem d_bitCount_3 : decode b_bitCount 3 = .ok (.iushr, 1) := by decide +kernel
theorem d_bitCount_4 : decode b_bitCount 4 = .ok (.ldc_w 265, 3) := by decide +kernel
theorem d_bitCount_7 : decode b_bitCount 7 = .ok (.iand, 1) := by decide +kernel
theorem d_bitCount_8 : decode b_bitCount 8 = .ok (.isub, 1) := by decide +kernel
theorem d_bitCount_9 : decode b_bitCount 9 = .ok (.istore_n 0, 1) := by decide +kernel
theorem d_bitCount_10 : decode b_bitCount 10 = .ok (.iload_n 0, 1) := by decide +kernel
theorem d_bitCount_11 : decode b_bitCount 11 = .ok (.ldc_w 266, 3) := by decide +kernel
theorem d_bitCount_14 : decode b_bitCount 14 = .ok (.iand, 1) := by decide +kernel
theorem d_bitCount_15 : decode b_bitCount 15 = .ok (.iload_n 0, 1) := by decide +kernel
theorem d_bitCount_16 : decode b_bitCount 16 = .ok (.iconst 2, 1) := by decide +kernel
theorem d_bitCount_17 : decode b_bitCount 17 = .ok (.iushr, 1) := by decide +kernel
theorem d_bitCount_18 : decode b_bitCount 18 = .ok (.ldc_w 266, 3) := by decide +kernel
theorem d_bitCount_21 : decode b_bitCount 21 = .ok (.iand, 1) := by decide +kernel
theorem d_bitCount_22 : decode b_bitCount 22 = .ok (.iadd, 1) := by decide +kernel
theorem d_bitCount_23 : decode b_bitCount 23 = .ok (.istore_n 0, 1) := by decide +kernel
theorem d_bitCount_24 : decode b_bitCount 24 = .ok (.iload_n 0, 1) := by decide +kernel
theorem d_bitCount_25 : decode b_bitCount 25 = .ok (.iload_n 0, 1) := by decide +kernel
theorem d_bitCount_26 : decode b_bitCount 26 = .ok (.iconst 4, 1) := by decide +kernel
theorem d_bitCount_27 : decode b_bitCount 27 = .ok (.iushr, 1) := by decide +kernel
theorem d_bitCount_28 : decode b_bitCount 28 = .ok (.iadd, 1) := by decide +kernel
theorem d_bitCount_29 : decode b_bitCount 29 = .ok (.ldc_w 267, 3) := by decide +kernel
theorem d_bitCount_32 : decode b_bitCount 32 = .ok (.iand, 1) := by decide +kernel
theorem d_bitCount_33 : decode b_bitCount 33 = .ok (.istore_n 0, 1) := by decide +kernel
theorem d_bitCount_34 : decode b_bitCount 34 = .ok (.iload_n 0, 1) := by decide +kernel
theorem d_bitCount_35 : decode b_bitCount 35 = .ok (.iload_n 0, 1) := by decide +kernel
theorem d_bitCount_36 : decode b_bitCount 36 = .ok (.bipush 8, 2) := by decide +kernel
theorem d_bitCount_38 : decode b_bitCount 38 = .ok (.iushr, 1) := by decide +kernel
theorem d_bitCount_39 : decode b_bitCount 39 = .ok (.iadd, 1) := by decide +kernel
theorem d_bitCount_40 : decode b_bitCount 40 = .ok (.istore_n 0, 1) := by decide +kernel
theorem d_bitCount_41 : decode b_bitCount 41 = .ok (.iload_n 0, 1) := by decide +kernel
theorem d_bitCount_42 : decode b_bitCount 42 = .ok (.iload_n 0, 1) := by decide +kernel
theorem d_bitCount_43 : decode b_bitCount 43 = .ok (.bipush 16, 2) := by decide +kernel
theorem d_bitCount_45 : decode b_bitCount 45 = .ok (.iushr, 1) := by decide +kernel
theorem d_bitCount_46 : decode b_bitCount 46 = .ok (.iadd, 1) := by decide +kernel
theorem d_bitCount_47 : decode b_bitCount 47 = .ok (.istore_n 0, 1) := by decide +kernel
theorem d_bitCount_48 : decode b_bitCount 48 = .ok (.iload_n 0, 1) := by decide +kernel
theorem d_bitCount_49 : decode b_bitCount 49 = .ok (.bipush 63, 2) := by decide +kernel
theorem d_bitCount_51 : decode b_bitCount 51 = .ok (.iand, 1) := by decide +kernel
theorem d_bitCount_52 : decode b_bitCount 52 = .ok (.ireturn, 1) := by decide +kernel
theorem kc_265 {c0 : Cond} : Cond.constant "java/lang/Integer" 265 1431655765 ∈ c0 :: wX := List.mem_cons_of_mem _ (inX_0 (by decide +kernel))
theorem kc_266 {c0 : Cond} : Cond.constant "java/lang/Integer" 266 858993459 ∈ c0 :: wX := List.mem_cons_of_mem _ (inX_0 (by decide +kernel))
theorem kc_267 {c0 : Cond} : Cond.constant "java/lang/Integer" 267 252645135 ∈ c0 :: wX := List.mem_cons_of_mem _ (inX_0 (by decide +kernel))
set_option maxHeartbeats 4000000 in
set_option maxRecDepth 100000 in
theorem c_bitCount {l : Launch} {D : va_G} {cI cB cL : ClassId} {x : Int32} : zMet l y_bitCount w_bitCount rm_bitCount D zCl (zTy cI cB cL) [] [.int x] (qi0 [] (fun v => v = nI (num (fun i => bt x i) 32)) noX) 0 0 0 0 := by
  obtain ⟨n, hn, rfl⟩ := nI_all x
  obtain ⟨hle, i1, i2, i3, h1, h2, h3, l1, l2, l3, hall⟩ := bc_all hn
  refine z_meth (by decide) rfl (Nat.le_of_ble_eq_true rfl) (fun p e s mm as bl me cd Z hr hnm ht => ?_)
  refine z_iload_n Z 0 d_bitCount_0 rfl rfl ?_
  refine z_iload_n Z 0 d_bitCount_1 rfl rfl ?_
  refine z_iconst Z (nI 1) d_bitCount_2 zi_1 ?_
  refine z_iushrN Z d_bitCount_3 hn (by decide) ?_
  refine z_ldcw Z kc_265 d_bitCount_4 ?_
  refine z_eqi (y := nI 1431655765) rfl ?_
  refine z_iandN Z d_bitCount_7 ?_
  refine z_isubN Z d_bitCount_8 hle ?_
  refine z_eqi (y := nI i1) (by rw [h1]) ?_
  refine z_istore_n Z 0 d_bitCount_9 rfl (by decide) rfl ?_
  refine z_iload_n Z 0 d_bitCount_10 rfl rfl ?_
  refine z_ldcw Z kc_266 d_bitCount_11 ?_
  refine z_eqi (y := nI 858993459) rfl ?_
  refine z_iandN Z d_bitCount_14 ?_
  refine z_iload_n Z 0 d_bitCount_15 rfl rfl ?_
  refine z_iconst Z (nI 2) d_bitCount_16 zi_2 ?_
  refine z_iushrN Z d_bitCount_17 l1 (by decide) ?_
  refine z_ldcw Z kc_266 d_bitCount_18 ?_
  refine z_eqi (y := nI 858993459) rfl ?_
  refine z_iandN Z d_bitCount_21 ?_
  refine z_iaddN Z d_bitCount_22 ?_
  refine z_eqi (y := nI i2) (by rw [h2]) ?_
  refine z_istore_n Z 0 d_bitCount_23 rfl (by decide) rfl ?_
  refine z_iload_n Z 0 d_bitCount_24 rfl rfl ?_
  refine z_iload_n Z 0 d_bitCount_25 rfl rfl ?_
  refine z_iconst Z (nI 4) d_bitCount_26 zi_4 ?_
  refine z_iushrN Z d_bitCount_27 (by omega) (by decide) ?_
  refine z_iaddN Z d_bitCount_28 ?_
  refine z_ldcw Z kc_267 d_bitCount_29 ?_
  refine z_eqi (y := nI 252645135) rfl ?_
  refine z_iandN Z d_bitCount_32 ?_
  refine z_eqi (y := nI i3) (by rw [h3]) ?_
  refine z_istore_n Z 0 d_bitCount_33 rfl (by decide) rfl ?_
  refine z_iload_n Z 0 d_bitCount_34 rfl rfl ?_
  refine z_iload_n Z 0 d_bitCount_35 rfl rfl ?_
  refine z_bipush Z (nI 8) d_bitCount_36 (by decide) ?_
  refine z_iushrN Z d_bitCount_38 (by omega) (by decide) ?_
  refine z_iaddN Z d_bitCount_39 ?_
  refine z_istore_n Z 0 d_bitCount_40 rfl (by decide) rfl ?_
  refine z_iload_n Z 0 d_bitCount_41 rfl rfl ?_
  refine z_iload_n Z 0 d_bitCount_42 rfl rfl ?_
  refine z_bipush Z (nI 16) d_bitCount_43 (by decide) ?_
  refine z_iushrN Z d_bitCount_45 (by omega) (by decide) ?_
  refine z_iaddN Z d_bitCount_46 ?_
  refine z_istore_n Z 0 d_bitCount_47 rfl (by decide) rfl ?_
  refine z_iload_n Z 0 d_bitCount_48 rfl rfl ?_
  refine z_bipush Z (nI 63) d_bitCount_49 (by decide) ?_
  refine z_iandN Z d_bitCount_51 ?_
  refine z_ri0 Z hr rfl d_bitCount_52 (by decide) (by decide) ?_
  rw [num_congr (fun i hi => bt_nI i hi), ← hall]
end
section
set_option maxHeartbeats 4000000 in
set_option maxRecDepth 100000 in
theorem c_collect {l : Launch} {D : va_G} {cI cB cL : ClassId} {h : Nat → Nat} {σ : St} (hw : wf σ) (hq : qI σ) : zMet l y_collect w_collect rm_collect D zCl (zTy cI cB cL) (wx h cI σ) [.ref (h 0)] (qi (wx h cI) (fun v u => colX σ v u) noXs) 0 0 0 0 := by
  refine z_meth (by decide) rfl (Nat.le_of_ble_eq_true rfl) (fun p e s mm as bl me cd Z hr hnm ht => ?_)
  refine z_aload_n Z 0 d_collect_0 rfl rfl ?_
  refine z_dup Z d_collect_1 ?_
  refine xn_3 Z d_collect_2 ?_
  refine z_iconst Z (nI 1) d_collect_5 zi_1 ?_
  refine z_iadd Z d_collect_6 ?_
  refine xp_3 Z d_collect_7 ?_
  refine z_aload_n Z 0 d_collect_10 rfl rfl ?_
  refine z_aload_n Z 0 d_collect_11 rfl rfl ?_
  refine z_Wi0 Z (c_thingsInRoots (wf_0 hw)) (ok_thingsInRoots _) rfl rfl ⟨by decide, by decide⟩ rfl rfl rfl rfl (Nat.le_of_ble_eq_true rfl) d_collect_12 ⟨by decide, by decide⟩ (fun E h => h.elim) (fun v12 h12 => ?_)
  refine z_Wi0 Z (c_closureOf (wf_0 hw) h12.1) (ok_closureOf _) rfl rfl ⟨by decide, by decide⟩ rfl rfl rfl rfl (Nat.le_of_ble_eq_true rfl) d_collect_15 ⟨by decide, by decide⟩ (fun E h => h.elim) (fun v15 h15 => ?_)
  refine z_istore_n Z 1 d_collect_18 rfl (by decide) rfl ?_
  refine z_aload_n Z 0 d_collect_19 rfl rfl ?_
  refine z_iload_n Z 1 d_collect_20 rfl rfl ?_
  refine z_Wv Z (c_forgetOutside (wf_0 hw)) (ok_forgetOutside _) rfl rfl ⟨by decide, by decide⟩ rfl rfl rfl rfl (Nat.le_of_ble_eq_true rfl) d_collect_21 ⟨by decide, by decide⟩ (fun E u h => h.elim) (fun u21 h21 => ?_)
  refine z_aload_n Z 0 d_collect_24 rfl rfl ?_
  refine z_aload_n Z 0 d_collect_25 rfl rfl ?_
  refine xn_0 Z d_collect_26 ?_
  refine z_iload_n Z 1 d_collect_29 rfl rfl ?_
  refine z_iconst Z (-1) d_collect_30 zi_m1 ?_
  refine z_ixor Z d_collect_31 ?_
  refine z_iand Z d_collect_32 ?_
  refine z_Wv Z (c_queueWaiting (fgo_wf h21) (qI_fgo h21 (qI_col hq))) (ok_queueWaiting _) rfl rfl ⟨by decide, by decide⟩ rfl rfl rfl rfl (Nat.le_of_ble_eq_true rfl) d_collect_33 ⟨by decide, by decide⟩ (fun E u h => h.elim) (fun u33 h33 => ?_)
  subst h33
  obtain ⟨hw3, hq3⟩ := qst_ok (fgo_wf h21) (qI_fgo h21 (qI_col hq)) (fun d => bt _ d) (Nat.le_refl 24)
  obtain ⟨w, hw24, ew, -, -⟩ := id hq3
  refine z_aload_n Z 0 d_collect_36 rfl rfl ?_
  refine z_iload_n Z 1 d_collect_37 rfl rfl ?_
  refine z_aload_n Z 0 d_collect_38 rfl rfl ?_
  refine z_Wi0 Z (c_thingsInQueue hw3 hw24 ew) (ok_thingsInQueue _) rfl rfl ⟨by decide, by decide⟩ rfl rfl rfl rfl (Nat.le_of_ble_eq_true rfl) d_collect_39 ⟨by decide, by decide⟩ (fun E h => h.elim) (fun v39 h39 => ?_)
  refine z_ior Z d_collect_42 ?_
  refine z_Wi0 Z (c_closureOf hw3 (lo24_or h15.1 h39.1)) (ok_closureOf _) rfl rfl ⟨by decide, by decide⟩ rfl rfl rfl rfl (Nat.le_of_ble_eq_true rfl) d_collect_43 ⟨by decide, by decide⟩ (fun E h => h.elim) (fun v43 h43 => ?_)
  refine z_istore_n Z 2 d_collect_46 rfl (by decide) rfl ?_
  refine z_aload_n Z 0 d_collect_47 rfl rfl ?_
  refine z_iload_n Z 2 d_collect_48 rfl rfl ?_
  refine z_Wv Z (c_forgetOutside hw3) (ok_forgetOutside _) rfl rfl ⟨by decide, by decide⟩ rfl rfl rfl rfl (Nat.le_of_ble_eq_true rfl) d_collect_49 ⟨by decide, by decide⟩ (fun E u h => h.elim) (fun u49 h49 => ?_)
  refine z_aload_n Z 0 d_collect_52 rfl rfl ?_
  refine xn_0 Z d_collect_53 ?_
  refine z_iload_n Z 2 d_collect_56 rfl rfl ?_
  refine z_iconst Z (-1) d_collect_57 zi_m1 ?_
  refine z_ixor Z d_collect_58 ?_
  refine z_iand Z d_collect_59 ?_
  refine z_S0 Z (c_bitCount) (ok_bitCount _) rfl rfl ⟨by decide, by decide⟩ rfl rfl (Nat.le_of_ble_eq_true rfl) d_collect_60 ⟨by decide, by decide⟩ (fun v60 h60 => ?_)
  refine z_istore_n Z 3 d_collect_63 rfl (by decide) rfl ?_
  refine z_aload_n Z 0 d_collect_64 rfl rfl ?_
  refine z_iload_n Z 2 d_collect_65 rfl rfl ?_
  refine xp_0 Z d_collect_66 ?_
  refine z_iload_n Z 3 d_collect_69 rfl rfl ?_
  refine z_ri Z _ hr rfl d_collect_70 (by decide) (by decide) rfl ?_
  exact ⟨_, _, _, _, w, _, _, h12, h15, h21, hw24, ew, h39, h43, h49, h60, rfl⟩
end
section
/-! what the calls ask of their arguments -/
def isR (r : Int32) : Prop := ∃ j, j < 6 ∧ r = nI j
def isA (a : Int32) : Prop := ∃ i, i < 4 ∧ a = nI i
def isK (k : Int32) : Prop := ∃ i, i < 3 ∧ k = nI i
def isF (σ : St) (x f : Int32) : Prop := ∃ c j, c < 24 ∧ x = nI c ∧ j < fc (σ 1 c) ∧ f = nI j
def isTab (σ : St) (x : Int32) : Prop := ∃ c, c < 24 ∧ x = nI c ∧ σ 1 c = nI 2
theorem isF_nI {σ : St} {c : Nat} {f : Int32} (hc : c < 24) : isF σ (nI c) f ↔ ∃ j, j < fc (σ 1 c) ∧ f = nI j := by
  constructor
  · rintro ⟨d, j, hd, e, hj, q⟩
    rw [(nI_eq (by omega) (by omega)).mp e]; exact ⟨j, hj, q⟩
  · rintro ⟨j, hj, q⟩; exact ⟨c, j, hc, rfl, hj, q⟩
theorem isTab_nI {σ : St} {c : Nat} (hc : c < 24) : isTab σ (nI c) ↔ σ 1 c = nI 2 := by
  constructor
  · rintro ⟨d, hd, e, q⟩
    rw [(nI_eq (by omega) (by omega)).mp e]; exact q
  · intro q; exact ⟨c, hc, rfl, q⟩
theorem eo_none {n : Nat} {f : Nat → Int32} {k v : Int32} (h : (∃ i, i < n ∧ v = nI i ∧ f i = k ∧ ∀ j, j < i → f j ≠ k) ∨ (v = -1 ∧ ∀ j, j < n → f j ≠ k)) (e : v = -1) (hn : n ≤ 4 := by assumption) : ∀ j, j < n → f j ≠ k := by
  rcases h with ⟨i, hi, q, -⟩ | h
  · exact absurd (q.symm.trans e) (nI_m1 (by omega))
  · exact h.2
theorem eo_some {n : Nat} {f : Nat → Int32} {k v : Int32} (h : (∃ i, i < n ∧ v = nI i ∧ f i = k ∧ ∀ j, j < i → f j ≠ k) ∨ (v = -1 ∧ ∀ j, j < n → f j ≠ k)) (e : ¬ v = -1) : ∃ i, i < n ∧ v = nI i ∧ f i = k ∧ ∀ j, j < i → f j ≠ k := h.resolve_right (fun q => e q.1)
theorem inLe {x : Int32} {n : Nat} (h0 : ¬ x < 0) (h : x ≤ nI n) (hn : n < 2 ^ 31 := by decide) : ∃ j, j ≤ n ∧ x = nI j := by
  obtain ⟨j, hj, rfl⟩ := nI_of h0
  exact ⟨j, (nI_leI hj hn).mp h, rfl⟩
theorem isK_of {k : Int32} (h0 : ¬ k < 0) (h : k ≤ nI 2) : isK k := by
  obtain ⟨j, hj, e⟩ := inLe h0 h
  exact ⟨j, by omega, e⟩
theorem nI_z {w : Nat} (h : w ≤ 24) (e : nI w = 0) : w = 0 := (nI_eq (by omega) (by decide)).mp e
def lf (σ : St) (c : Nat) : Prop := c < 24 ∧ bt (σ 0 0) c = false ∧ ∀ d, d < c → bt (σ 0 0) d = true
def full (σ : St) : Prop := ∀ d, d < 24 → bt (σ 0 0) d = true
theorem lf_some {σ : St} {v : Int32} (h : (∃ c, c < 24 ∧ v = nI c ∧ bt (σ 0 0) c = false ∧ ∀ d, d < c → bt (σ 0 0) d = true) ∨ (v = -1 ∧ ∀ d, d < 24 → bt (σ 0 0) d = true)) (e : ¬ v = -1) : ∃ c, lf σ c ∧ v = nI c := by
  obtain ⟨c, h1, h2, h3⟩ := h.resolve_right (fun q => e q.1)
  exact ⟨c, ⟨h1, h3⟩, h2⟩
theorem lf_none {σ : St} {v : Int32} (h : (∃ c, c < 24 ∧ v = nI c ∧ bt (σ 0 0) c = false ∧ ∀ d, d < c → bt (σ 0 0) d = true) ∨ (v = -1 ∧ ∀ d, d < 24 → bt (σ 0 0) d = true)) (e : v = -1) : full σ := by
  rcases h with ⟨c, h1, h2, -⟩ | h
  · exact absurd (h2.symm.trans e) (nI_m1 (by omega))
  · exact h.2
def grd (σ : St) (c : Nat) (a r : Int32) : St := va_up (va_up (va_up σ 7 (upd (σ 7) c (nI 1))) 8 (upd (σ 8) c a)) 9 (upd (σ 9) c r)
theorem wf_run {σ : St} {w c : Nat} {x : Int32} (hw : wf σ) (hl : w < 24) : wf (va_up (deq σ w) 7 (upd (σ 7) c x)) := by
  obtain ⟨h1, h2, h3, h4, h5, h6, h7, h8⟩ := hw
  refine ⟨h1, h2, h3, h4, h5, h6, fun j hj => ?_, w, by omega, rfl⟩
  show cl24 (shq (σ 11) w j)
  unfold shq
  split
  · exact h7 (j + 1) (by omega)
  · exact h7 j hj
set_option maxHeartbeats 4000000 in
set_option maxRecDepth 100000 in
theorem c_queued {l : Launch} {D : va_G} {cI cB cL : ClassId} {h : Nat → Nat} {σ : St}  : zMet l y_queued w_queued rm_queued D zCl (zTy cI cB cL) (wx h cI σ) [.ref (h 0)] (qi0 (wx h cI σ) (fun v => v = σ 0 1) noX) 0 0 0 0 := by
  refine z_meth (by decide) rfl (Nat.le_of_ble_eq_true rfl) (fun p e s mm as bl me cd Z hr hnm ht => ?_)
  refine z_aload_n Z 0 d_queued_0 rfl rfl ?_
  refine xn_1 Z d_queued_1 ?_
  refine z_ri0 Z hr rfl d_queued_4 (by decide) (by decide) ?_
  rfl
set_option maxHeartbeats 4000000 in
set_option maxRecDepth 100000 in
theorem c_used {l : Launch} {D : va_G} {cI cB cL : ClassId} {h : Nat → Nat} {σ : St}  : zMet l y_used w_used rm_used D zCl (zTy cI cB cL) (wx h cI σ) [.ref (h 0)] (qi0 (wx h cI σ) (fun v => v = σ 0 0) noX) 0 0 0 0 := by
  refine z_meth (by decide) rfl (Nat.le_of_ble_eq_true rfl) (fun p e s mm as bl me cd Z hr hnm ht => ?_)
  refine z_aload_n Z 0 d_used_0 rfl rfl ?_
  refine xn_0 Z d_used_1 ?_
  refine z_ri0 Z hr rfl d_used_4 (by decide) (by decide) ?_
  rfl
set_option maxHeartbeats 4000000 in
set_option maxRecDepth 100000 in
theorem c_collections {l : Launch} {D : va_G} {cI cB cL : ClassId} {h : Nat → Nat} {σ : St}  : zMet l y_collections w_collections rm_collections D zCl (zTy cI cB cL) (wx h cI σ) [.ref (h 0)] (qi0 (wx h cI σ) (fun v => v = σ 0 3) noX) 0 0 0 0 := by
  refine z_meth (by decide) rfl (Nat.le_of_ble_eq_true rfl) (fun p e s mm as bl me cd Z hr hnm ht => ?_)
  refine z_aload_n Z 0 d_collections_0 rfl rfl ?_
  refine xn_3 Z d_collections_1 ?_
  refine z_ri0 Z hr rfl d_collections_4 (by decide) (by decide) ?_
  rfl
set_option maxHeartbeats 4000000 in
set_option maxRecDepth 100000 in
theorem c_kind {l : Launch} {D : va_G} {cI cB cL : ClassId} {h : Nat → Nat} {σ : St} (hlt : l.stackTraces = false) {x : Int32} : zMet l y_kind w_kind rm_kind D zCl (zTy cI cB cL) (wx h cI σ) [.ref (h 0), .int x] (qi0 (wx h cI σ) (fun v => ∃ c, c < 24 ∧ x = nI c ∧ bt (σ 0 0) c = true ∧ v = σ 1 c + nI 4 * σ 7 c) (fun E => E = "java/util/NoSuchElementException" ∧ ¬ isT σ x)) 0 0 1 6 := by
  refine z_meth (by decide) rfl (Nat.le_of_ble_eq_true rfl) (fun p e s mm as bl me cd Z hr hnm ht => ?_)
  refine z_aload_n Z 0 d_kind_0 rfl rfl ?_
  refine z_iload_n Z 1 d_kind_1 rfl rfl ?_
  refine z_Wv0 Z (c_requireThing hlt) (ok_requireThing _) rfl rfl ⟨by decide, by decide⟩ rfl rfl rfl rfl (Nat.le_of_ble_eq_true rfl) d_kind_2 ⟨by decide, by decide⟩ (fun E h => z_out Z (ht _) (by decide) (by decide) ⟨rfl, h⟩) (fun h2 => ?_)
  obtain ⟨c, hc, rfl, hb⟩ := h2
  refine z_aload_n Z 0 d_kind_5 rfl rfl ?_
  refine xg_1 Z d_kind_6 ?_
  refine z_iload_n Z 1 d_kind_9 rfl rfl ?_
  refine xl_1 Z (by omega) d_kind_10 ?_
  refine z_iconst Z (nI 4) d_kind_11 zi_4 ?_
  refine z_aload_n Z 0 d_kind_12 rfl rfl ?_
  refine xg_7 Z d_kind_13 ?_
  refine z_iload_n Z 1 d_kind_16 rfl rfl ?_
  refine xl_7 Z (by omega) d_kind_17 ?_
  refine z_imul Z d_kind_18 ?_
  refine z_iadd Z d_kind_19 ?_
  refine z_ri0 Z hr rfl d_kind_20 (by decide) (by decide) ?_
  exact ⟨c, hc, rfl, hb, rfl⟩
set_option maxHeartbeats 4000000 in
set_option maxRecDepth 100000 in
theorem c_serial {l : Launch} {D : va_G} {cI cB cL : ClassId} {h : Nat → Nat} {σ : St} (hlt : l.stackTraces = false) {x : Int32} : zMet l y_serial w_serial rm_serial D zCl (zTy cI cB cL) (wx h cI σ) [.ref (h 0), .int x] (qi0 (wx h cI σ) (fun v => ∃ c, c < 24 ∧ x = nI c ∧ bt (σ 0 0) c = true ∧ v = σ 2 c) (fun E => E = "java/util/NoSuchElementException" ∧ ¬ isT σ x)) 0 0 1 6 := by
  refine z_meth (by decide) rfl (Nat.le_of_ble_eq_true rfl) (fun p e s mm as bl me cd Z hr hnm ht => ?_)
  refine z_aload_n Z 0 d_serial_0 rfl rfl ?_
  refine z_iload_n Z 1 d_serial_1 rfl rfl ?_
  refine z_Wv0 Z (c_requireThing hlt) (ok_requireThing _) rfl rfl ⟨by decide, by decide⟩ rfl rfl rfl rfl (Nat.le_of_ble_eq_true rfl) d_serial_2 ⟨by decide, by decide⟩ (fun E h => z_out Z (ht _) (by decide) (by decide) ⟨rfl, h⟩) (fun h2 => ?_)
  obtain ⟨c, hc, rfl, hb⟩ := h2
  refine z_aload_n Z 0 d_serial_5 rfl rfl ?_
  refine xg_2 Z d_serial_6 ?_
  refine z_iload_n Z 1 d_serial_9 rfl rfl ?_
  refine xl_2 Z (by omega) d_serial_10 ?_
  refine z_ri0 Z hr rfl d_serial_11 (by decide) (by decide) ?_
  exact ⟨c, hc, rfl, hb, rfl⟩
set_option maxHeartbeats 4000000 in
set_option maxRecDepth 100000 in
theorem c_rootAt {l : Launch} {D : va_G} {cI cB cL : ClassId} {h : Nat → Nat} {σ : St} (hlt : l.stackTraces = false) {r : Int32} : zMet l y_rootAt w_rootAt rm_rootAt D zCl (zTy cI cB cL) (wx h cI σ) [.ref (h 0), .int r] (qi0 (wx h cI σ) (fun v => ∃ j, j < 6 ∧ r = nI j ∧ v = σ 10 j) (fun E => E = "java/lang/IndexOutOfBoundsException" ∧ ¬ isR r)) 0 0 1 6 := by
  refine z_meth (by decide) rfl (Nat.le_of_ble_eq_true rfl) (fun p e s mm as bl me cd Z hr hnm ht => ?_)
  refine z_aload_n Z 0 d_rootAt_0 rfl rfl ?_
  refine z_iload_n Z 1 d_rootAt_1 rfl rfl ?_
  refine z_Wv0 Z (c_requireRoot hlt) (ok_requireRoot _) rfl rfl ⟨by decide, by decide⟩ rfl rfl rfl rfl (Nat.le_of_ble_eq_true rfl) d_rootAt_2 ⟨by decide, by decide⟩ (fun E h => z_out Z (ht _) (by decide) (by decide) ⟨rfl, h⟩) (fun h2 => ?_)
  obtain ⟨j, hj, rfl⟩ := h2
  refine z_aload_n Z 0 d_rootAt_5 rfl rfl ?_
  refine xg_10 Z d_rootAt_6 ?_
  refine z_iload_n Z 1 d_rootAt_9 rfl rfl ?_
  refine xl_10 Z (by omega) d_rootAt_10 ?_
  refine z_ri0 Z hr rfl d_rootAt_11 (by decide) (by decide) ?_
  exact ⟨j, hj, rfl, rfl⟩
set_option maxHeartbeats 4000000 in
set_option maxRecDepth 100000 in
theorem c_root {l : Launch} {D : va_G} {cI cB cL : ClassId} {h : Nat → Nat} {σ : St} (hlt : l.stackTraces = false) {r x : Int32} : zMet l y_root w_root rm_root D zCl (zTy cI cB cL) (wx h cI σ) [.ref (h 0), .int r, .int x] (qv (wx h cI) (fun u => ∃ j, j < 6 ∧ r = nI j ∧ (x = -1 ∨ isT σ x) ∧ u = va_up σ 10 (upd (σ 10) j x)) (fun E u => u = σ ∧ ((E = "java/lang/IndexOutOfBoundsException" ∧ ¬ isR r) ∨ (E = "java/util/NoSuchElementException" ∧ isR r ∧ ¬ (x = -1 ∨ isT σ x))))) 0 0 1 6 := by
  refine z_meth (by decide) rfl (Nat.le_of_ble_eq_true rfl) (fun p e s mm as bl me cd Z hr hnm ht => ?_)
  refine z_aload_n Z 0 d_root_0 rfl rfl ?_
  refine z_iload_n Z 1 d_root_1 rfl rfl ?_
  refine z_Wv0 Z (c_requireRoot hlt) (ok_requireRoot _) rfl rfl ⟨by decide, by decide⟩ rfl rfl rfl rfl (Nat.le_of_ble_eq_true rfl) d_root_2 ⟨by decide, by decide⟩ (fun E h => z_out Z (ht _) (by decide) (by decide) ⟨σ, rfl, rfl, Or.inl h⟩) (fun h2 => ?_)
  obtain ⟨j, hj, rfl⟩ := h2
  refine z_aload_n Z 0 d_root_5 rfl rfl ?_
  refine z_iload_n Z 2 d_root_6 rfl rfl ?_
  refine z_Wv0 Z (c_requireThingOrNone hlt) (ok_requireThingOrNone _) rfl rfl ⟨by decide, by decide⟩ rfl rfl rfl rfl (Nat.le_of_ble_eq_true rfl) d_root_7 ⟨by decide, by decide⟩ (fun E h => z_out Z (ht _) (by decide) (by decide) ⟨σ, rfl, rfl, Or.inr ⟨h.1, ⟨j, hj, rfl⟩, h.2⟩⟩) (fun h7 => ?_)
  refine z_aload_n Z 0 d_root_10 rfl rfl ?_
  refine xg_10 Z d_root_11 ?_
  refine z_iload_n Z 1 d_root_14 rfl rfl ?_
  refine z_iload_n Z 2 d_root_15 rfl rfl ?_
  refine xs_10 Z (by omega) d_root_16 ?_
  refine z_rv Z _ hr d_root_17 (by decide) (by decide) rfl ?_
  exact ⟨j, hj, rfl, h7, rfl⟩
set_option maxHeartbeats 4000000 in
set_option maxRecDepth 100000 in
theorem c_get {l : Launch} {D : va_G} {cI cB cL : ClassId} {h : Nat → Nat} {σ : St} (hlt : l.stackTraces = false) {x f : Int32} : zMet l y_get w_get rm_get D zCl (zTy cI cB cL) (wx h cI σ) [.ref (h 0), .int x, .int f] (qi0 (wx h cI σ) (fun v => ∃ c j, c < 24 ∧ x = nI c ∧ bt (σ 0 0) c = true ∧ j < fc (σ 1 c) ∧ f = nI j ∧ v = σ 3 (c * 3 + j)) (fun E => (E = "java/util/NoSuchElementException" ∧ ¬ isT σ x) ∨ (E = "java/lang/IllegalArgumentException" ∧ isT σ x ∧ ¬ isF σ x f))) 0 0 1 6 := by
  refine z_meth (by decide) rfl (Nat.le_of_ble_eq_true rfl) (fun p e s mm as bl me cd Z hr hnm ht => ?_)
  refine z_aload_n Z 0 d_get_0 rfl rfl ?_
  refine z_iload_n Z 1 d_get_1 rfl rfl ?_
  refine z_Wv0 Z (c_requireThing hlt) (ok_requireThing _) rfl rfl ⟨by decide, by decide⟩ rfl rfl rfl rfl (Nat.le_of_ble_eq_true rfl) d_get_2 ⟨by decide, by decide⟩ (fun E h => z_out Z (ht _) (by decide) (by decide) ⟨rfl, Or.inl h⟩) (fun h2 => ?_)
  obtain ⟨c, hc, rfl, hb⟩ := h2
  refine z_aload_n Z 0 d_get_5 rfl rfl ?_
  refine z_iload_n Z 1 d_get_6 rfl rfl ?_
  refine z_iload_n Z 2 d_get_7 rfl rfl ?_
  refine z_Wv0 Z (c_requireField hlt hc) (ok_requireField _) rfl rfl ⟨by decide, by decide⟩ rfl rfl rfl rfl (Nat.le_of_ble_eq_true rfl) d_get_8 ⟨by decide, by decide⟩ (fun E h => z_out Z (ht _) (by decide) (by decide) ⟨rfl, Or.inr ⟨h.1, (isT_nI hc).mpr hb, fun q => h.2 ((isF_nI hc).mp q)⟩⟩) (fun h8 => ?_)
  obtain ⟨j, hj, rfl⟩ := h8
  have hj3 := fc_le (σ 1 c)
  refine z_aload_n Z 0 d_get_11 rfl rfl ?_
  refine xg_3 Z d_get_12 ?_
  refine z_iload_n Z 1 d_get_15 rfl rfl ?_
  refine z_iload_n Z 2 d_get_16 rfl rfl ?_
  refine z_S0 Z (c_fieldSlot ) (ok_fieldSlot _) rfl rfl ⟨by decide, by decide⟩ rfl rfl (Nat.le_of_ble_eq_true rfl) d_get_17 ⟨by decide, by decide⟩ (fun v17 h17 => ?_)
  subst h17
  refine xl_3 Z (by omega) d_get_20 ?_
  refine z_ri0 Z hr rfl d_get_21 (by decide) (by decide) ?_
  exact ⟨c, j, hc, rfl, hb, hj, rfl, rfl⟩
set_option maxHeartbeats 4000000 in
set_option maxRecDepth 100000 in
theorem c_set {l : Launch} {D : va_G} {cI cB cL : ClassId} {h : Nat → Nat} {σ : St} (hlt : l.stackTraces = false) {x f t : Int32} : zMet l y_set w_set rm_set D zCl (zTy cI cB cL) (wx h cI σ) [.ref (h 0), .int x, .int f, .int t] (qv (wx h cI) (fun u => ∃ c j, c < 24 ∧ x = nI c ∧ bt (σ 0 0) c = true ∧ (t = -1 ∨ isT σ t) ∧ j < fc (σ 1 c) ∧ f = nI j ∧ u = va_up σ 3 (upd (σ 3) (c * 3 + j) t)) (fun E u => u = σ ∧ ((E = "java/util/NoSuchElementException" ∧ ¬ (isT σ x ∧ (t = -1 ∨ isT σ t))) ∨ (E = "java/lang/IllegalArgumentException" ∧ (isT σ x ∧ (t = -1 ∨ isT σ t)) ∧ ¬ isF σ x f)))) 0 0 1 6 := by
  refine z_meth (by decide) rfl (Nat.le_of_ble_eq_true rfl) (fun p e s mm as bl me cd Z hr hnm ht => ?_)
  refine z_aload_n Z 0 d_set_0 rfl rfl ?_
  refine z_iload_n Z 1 d_set_1 rfl rfl ?_
  refine z_Wv0 Z (c_requireThing hlt) (ok_requireThing _) rfl rfl ⟨by decide, by decide⟩ rfl rfl rfl rfl (Nat.le_of_ble_eq_true rfl) d_set_2 ⟨by decide, by decide⟩ (fun E h => z_out Z (ht _) (by decide) (by decide) ⟨σ, rfl, rfl, Or.inl ⟨h.1, fun q => h.2 q.1⟩⟩) (fun h2 => ?_)
  obtain ⟨c, hc, rfl, hb⟩ := h2
  refine z_aload_n Z 0 d_set_5 rfl rfl ?_
  refine z_iload_n Z 3 d_set_6 rfl rfl ?_
  refine z_Wv0 Z (c_requireThingOrNone hlt) (ok_requireThingOrNone _) rfl rfl ⟨by decide, by decide⟩ rfl rfl rfl rfl (Nat.le_of_ble_eq_true rfl) d_set_7 ⟨by decide, by decide⟩ (fun E h => z_out Z (ht _) (by decide) (by decide) ⟨σ, rfl, rfl, Or.inl ⟨h.1, fun q => h.2 q.2⟩⟩) (fun h7 => ?_)
  refine z_aload_n Z 0 d_set_10 rfl rfl ?_
  refine z_iload_n Z 1 d_set_11 rfl rfl ?_
  refine z_iload_n Z 2 d_set_12 rfl rfl ?_
  refine z_Wv0 Z (c_requireField hlt hc) (ok_requireField _) rfl rfl ⟨by decide, by decide⟩ rfl rfl rfl rfl (Nat.le_of_ble_eq_true rfl) d_set_13 ⟨by decide, by decide⟩ (fun E h => z_out Z (ht _) (by decide) (by decide) ⟨σ, rfl, rfl, Or.inr ⟨h.1, ⟨(isT_nI hc).mpr hb, h7⟩, fun q => h.2 ((isF_nI hc).mp q)⟩⟩) (fun h13 => ?_)
  obtain ⟨j, hj, rfl⟩ := h13
  have hj3 := fc_le (σ 1 c)
  refine z_aload_n Z 0 d_set_16 rfl rfl ?_
  refine xg_3 Z d_set_17 ?_
  refine z_iload_n Z 1 d_set_20 rfl rfl ?_
  refine z_iload_n Z 2 d_set_21 rfl rfl ?_
  refine z_S0 Z (c_fieldSlot ) (ok_fieldSlot _) rfl rfl ⟨by decide, by decide⟩ rfl rfl (Nat.le_of_ble_eq_true rfl) d_set_22 ⟨by decide, by decide⟩ (fun v22 h22 => ?_)
  subst h22
  refine z_iload_n Z 3 d_set_25 rfl rfl ?_
  refine xs_3 Z (by omega) d_set_26 ?_
  refine z_rv Z _ hr d_set_27 (by decide) (by decide) rfl ?_
  exact ⟨c, j, hc, rfl, hb, h7, hj, rfl, rfl⟩
set_option maxHeartbeats 4000000 in
set_option maxRecDepth 100000 in
theorem c_find {l : Launch} {D : va_G} {cI cB cL : ClassId} {h : Nat → Nat} {σ : St} (hlt : l.stackTraces = false) (hw : wf σ) {x k : Int32} : zMet l y_find w_find rm_find D zCl (zTy cI cB cL) (wx h cI σ) [.ref (h 0), .int x, .int k] (qi0 (wx h cI σ) (fun v => ∃ c, c < 24 ∧ x = nI c ∧ bt (σ 0 0) c = true ∧ isT σ k ∧ σ 1 c = nI 2 ∧ ((∃ i, i < cnt σ c ∧ σ 4 (c * 4 + i) = k ∧ v = σ 5 (c * 4 + i)) ∨ ((∀ j, j < cnt σ c → σ 4 (c * 4 + j) ≠ k) ∧ v = -1))) (fun E => (E = "java/util/NoSuchElementException" ∧ ¬ (isT σ x ∧ isT σ k)) ∨ (E = "java/lang/IllegalArgumentException" ∧ (isT σ x ∧ isT σ k) ∧ ¬ isTab σ x))) 0 0 1 6 := by
  refine z_meth (by decide) rfl (Nat.le_of_ble_eq_true rfl) (fun p e s mm as bl me cd Z hr hnm ht => ?_)
  refine z_aload_n Z 0 d_find_0 rfl rfl ?_
  refine z_iload_n Z 1 d_find_1 rfl rfl ?_
  refine z_Wv0 Z (c_requireThing hlt) (ok_requireThing _) rfl rfl ⟨by decide, by decide⟩ rfl rfl rfl rfl (Nat.le_of_ble_eq_true rfl) d_find_2 ⟨by decide, by decide⟩ (fun E h => z_out Z (ht _) (by decide) (by decide) ⟨rfl, Or.inl ⟨h.1, fun q => h.2 q.1⟩⟩) (fun h2 => ?_)
  obtain ⟨c, hc, rfl, hb⟩ := h2
  have e6 : σ 6 c = nI (cnt σ c) := (wf_cnt hw hc).2
  have n6 : cnt σ c ≤ 4 := (wf_cnt hw hc).1
  refine z_aload_n Z 0 d_find_5 rfl rfl ?_
  refine z_iload_n Z 2 d_find_6 rfl rfl ?_
  refine z_Wv0 Z (c_requireThing hlt) (ok_requireThing _) rfl rfl ⟨by decide, by decide⟩ rfl rfl rfl rfl (Nat.le_of_ble_eq_true rfl) d_find_7 ⟨by decide, by decide⟩ (fun E h => z_out Z (ht _) (by decide) (by decide) ⟨rfl, Or.inl ⟨h.1, fun q => h.2 q.2⟩⟩) (fun h7 => ?_)
  refine z_aload_n Z 0 d_find_10 rfl rfl ?_
  refine z_iload_n Z 1 d_find_11 rfl rfl ?_
  refine z_Wv0 Z (c_requireTable hlt hc) (ok_requireTable _) rfl rfl ⟨by decide, by decide⟩ rfl rfl rfl rfl (Nat.le_of_ble_eq_true rfl) d_find_12 ⟨by decide, by decide⟩ (fun E h => z_out Z (ht _) (by decide) (by decide) ⟨rfl, Or.inr ⟨h.1, ⟨(isT_nI hc).mpr hb, h7⟩, fun q => h.2 ((isTab_nI hc).mp q)⟩⟩) (fun h12 => ?_)
  refine z_aload_n Z 0 d_find_15 rfl rfl ?_
  refine z_iload_n Z 1 d_find_16 rfl rfl ?_
  refine z_iload_n Z 2 d_find_17 rfl rfl ?_
  refine z_Wi0 Z (c_entryOf hw hc) (ok_entryOf _) rfl rfl ⟨by decide, by decide⟩ rfl rfl rfl rfl (Nat.le_of_ble_eq_true rfl) d_find_18 ⟨by decide, by decide⟩ (fun E h => h.elim) (fun v18 h18 => ?_)
  refine z_istore_n Z 3 d_find_21 rfl (by decide) rfl ?_
  refine z_iload_n Z 3 d_find_22 rfl rfl ?_
  refine z_iconst Z (-1) d_find_23 zi_m1 ?_
  refine z_icmp_ne Z 31 d_find_24 (by decide) (fun h24 => ?_) (fun h24 => ?_)
  · obtain ⟨i, hi, rfl, ek, -⟩ := eo_some h18 h24
    refine z_aload_n Z 0 d_find_31 rfl rfl ?_
    refine xg_5 Z d_find_32 ?_
    refine z_iload_n Z 1 d_find_35 rfl rfl ?_
    refine z_iload_n Z 3 d_find_36 rfl rfl ?_
    refine z_S0 Z (c_entrySlot ) (ok_entrySlot _) rfl rfl ⟨by decide, by decide⟩ rfl rfl (Nat.le_of_ble_eq_true rfl) d_find_37 ⟨by decide, by decide⟩ (fun v37 h37 => ?_)
    subst h37
    refine xl_5 Z (by omega) d_find_40 ?_
    refine z_ri0 Z hr rfl d_find_41 (by decide) (by decide) ?_
    exact ⟨c, hc, rfl, hb, h7, h12, Or.inl ⟨i, hi, ek, rfl⟩⟩
  · refine z_iconst Z (-1) d_find_27 zi_m1 ?_
    refine z_goto Z 41 d_find_28 (by decide) ?_
    refine z_ri0 Z hr rfl d_find_41 (by decide) (by decide) ?_
    exact ⟨c, hc, rfl, hb, h7, h12, Or.inr ⟨(eo_none h18 h24), rfl⟩⟩
set_option maxHeartbeats 4000000 in
set_option maxRecDepth 100000 in
theorem c_remove {l : Launch} {D : va_G} {cI cB cL : ClassId} {h : Nat → Nat} {σ : St} (hlt : l.stackTraces = false) (hw : wf σ) {x k : Int32} : zMet l y_remove w_remove rm_remove D zCl (zTy cI cB cL) (wx h cI σ) [.ref (h 0), .int x, .int k] (qi (wx h cI) (fun v u => ∃ c, c < 24 ∧ x = nI c ∧ bt (σ 0 0) c = true ∧ isT σ k ∧ σ 1 c = nI 2 ∧ ((∃ i, i < cnt σ c ∧ σ 4 (c * 4 + i) = k ∧ v = nI 1 ∧ u = drp σ c i) ∨ ((∀ j, j < cnt σ c → σ 4 (c * 4 + j) ≠ k) ∧ v = nI 0 ∧ u = σ))) (fun E u => u = σ ∧ ((E = "java/util/NoSuchElementException" ∧ ¬ (isT σ x ∧ isT σ k)) ∨ (E = "java/lang/IllegalArgumentException" ∧ (isT σ x ∧ isT σ k) ∧ ¬ isTab σ x)))) 0 0 1 6 := by
  refine z_meth (by decide) rfl (Nat.le_of_ble_eq_true rfl) (fun p e s mm as bl me cd Z hr hnm ht => ?_)
  refine z_aload_n Z 0 d_remove_0 rfl rfl ?_
  refine z_iload_n Z 1 d_remove_1 rfl rfl ?_
  refine z_Wv0 Z (c_requireThing hlt) (ok_requireThing _) rfl rfl ⟨by decide, by decide⟩ rfl rfl rfl rfl (Nat.le_of_ble_eq_true rfl) d_remove_2 ⟨by decide, by decide⟩ (fun E h => z_out Z (ht _) (by decide) (by decide) ⟨σ, rfl, rfl, Or.inl ⟨h.1, fun q => h.2 q.1⟩⟩) (fun h2 => ?_)
  obtain ⟨c, hc, rfl, hb⟩ := h2
  have e6 : σ 6 c = nI (cnt σ c) := (wf_cnt hw hc).2
  have n6 : cnt σ c ≤ 4 := (wf_cnt hw hc).1
  refine z_aload_n Z 0 d_remove_5 rfl rfl ?_
  refine z_iload_n Z 2 d_remove_6 rfl rfl ?_
  refine z_Wv0 Z (c_requireThing hlt) (ok_requireThing _) rfl rfl ⟨by decide, by decide⟩ rfl rfl rfl rfl (Nat.le_of_ble_eq_true rfl) d_remove_7 ⟨by decide, by decide⟩ (fun E h => z_out Z (ht _) (by decide) (by decide) ⟨σ, rfl, rfl, Or.inl ⟨h.1, fun q => h.2 q.2⟩⟩) (fun h7 => ?_)
  refine z_aload_n Z 0 d_remove_10 rfl rfl ?_
  refine z_iload_n Z 1 d_remove_11 rfl rfl ?_
  refine z_Wv0 Z (c_requireTable hlt hc) (ok_requireTable _) rfl rfl ⟨by decide, by decide⟩ rfl rfl rfl rfl (Nat.le_of_ble_eq_true rfl) d_remove_12 ⟨by decide, by decide⟩ (fun E h => z_out Z (ht _) (by decide) (by decide) ⟨σ, rfl, rfl, Or.inr ⟨h.1, ⟨(isT_nI hc).mpr hb, h7⟩, fun q => h.2 ((isTab_nI hc).mp q)⟩⟩) (fun h12 => ?_)
  refine z_aload_n Z 0 d_remove_15 rfl rfl ?_
  refine z_iload_n Z 1 d_remove_16 rfl rfl ?_
  refine z_iload_n Z 2 d_remove_17 rfl rfl ?_
  refine z_Wi0 Z (c_entryOf hw hc) (ok_entryOf _) rfl rfl ⟨by decide, by decide⟩ rfl rfl rfl rfl (Nat.le_of_ble_eq_true rfl) d_remove_18 ⟨by decide, by decide⟩ (fun E h => h.elim) (fun v18 h18 => ?_)
  refine z_istore_n Z 3 d_remove_21 rfl (by decide) rfl ?_
  refine z_iload_n Z 3 d_remove_22 rfl rfl ?_
  refine z_iconst Z (-1) d_remove_23 zi_m1 ?_
  refine z_icmp_ne Z 29 d_remove_24 (by decide) (fun h24 => ?_) (fun h24 => ?_)
  · obtain ⟨i, hi, rfl, ek, -⟩ := eo_some h18 h24
    refine z_aload_n Z 0 d_remove_29 rfl rfl ?_
    refine z_iload_n Z 1 d_remove_30 rfl rfl ?_
    refine z_iload_n Z 3 d_remove_31 rfl rfl ?_
    refine z_Wv Z (c_dropEntry hw hc hi) (ok_dropEntry _) rfl rfl ⟨by decide, by decide⟩ rfl rfl rfl rfl (Nat.le_of_ble_eq_true rfl) d_remove_32 ⟨by decide, by decide⟩ (fun E u h => h.elim) (fun u32 h32 => ?_)
    subst h32
    refine z_iconst Z (nI 1) d_remove_35 zi_1 ?_
    refine z_ri Z _ hr rfl d_remove_36 (by decide) (by decide) rfl ?_
    exact ⟨c, hc, rfl, hb, h7, h12, Or.inl ⟨i, hi, ek, rfl, rfl⟩⟩
  · refine z_iconst Z (nI 0) d_remove_27 zi_0 ?_
    refine z_ri Z _ hr rfl d_remove_28 (by decide) (by decide) rfl ?_
    exact ⟨c, hc, rfl, hb, h7, h12, Or.inr ⟨(eo_none h18 h24), rfl, rfl⟩⟩
set_option maxHeartbeats 4000000 in
set_option maxRecDepth 100000 in
theorem c_put {l : Launch} {D : va_G} {cI cB cL : ClassId} {h : Nat → Nat} {σ : St} (hlt : l.stackTraces = false) (hw : wf σ) {x k v : Int32} : zMet l y_put w_put rm_put D zCl (zTy cI cB cL) (wx h cI σ) [.ref (h 0), .int x, .int k, .int v] (qi (wx h cI) (fun r u => ∃ c, c < 24 ∧ x = nI c ∧ bt (σ 0 0) c = true ∧ isT σ k ∧ isT σ v ∧ σ 1 c = nI 2 ∧ ((∃ i, i < cnt σ c ∧ σ 4 (c * 4 + i) = k ∧ r = nI 0 ∧ u = va_up σ 5 (upd (σ 5) (c * 4 + i) v)) ∨ ((∀ j, j < cnt σ c → σ 4 (c * 4 + j) ≠ k) ∧ cnt σ c < 4 ∧ r = nI 1 ∧ u = apd σ c k v))) (fun E u => u = σ ∧ ((E = "java/util/NoSuchElementException" ∧ ¬ (isT σ x ∧ isT σ k ∧ isT σ v)) ∨ (E = "java/lang/IllegalArgumentException" ∧ (isT σ x ∧ isT σ k ∧ isT σ v) ∧ ¬ isTab σ x) ∨ (E = "java/lang/IllegalStateException" ∧ (isT σ x ∧ isT σ k ∧ isT σ v) ∧ ∃ c, c < 24 ∧ x = nI c ∧ σ 1 c = nI 2 ∧ cnt σ c = 4 ∧ ∀ j, j < cnt σ c → σ 4 (c * 4 + j) ≠ k)))) 0 0 1 6 := by
  refine z_meth (by decide) rfl (Nat.le_of_ble_eq_true rfl) (fun p e s mm as bl me cd Z hr hnm ht => ?_)
  refine z_aload_n Z 0 d_put_0 rfl rfl ?_
  refine z_iload_n Z 1 d_put_1 rfl rfl ?_
  refine z_Wv0 Z (c_requireThing hlt) (ok_requireThing _) rfl rfl ⟨by decide, by decide⟩ rfl rfl rfl rfl (Nat.le_of_ble_eq_true rfl) d_put_2 ⟨by decide, by decide⟩ (fun E h => z_out Z (ht _) (by decide) (by decide) ⟨σ, rfl, rfl, Or.inl ⟨h.1, fun q => h.2 q.1⟩⟩) (fun h2 => ?_)
  obtain ⟨c, hc, rfl, hb⟩ := h2
  have e6 : σ 6 c = nI (cnt σ c) := (wf_cnt hw hc).2
  have n6 : cnt σ c ≤ 4 := (wf_cnt hw hc).1
  refine z_aload_n Z 0 d_put_5 rfl rfl ?_
  refine z_iload_n Z 2 d_put_6 rfl rfl ?_
  refine z_Wv0 Z (c_requireThing hlt) (ok_requireThing _) rfl rfl ⟨by decide, by decide⟩ rfl rfl rfl rfl (Nat.le_of_ble_eq_true rfl) d_put_7 ⟨by decide, by decide⟩ (fun E h => z_out Z (ht _) (by decide) (by decide) ⟨σ, rfl, rfl, Or.inl ⟨h.1, fun q => h.2 q.2.1⟩⟩) (fun h7 => ?_)
  refine z_aload_n Z 0 d_put_10 rfl rfl ?_
  refine z_iload_n Z 3 d_put_11 rfl rfl ?_
  refine z_Wv0 Z (c_requireThing hlt) (ok_requireThing _) rfl rfl ⟨by decide, by decide⟩ rfl rfl rfl rfl (Nat.le_of_ble_eq_true rfl) d_put_12 ⟨by decide, by decide⟩ (fun E h => z_out Z (ht _) (by decide) (by decide) ⟨σ, rfl, rfl, Or.inl ⟨h.1, fun q => h.2 q.2.2⟩⟩) (fun h12 => ?_)
  refine z_aload_n Z 0 d_put_15 rfl rfl ?_
  refine z_iload_n Z 1 d_put_16 rfl rfl ?_
  refine z_Wv0 Z (c_requireTable hlt hc) (ok_requireTable _) rfl rfl ⟨by decide, by decide⟩ rfl rfl rfl rfl (Nat.le_of_ble_eq_true rfl) d_put_17 ⟨by decide, by decide⟩ (fun E h => z_out Z (ht _) (by decide) (by decide) ⟨σ, rfl, rfl, Or.inr (Or.inl ⟨h.1, ⟨(isT_nI hc).mpr hb, h7, h12⟩, fun q => h.2 ((isTab_nI hc).mp q)⟩)⟩) (fun h17 => ?_)
  refine z_aload_n Z 0 d_put_20 rfl rfl ?_
  refine z_iload_n Z 1 d_put_21 rfl rfl ?_
  refine z_iload_n Z 2 d_put_22 rfl rfl ?_
  refine z_Wi0 Z (c_entryOf hw hc) (ok_entryOf _) rfl rfl ⟨by decide, by decide⟩ rfl rfl rfl rfl (Nat.le_of_ble_eq_true rfl) d_put_23 ⟨by decide, by decide⟩ (fun E h => h.elim) (fun v23 h23 => ?_)
  refine z_istore Z 4 d_put_26 (by decide) rfl ?_
  refine z_iload Z 4 d_put_28 rfl ?_
  refine z_iconst Z (-1) d_put_30 zi_m1 ?_
  refine z_icmp_eq Z 48 d_put_31 (by decide) (fun h31 => ?_) (fun h31 => ?_)
  · refine z_aload_n Z 0 d_put_48 rfl rfl ?_
    refine xg_6 Z d_put_49 ?_
    refine z_iload_n Z 1 d_put_52 rfl rfl ?_
    refine xl_6 Z (by omega) d_put_53 ?_
    refine z_iconst Z (nI 4) d_put_54 zi_4 ?_
    refine z_eqi2 e6 ?_
    refine z_icmpN_lt Z 68 d_put_55 (by decide) (by omega) (by omega) (fun h55 => ?_) (fun h55 => ?_)
    · refine z_aload_n Z 0 d_put_68 rfl rfl ?_
      refine z_iload_n Z 1 d_put_69 rfl rfl ?_
      refine z_iload_n Z 2 d_put_70 rfl rfl ?_
      refine z_iload_n Z 3 d_put_71 rfl rfl ?_
      refine z_Wv Z (c_appendEntry hw hc h55) (ok_appendEntry _) rfl rfl ⟨by decide, by decide⟩ rfl rfl rfl rfl (Nat.le_of_ble_eq_true rfl) d_put_72 ⟨by decide, by decide⟩ (fun E u h => h.elim) (fun u72 h72 => ?_)
      subst h72
      refine z_iconst Z (nI 1) d_put_75 zi_1 ?_
      refine z_ri Z _ hr rfl d_put_76 (by decide) (by decide) rfl ?_
      exact ⟨c, hc, rfl, hb, h7, h12, h17, Or.inr ⟨eo_none h23 h31, h55, rfl, rfl⟩⟩
    · exact z_throw Z hlt (text := "the table is full") (names := zNames) (by decide +kernel) zNames_fit st_89 (at_IllegalStateException _) d_put_58 d_put_61 d_put_62 d_put_64 d_put_67 (ht _) (by decide) (by decide) (by decide) (by decide) (by decide) (by decide) ⟨σ, rfl, rfl, Or.inr (Or.inr ⟨rfl, ⟨(isT_nI hc).mpr hb, h7, h12⟩, ⟨c, hc, rfl, h17, by omega, eo_none h23 h31⟩⟩)⟩
  · obtain ⟨i, hi, rfl, ek, -⟩ := eo_some h23 h31
    refine z_aload_n Z 0 d_put_34 rfl rfl ?_
    refine xg_5 Z d_put_35 ?_
    refine z_iload_n Z 1 d_put_38 rfl rfl ?_
    refine z_iload Z 4 d_put_39 rfl ?_
    refine z_S0 Z (c_entrySlot ) (ok_entrySlot _) rfl rfl ⟨by decide, by decide⟩ rfl rfl (Nat.le_of_ble_eq_true rfl) d_put_41 ⟨by decide, by decide⟩ (fun v41 h41 => ?_)
    subst h41
    refine z_iload_n Z 3 d_put_44 rfl rfl ?_
    refine xs_5 Z (by omega) d_put_45 ?_
    refine z_iconst Z (nI 0) d_put_46 zi_0 ?_
    refine z_ri Z _ hr rfl d_put_47 (by decide) (by decide) rfl ?_
    exact ⟨c, hc, rfl, hb, h7, h12, h17, Or.inl ⟨i, hi, ek, rfl, rfl⟩⟩
set_option maxHeartbeats 4000000 in
set_option maxRecDepth 100000 in
theorem c_key {l : Launch} {D : va_G} {cI cB cL : ClassId} {h : Nat → Nat} {σ : St} (hlt : l.stackTraces = false) (hw : wf σ) {x i : Int32} : zMet l y_key w_key rm_key D zCl (zTy cI cB cL) (wx h cI σ) [.ref (h 0), .int x, .int i] (qi0 (wx h cI σ) (fun v => ∃ c j, c < 24 ∧ x = nI c ∧ bt (σ 0 0) c = true ∧ σ 1 c = nI 2 ∧ j < cnt σ c ∧ i = nI j ∧ v = σ 4 (c * 4 + j)) (fun E => (E = "java/util/NoSuchElementException" ∧ ¬ isT σ x) ∨ (E = "java/lang/IllegalArgumentException" ∧ isT σ x ∧ ¬ isTab σ x) ∨ (E = "java/lang/IndexOutOfBoundsException" ∧ isT σ x ∧ ∃ c, c < 24 ∧ x = nI c ∧ σ 1 c = nI 2 ∧ ¬ ∃ j, j < cnt σ c ∧ i = nI j))) 0 0 1 6 := by
  refine z_meth (by decide) rfl (Nat.le_of_ble_eq_true rfl) (fun p e s mm as bl me cd Z hr hnm ht => ?_)
  refine z_aload_n Z 0 d_key_0 rfl rfl ?_
  refine z_iload_n Z 1 d_key_1 rfl rfl ?_
  refine z_Wv0 Z (c_requireThing hlt) (ok_requireThing _) rfl rfl ⟨by decide, by decide⟩ rfl rfl rfl rfl (Nat.le_of_ble_eq_true rfl) d_key_2 ⟨by decide, by decide⟩ (fun E h => z_out Z (ht _) (by decide) (by decide) ⟨rfl, Or.inl h⟩) (fun h2 => ?_)
  obtain ⟨c, hc, rfl, hb⟩ := h2
  have e6 : σ 6 c = nI (cnt σ c) := (wf_cnt hw hc).2
  have n6 : cnt σ c ≤ 4 := (wf_cnt hw hc).1
  refine z_aload_n Z 0 d_key_5 rfl rfl ?_
  refine z_iload_n Z 1 d_key_6 rfl rfl ?_
  refine z_Wv0 Z (c_requireTable hlt hc) (ok_requireTable _) rfl rfl ⟨by decide, by decide⟩ rfl rfl rfl rfl (Nat.le_of_ble_eq_true rfl) d_key_7 ⟨by decide, by decide⟩ (fun E h => z_out Z (ht _) (by decide) (by decide) ⟨rfl, Or.inr (Or.inl ⟨h.1, (isT_nI hc).mpr hb, fun q => h.2 ((isTab_nI hc).mp q)⟩)⟩) (fun h7 => ?_)
  refine z_iload_n Z 2 d_key_10 rfl rfl ?_
  refine z_if_lt Z 24 d_key_11 (by decide) (fun h11 => ?_) (fun h11 => ?_)
  · exact z_throw Z hlt (text := "no such entry") (names := zNames) (by decide +kernel) zNames_fit st_100 (at_IndexOutOfBoundsException _) d_key_24 d_key_27 d_key_28 d_key_30 d_key_33 (ht _) (by decide) (by decide) (by decide) (by decide) (by decide) (by decide) ⟨rfl, Or.inr (Or.inr ⟨rfl, (isT_nI hc).mpr hb, ⟨c, hc, rfl, h7, fun ⟨j, hj, q⟩ => nI_pos (by omega) (q ▸ h11)⟩⟩)⟩
  · refine z_iload_n Z 2 d_key_14 rfl rfl ?_
    refine z_aload_n Z 0 d_key_15 rfl rfl ?_
    refine xg_6 Z d_key_16 ?_
    refine z_iload_n Z 1 d_key_19 rfl rfl ?_
    refine xl_6 Z (by omega) d_key_20 ?_
    refine z_eqi e6 ?_
    refine z_icmp_lt Z 34 d_key_21 (by decide) (fun h21 => ?_) (fun h21 => ?_)
    · obtain ⟨j, hj, rfl⟩ := inN h11 h21 (by omega)
      refine z_aload_n Z 0 d_key_34 rfl rfl ?_
      refine xg_4 Z d_key_35 ?_
      refine z_iload_n Z 1 d_key_38 rfl rfl ?_
      refine z_iload_n Z 2 d_key_39 rfl rfl ?_
      refine z_S0 Z (c_entrySlot ) (ok_entrySlot _) rfl rfl ⟨by decide, by decide⟩ rfl rfl (Nat.le_of_ble_eq_true rfl) d_key_40 ⟨by decide, by decide⟩ (fun v40 h40 => ?_)
      subst h40
      refine xl_4 Z (by omega) d_key_43 ?_
      refine z_ri0 Z hr rfl d_key_44 (by decide) (by decide) ?_
      exact ⟨c, j, hc, rfl, hb, h7, hj, rfl, rfl⟩
    · exact z_throw Z hlt (text := "no such entry") (names := zNames) (by decide +kernel) zNames_fit st_100 (at_IndexOutOfBoundsException _) d_key_24 d_key_27 d_key_28 d_key_30 d_key_33 (ht _) (by decide) (by decide) (by decide) (by decide) (by decide) (by decide) ⟨rfl, Or.inr (Or.inr ⟨rfl, (isT_nI hc).mpr hb, ⟨c, hc, rfl, h7, fun ⟨j, hj, q⟩ => h21 (by rw [q]; exact nI_lt hj (by omega))⟩⟩)⟩
set_option maxHeartbeats 4000000 in
set_option maxRecDepth 100000 in
theorem c_guard {l : Launch} {D : va_G} {cI cB cL : ClassId} {h : Nat → Nat} {σ : St} (hlt : l.stackTraces = false) {x a r : Int32} : zMet l y_guard w_guard rm_guard D zCl (zTy cI cB cL) (wx h cI σ) [.ref (h 0), .int x, .int a, .int r] (qv (wx h cI) (fun u => ∃ c i j, c < 24 ∧ x = nI c ∧ bt (σ 0 0) c = true ∧ i < 4 ∧ a = nI i ∧ j < 6 ∧ r = nI j ∧ σ 7 c = 0 ∧ u = grd σ c a r) (fun E u => u = σ ∧ ((E = "java/util/NoSuchElementException" ∧ ¬ isT σ x) ∨ (E = "java/lang/IllegalArgumentException" ∧ isT σ x ∧ ¬ isA a) ∨ (E = "java/lang/IndexOutOfBoundsException" ∧ isT σ x ∧ isA a ∧ ¬ isR r) ∨ (E = "java/lang/IllegalStateException" ∧ isT σ x ∧ isA a ∧ isR r ∧ ∃ c, c < 24 ∧ x = nI c ∧ ¬ σ 7 c = 0)))) 0 0 1 6 := by
  refine z_meth (by decide) rfl (Nat.le_of_ble_eq_true rfl) (fun p e s mm as bl me cd Z hr hnm ht => ?_)
  refine z_aload_n Z 0 d_guard_0 rfl rfl ?_
  refine z_iload_n Z 1 d_guard_1 rfl rfl ?_
  refine z_Wv0 Z (c_requireThing hlt) (ok_requireThing _) rfl rfl ⟨by decide, by decide⟩ rfl rfl rfl rfl (Nat.le_of_ble_eq_true rfl) d_guard_2 ⟨by decide, by decide⟩ (fun E h => z_out Z (ht _) (by decide) (by decide) ⟨σ, rfl, rfl, Or.inl h⟩) (fun h2 => ?_)
  obtain ⟨c, hc, rfl, hb⟩ := h2
  refine z_iload_n Z 2 d_guard_5 rfl rfl ?_
  refine z_if_lt Z 14 d_guard_6 (by decide) (fun h6 => ?_) (fun h6 => ?_)
  · exact z_throw Z hlt (text := "no such action") (names := zNames) (by decide +kernel) zNames_fit st_106 (at_IllegalArgumentException _) d_guard_14 d_guard_17 d_guard_18 d_guard_20 d_guard_23 (ht _) (by decide) (by decide) (by decide) (by decide) (by decide) (by decide) ⟨σ, rfl, rfl, Or.inr (Or.inl ⟨rfl, (isT_nI hc).mpr hb, fun ⟨i, hi, q⟩ => nI_pos (by omega) (q ▸ h6)⟩)⟩
  · refine z_iload_n Z 2 d_guard_9 rfl rfl ?_
    refine z_iconst Z (nI 3) d_guard_10 zi_3 ?_
    refine z_icmp_le Z 24 d_guard_11 (by decide) (fun h11 => ?_) (fun h11 => ?_)
    · obtain ⟨i, hi, rfl⟩ := inLe h6 h11
      refine z_aload_n Z 0 d_guard_24 rfl rfl ?_
      refine z_iload_n Z 3 d_guard_25 rfl rfl ?_
      refine z_Wv0 Z (c_requireRoot hlt) (ok_requireRoot _) rfl rfl ⟨by decide, by decide⟩ rfl rfl rfl rfl (Nat.le_of_ble_eq_true rfl) d_guard_26 ⟨by decide, by decide⟩ (fun E h => z_out Z (ht _) (by decide) (by decide) ⟨σ, rfl, rfl, Or.inr (Or.inr (Or.inl ⟨h.1, (isT_nI hc).mpr hb, ⟨i, by omega, rfl⟩, h.2⟩))⟩) (fun h26 => ?_)
      obtain ⟨j, hj, rfl⟩ := h26
      refine z_aload_n Z 0 d_guard_29 rfl rfl ?_
      refine xg_7 Z d_guard_30 ?_
      refine z_iload_n Z 1 d_guard_33 rfl rfl ?_
      refine xl_7 Z (by omega) d_guard_34 ?_
      refine z_if_eq Z 48 d_guard_35 (by decide) (fun h35 => ?_) (fun h35 => ?_)
      · refine z_aload_n Z 0 d_guard_48 rfl rfl ?_
        refine xg_7 Z d_guard_49 ?_
        refine z_iload_n Z 1 d_guard_52 rfl rfl ?_
        refine z_iconst Z (nI 1) d_guard_53 zi_1 ?_
        refine xs_7 Z (by omega) d_guard_54 ?_
        refine z_aload_n Z 0 d_guard_55 rfl rfl ?_
        refine xg_8 Z d_guard_56 ?_
        refine z_iload_n Z 1 d_guard_59 rfl rfl ?_
        refine z_iload_n Z 2 d_guard_60 rfl rfl ?_
        refine xs_8 Z (by omega) d_guard_61 ?_
        refine z_aload_n Z 0 d_guard_62 rfl rfl ?_
        refine xg_9 Z d_guard_63 ?_
        refine z_iload_n Z 1 d_guard_66 rfl rfl ?_
        refine z_iload_n Z 3 d_guard_67 rfl rfl ?_
        refine xs_9 Z (by omega) d_guard_68 ?_
        refine z_rv Z _ hr d_guard_69 (by decide) (by decide) rfl ?_
        exact ⟨c, i, j, hc, rfl, hb, by omega, rfl, hj, rfl, h35, rfl⟩
      · exact z_throw Z hlt (text := "the thing has a finaliser") (names := zNames) (by decide +kernel) zNames_fit st_108 (at_IllegalStateException _) d_guard_38 d_guard_41 d_guard_42 d_guard_44 d_guard_47 (ht _) (by decide) (by decide) (by decide) (by decide) (by decide) (by decide) ⟨σ, rfl, rfl, Or.inr (Or.inr (Or.inr ⟨rfl, (isT_nI hc).mpr hb, ⟨i, by omega, rfl⟩, ⟨j, hj, rfl⟩, c, hc, rfl, h35⟩))⟩
    · exact z_throw Z hlt (text := "no such action") (names := zNames) (by decide +kernel) zNames_fit st_106 (at_IllegalArgumentException _) d_guard_14 d_guard_17 d_guard_18 d_guard_20 d_guard_23 (ht _) (by decide) (by decide) (by decide) (by decide) (by decide) (by decide) ⟨σ, rfl, rfl, Or.inr (Or.inl ⟨rfl, (isT_nI hc).mpr hb, fun ⟨i, hi, q⟩ => h11 (by rw [q]; exact nI_le (by omega) (by decide))⟩)⟩
set_option maxHeartbeats 4000000 in
set_option maxRecDepth 100000 in
theorem c_run {l : Launch} {D : va_G} {cI cB cL : ClassId} {h : Nat → Nat} {σ : St} (hlt : l.stackTraces = false) (hw : wf σ) (h8 : ∀ c, c < 24 → ∃ a, a < 4 ∧ σ 8 c = nI a) {w : Nat} (hw24 : w ≤ 24) (ew : σ 0 1 = nI w) : zMet l y_run w_run rm_run D zCl (zTy cI cB cL) (wx h cI σ) [.ref (h 0)] (qi (wx h cI) (fun v u => ∃ w0 c a, w = w0 + 1 ∧ c < 24 ∧ σ 11 0 = nI c ∧ a < 4 ∧ σ 8 c = nI a ∧ v = nI c ∧ u = act (va_up (deq σ w0) 7 (upd (σ 7) c (nI 3))) c a) (fun E u => u = σ ∧ E = "java/util/NoSuchElementException" ∧ w = 0)) 0 0 1 6 := by
  refine z_meth (by decide) rfl (Nat.le_of_ble_eq_true rfl) (fun p e s mm as bl me cd Z hr hnm ht => ?_)
  refine z_aload_n Z 0 d_run_0 rfl rfl ?_
  refine xn_1 Z d_run_1 ?_
  refine z_eqi ew ?_
  refine z_if_ne Z 17 d_run_4 (by decide) (fun h4 => ?_) (fun h4 => ?_)
  · obtain ⟨w0, rfl⟩ : ∃ w0, w = w0 + 1 := ⟨w - 1, by rcases Nat.eq_zero_or_pos w with q | q; exact absurd (by rw [q]; rfl) h4; omega⟩
    obtain ⟨c, hc, ec⟩ := hw.2.2.2.2.2.2.1 0 (by decide)
    obtain ⟨a, ha, ea⟩ := h8 c hc
    refine z_aload_n Z 0 d_run_17 rfl rfl ?_
    refine z_Wi Z (c_takeFirstQueued hw (by omega) ew) (ok_takeFirstQueued _) rfl rfl ⟨by decide, by decide⟩ rfl rfl rfl rfl (Nat.le_of_ble_eq_true rfl) d_run_18 ⟨by decide, by decide⟩ (fun E u h => h.elim) (fun v18 u18 h18 => ?_)
    obtain ⟨h18a, h18b⟩ := h18
    subst h18b
    rw [ec] at h18a
    subst h18a
    refine z_istore_n Z 1 d_run_21 rfl (by decide) rfl ?_
    refine z_aload_n Z 0 d_run_22 rfl rfl ?_
    refine xg_7 Z d_run_23 ?_
    refine z_iload_n Z 1 d_run_26 rfl rfl ?_
    refine z_iconst Z (nI 3) d_run_27 zi_3 ?_
    refine xs_7 Z (by omega) d_run_28 ?_
    refine z_aload_n Z 0 d_run_29 rfl rfl ?_
    refine z_iload_n Z 1 d_run_30 rfl rfl ?_
    refine z_Wv Z (c_performAction (wf_run hw (by omega)) hc (a := a) ea ha) (ok_performAction _) rfl rfl ⟨by decide, by decide⟩ rfl rfl rfl rfl (Nat.le_of_ble_eq_true rfl) d_run_31 ⟨by decide, by decide⟩ (fun E u h => h.elim) (fun u31 h31 => ?_)
    subst h31
    refine z_iload_n Z 1 d_run_34 rfl rfl ?_
    refine z_ri Z _ hr rfl d_run_35 (by decide) (by decide) rfl ?_
    exact ⟨w0, c, a, rfl, hc, ec, ha, ea, rfl, rfl⟩
  · exact z_throw Z hlt (text := "the queue is empty") (names := zNames) (by decide +kernel) zNames_fit st_143 (at_NoSuchElementException _) d_run_7 d_run_10 d_run_11 d_run_13 d_run_16 (ht _) (by decide) (by decide) (by decide) (by decide) (by decide) (by decide) ⟨σ, rfl, rfl, rfl, nI_z hw24 h4⟩
set_option maxHeartbeats 4000000 in
set_option maxRecDepth 100000 in
theorem c_make {l : Launch} {D : va_G} {cI cB cL : ClassId} {h : Nat → Nat} {σ : St} (hlt : l.stackTraces = false) (hw : wf σ) (hq : qI σ) {k : Int32} : zMet l y_make w_make rm_make D zCl (zTy cI cB cL) (wx h cI σ) [.ref (h 0), .int k] (qi (wx h cI) (fun v u => isK k ∧ ((∃ c, lf σ c ∧ v = nI c ∧ u = plc σ c k) ∨ (full σ ∧ ∃ v1 σ1 c, colX σ v1 σ1 ∧ lf σ1 c ∧ v = nI c ∧ u = plc σ1 c k))) (fun E u => (E = "java/lang/IllegalArgumentException" ∧ ¬ isK k ∧ u = σ) ∨ (E = "java/lang/IllegalStateException" ∧ isK k ∧ full σ ∧ ∃ v1, colX σ v1 u ∧ full u))) 0 0 1 6 := by
  refine z_meth (by decide) rfl (Nat.le_of_ble_eq_true rfl) (fun p e s mm as bl me cd Z hr hnm ht => ?_)
  refine z_iload_n Z 1 d_make_0 rfl rfl ?_
  refine z_if_lt Z 9 d_make_1 (by decide) (fun h1 => ?_) (fun h1 => ?_)
  · exact z_throw Z hlt (text := "no such kind") (names := zNames) (by decide +kernel) zNames_fit st_45 (at_IllegalArgumentException _) d_make_9 d_make_12 d_make_13 d_make_15 d_make_18 (ht _) (by decide) (by decide) (by decide) (by decide) (by decide) (by decide) ⟨σ, rfl, Or.inl ⟨rfl, fun ⟨i, hi, q⟩ => nI_pos (by omega) (q ▸ h1), rfl⟩⟩
  · refine z_iload_n Z 1 d_make_4 rfl rfl ?_
    refine z_iconst Z (nI 2) d_make_5 zi_2 ?_
    refine z_icmp_le Z 19 d_make_6 (by decide) (fun h6 => ?_) (fun h6 => ?_)
    · have hk : isK k := isK_of h1 h6
      refine z_aload_n Z 0 d_make_19 rfl rfl ?_
      refine z_Wi0 Z (c_leastFreeCell ) (ok_leastFreeCell _) rfl rfl ⟨by decide, by decide⟩ rfl rfl rfl rfl (Nat.le_of_ble_eq_true rfl) d_make_20 ⟨by decide, by decide⟩ (fun E h => h.elim) (fun v20 h20 => ?_)
      refine z_istore_n Z 2 d_make_23 rfl (by decide) rfl ?_
      refine z_iload_n Z 2 d_make_24 rfl rfl ?_
      refine z_iconst Z (-1) d_make_25 zi_m1 ?_
      refine z_icmp_ne Z 39 d_make_26 (by decide) (fun h26 => ?_) (fun h26 => ?_)
      · refine z_iload_n Z 2 d_make_39 rfl rfl ?_
        refine z_iconst Z (-1) d_make_40 zi_m1 ?_
        refine z_icmp_ne Z 54 d_make_41 (by decide) (fun h41 => ?_) (fun hx => absurd hx h26)
        obtain ⟨c, hlf, rfl⟩ := lf_some h20 h26
        have hc : c < 24 := hlf.1
        refine z_aload_n Z 0 d_make_54 rfl rfl ?_
        refine z_iload_n Z 2 d_make_55 rfl rfl ?_
        refine z_iload_n Z 1 d_make_56 rfl rfl ?_
        refine z_Wv Z (c_placeThing hc) (ok_placeThing _) rfl rfl ⟨by decide, by decide⟩ rfl rfl rfl rfl (Nat.le_of_ble_eq_true rfl) d_make_57 ⟨by decide, by decide⟩ (fun E u h => h.elim) (fun u57 h57 => ?_)
        subst h57
        refine z_iload_n Z 2 d_make_60 rfl rfl ?_
        refine z_ri Z _ hr rfl d_make_61 (by decide) (by decide) rfl ?_
        exact ⟨hk, Or.inl ⟨c, hlf, rfl, rfl⟩⟩
      · refine z_aload_n Z 0 d_make_29 rfl rfl ?_
        refine z_Wi Z (c_collect hw hq) (ok_collect _) rfl rfl ⟨by decide, by decide⟩ rfl rfl rfl rfl (Nat.le_of_ble_eq_true rfl) d_make_30 ⟨by decide, by decide⟩ (fun E u h => h.elim) (fun v30 u30 h30 => ?_)
        refine z_pop Z d_make_33 ?_
        refine z_aload_n Z 0 d_make_34 rfl rfl ?_
        refine z_Wi0 Z (c_leastFreeCell ) (ok_leastFreeCell _) rfl rfl ⟨by decide, by decide⟩ rfl rfl rfl rfl (Nat.le_of_ble_eq_true rfl) d_make_35 ⟨by decide, by decide⟩ (fun E h => h.elim) (fun v35 h35 => ?_)
        refine z_istore_n Z 2 d_make_38 rfl (by decide) rfl ?_
        refine z_iload_n Z 2 d_make_39 rfl rfl ?_
        refine z_iconst Z (-1) d_make_40 zi_m1 ?_
        refine z_icmp_ne Z 54 d_make_41 (by decide) (fun h41 => ?_) (fun h41 => ?_)
        · obtain ⟨c, hlf, rfl⟩ := lf_some h35 h41
          have hc : c < 24 := hlf.1
          refine z_aload_n Z 0 d_make_54 rfl rfl ?_
          refine z_iload_n Z 2 d_make_55 rfl rfl ?_
          refine z_iload_n Z 1 d_make_56 rfl rfl ?_
          refine z_Wv Z (c_placeThing hc) (ok_placeThing _) rfl rfl ⟨by decide, by decide⟩ rfl rfl rfl rfl (Nat.le_of_ble_eq_true rfl) d_make_57 ⟨by decide, by decide⟩ (fun E u h => h.elim) (fun u57 h57 => ?_)
          subst h57
          refine z_iload_n Z 2 d_make_60 rfl rfl ?_
          refine z_ri Z _ hr rfl d_make_61 (by decide) (by decide) rfl ?_
          exact ⟨hk, Or.inr ⟨lf_none h20 h26, v30, u30, c, h30, hlf, rfl, rfl⟩⟩
        · exact z_throw Z hlt (text := "no cell is free") (names := zNames) (by decide +kernel) zNames_fit st_59 (at_IllegalStateException _) d_make_44 d_make_47 d_make_48 d_make_50 d_make_53 (ht _) (by decide) (by decide) (by decide) (by decide) (by decide) (by decide) ⟨u30, rfl, Or.inr ⟨rfl, hk, lf_none h20 h26, v30, h30, lf_none h35 h41⟩⟩
    · exact z_throw Z hlt (text := "no such kind") (names := zNames) (by decide +kernel) zNames_fit st_45 (at_IllegalArgumentException _) d_make_9 d_make_12 d_make_13 d_make_15 d_make_18 (ht _) (by decide) (by decide) (by decide) (by decide) (by decide) (by decide) ⟨σ, rfl, Or.inl ⟨rfl, fun ⟨i, hi, q⟩ => h6 (by rw [q]; exact nI_le (by omega) (by decide)), rfl⟩⟩
end
section
theorem d_m_init_0 : decode b_m_init 0 = .ok (.aload_n 0, 1) := by decide +kernel
theorem d_m_init_1 : decode b_m_init 1 = .ok (.invokespecial 1, 3) := by decide +kernel
theorem d_m_init_4 : decode b_m_init 4 = .ok (.aload_n 0, 1) := by decide +kernel
theorem d_m_init_5 : decode b_m_init 5 = .ok (.bipush 24, 2) := by decide +kernel
theorem d_m_init_7 : decode b_m_init 7 = .ok (.newarray .int, 2) := by decide +kernel
theorem d_m_init_9 : decode b_m_init 9 = .ok (.putfield 7, 3) := by decide +kernel
theorem d_m_init_12 : decode b_m_init 12 = .ok (.aload_n 0, 1) := by decide +kernel
theorem d_m_init_13 : decode b_m_init 13 = .ok (.bipush 24, 2) := by decide +kernel
theorem d_m_init_15 : decode b_m_init 15 = .ok (.newarray .int, 2) := by decide +kernel
theorem d_m_init_17 : decode b_m_init 17 = .ok (.putfield 13, 3) := by decide +kernel
theorem d_m_init_20 : decode b_m_init 20 = .ok (.aload_n 0, 1) := by decide +kernel
theorem d_m_init_21 : decode b_m_init 21 = .ok (.bipush 72, 2) := by decide +kernel
theorem d_m_init_23 : decode b_m_init 23 = .ok (.newarray .int, 2) := by decide +kernel
theorem d_m_init_25 : decode b_m_init 25 = .ok (.putfield 16, 3) := by decide +kernel
theorem d_m_init_28 : decode b_m_init 28 = .ok (.aload_n 0, 1) := by decide +kernel
theorem d_m_init_29 : decode b_m_init 29 = .ok (.bipush 24, 2) := by decide +kernel
theorem d_m_init_31 : decode b_m_init 31 = .ok (.newarray .int, 2) := by decide +kernel
theorem d_m_init_33 : decode b_m_init 33 = .ok (.putfield 19, 3) := by decide +kernel
theorem d_m_init_36 : decode b_m_init 36 = .ok (.aload_n 0, 1) := by decide +kernel
theorem d_m_init_37 : decode b_m_init 37 = .ok (.bipush 96, 2) := by decide +kernel
theorem d_m_init_39 : decode b_m_init 39 = .ok (.newarray .int, 2) := by decide +kernel
theorem d_m_init_41 : decode b_m_init 41 = .ok (.putfield 22, 3) := by decide +kernel
theorem d_m_init_44 : decode b_m_init 44 = .ok (.aload_n 0, 1) := by decide +kernel
theorem d_m_init_45 : decode b_m_init 45 = .ok (.bipush 96, 2) := by decide +kernel
theorem d_m_init_47 : decode b_m_init 47 = .ok (.newarray .int, 2) := by decide +kernel
theorem d_m_init_49 : decode b_m_init 49 = .ok (.putfield 25, 3) := by decide +kernel
theorem d_m_init_52 : decode b_m_init 52 = .ok (.aload_n 0, 1) := by decide +kernel
theorem d_m_init_53 : decode b_m_init 53 = .ok (.bipush 24, 2) := by decide +kernel
theorem d_m_init_55 : decode b_m_init 55 = .ok (.newarray .int, 2) := by decide +kernel
theorem d_m_init_57 : decode b_m_init 57 = .ok (.putfield 28, 3) := by decide +kernel
theorem d_m_init_60 : decode b_m_init 60 = .ok (.aload_n 0, 1) := by decide +kernel
theorem d_m_init_61 : decode b_m_init 61 = .ok (.bipush 24, 2) := by decide +kernel
theorem d_m_init_63 : decode b_m_init 63 = .ok (.newarray .int, 2) := by decide +kernel
theorem d_m_init_65 : decode b_m_init 65 = .ok (.putfield 31, 3) := by decide +kernel
theorem d_m_init_68 : decode b_m_init 68 = .ok (.aload_n 0, 1) := by decide +kernel
theorem d_m_init_69 : decode b_m_init 69 = .ok (.bipush 24, 2) := by decide +kernel
theorem d_m_init_71 : decode b_m_init 71 = .ok (.newarray .int, 2) := by decide +kernel
theorem d_m_init_73 : decode b_m_init 73 = .ok (.putfield 34, 3) := by decide +kernel
theorem d_m_init_76 : decode b_m_init 76 = .ok (.aload_n 0, 1) := by decide +kernel
theorem d_m_init_77 : decode b_m_init 77 = .ok (.bipush 6, 2) := by decide +kernel
theorem d_m_init_79 : decode b_m_init 79 = .ok (.newarray .int, 2) := by decide +kernel
theorem d_m_init_81 : decode b_m_init 81 = .ok (.putfield 37, 3) := by decide +kernel
theorem d_m_init_84 : decode b_m_init 84 = .ok (.aload_n 0, 1) := by decide +kernel
theorem d_m_init_85 : decode b_m_init 85 = .ok (.bipush 24, 2) := by decide +kernel
theorem d_m_init_87 : decode b_m_init 87 = .ok (.newarray .int, 2) := by decide +kernel
theorem d_m_init_89 : decode b_m_init 89 = .ok (.putfield 40, 3) := by decide +kernel
theorem d_m_init_92 : decode b_m_init 92 = .ok (.aload_n 0, 1) := by decide +kernel
theorem d_m_init_93 : decode b_m_init 93 = .ok (.bipush 24, 2) := by decide +kernel
theorem d_m_init_95 : decode b_m_init 95 = .ok (.newarray .boolean, 2) := by decide +kernel
theorem d_m_init_97 : decode b_m_init 97 = .ok (.putfield 43, 3) := by decide +kernel
theorem d_m_init_100 : decode b_m_init 100 = .ok (.iconst 0, 1) := by decide +kernel
theorem d_m_init_101 : decode b_m_init 101 = .ok (.istore_n 1, 1) := by decide +kernel
theorem d_m_init_102 : decode b_m_init 102 = .ok (.iload_n 1, 1) := by decide +kernel
theorem d_m_init_103 : decode b_m_init 103 = .ok (.bipush 24, 2) := by decide +kernel
theorem d_m_init_105 : decode b_m_init 105 = .ok (.if_icmp .ge 16, 3) := by decide +kernel
theorem d_m_init_108 : decode b_m_init 108 = .ok (.aload_n 0, 1) := by decide +kernel
theorem d_m_init_109 : decode b_m_init 109 = .ok (.getfield 7, 3) := by decide +kernel
theorem d_m_init_112 : decode b_m_init 112 = .ok (.iload_n 1, 1) := by decide +kernel
theorem d_m_init_113 : decode b_m_init 113 = .ok (.iconst (-1), 1) := by decide +kernel
theorem d_m_init_114 : decode b_m_init 114 = .ok (.iastore, 1) := by decide +kernel
theorem d_m_init_115 : decode b_m_init 115 = .ok (.iinc 1 1, 3) := by decide +kernel
theorem d_m_init_118 : decode b_m_init 118 = .ok (.goto (-16), 3) := by decide +kernel
theorem d_m_init_121 : decode b_m_init 121 = .ok (.iconst 0, 1) := by decide +kernel
theorem d_m_init_122 : decode b_m_init 122 = .ok (.istore_n 1, 1) := by decide +kernel
theorem d_m_init_123 : decode b_m_init 123 = .ok (.iload_n 1, 1) := by decide +kernel
theorem d_m_init_124 : decode b_m_init 124 = .ok (.bipush 6, 2) := by decide +kernel
theorem d_m_init_126 : decode b_m_init 126 = .ok (.if_icmp .ge 16, 3) := by decide +kernel
theorem d_m_init_129 : decode b_m_init 129 = .ok (.aload_n 0, 1) := by decide +kernel
theorem d_m_init_130 : decode b_m_init 130 = .ok (.getfield 37, 3) := by decide +kernel
theorem d_m_init_133 : decode b_m_init 133 = .ok (.iload_n 1, 1) := by decide +kernel
theorem d_m_init_134 : decode b_m_init 134 = .ok (.iconst (-1), 1) := by decide +kernel
theorem d_m_init_135 : decode b_m_init 135 = .ok (.iastore, 1) := by decide +kernel
theorem d_m_init_136 : decode b_m_init 136 = .ok (.iinc 1 1, 3) := by decide +kernel
theorem d_m_init_139 : decode b_m_init 139 = .ok (.goto (-16), 3) := by decide +kernel
theorem d_m_init_142 : decode b_m_init 142 = .ok (.return_, 1) := by decide +kernel
theorem d_m_thrown_0 : decode b_m_thrown 0 = .ok (.aload_n 0, 1) := by decide +kernel
theorem d_m_thrown_1 : decode b_m_thrown 1 = .ok (.getfield 47, 3) := by decide +kernel
theorem d_m_thrown_4 : decode b_m_thrown 4 = .ok (.ireturn, 1) := by decide +kernel
theorem d_m_isThing_0 : decode b_m_isThing 0 = .ok (.iload_n 1, 1) := by decide +kernel
theorem d_m_isThing_1 : decode b_m_isThing 1 = .ok (.ifCond .lt 22, 3) := by decide +kernel
theorem d_m_isThing_4 : decode b_m_isThing 4 = .ok (.iload_n 1, 1) := by decide +kernel
theorem d_m_isThing_5 : decode b_m_isThing 5 = .ok (.bipush 24, 2) := by decide +kernel
theorem d_m_isThing_7 : decode b_m_isThing 7 = .ok (.if_icmp .ge 16, 3) := by decide +kernel
theorem d_m_isThing_10 : decode b_m_isThing 10 = .ok (.aload_n 0, 1) := by decide +kernel
theorem d_m_isThing_11 : decode b_m_isThing 11 = .ok (.getfield 7, 3) := by decide +kernel
theorem d_m_isThing_14 : decode b_m_isThing 14 = .ok (.iload_n 1, 1) := by decide +kernel
theorem d_m_isThing_15 : decode b_m_isThing 15 = .ok (.iaload, 1) := by decide +kernel
theorem d_m_isThing_16 : decode b_m_isThing 16 = .ok (.ifCond .lt 7, 3) := by decide +kernel
theorem d_m_isThing_19 : decode b_m_isThing 19 = .ok (.iconst 1, 1) := by decide +kernel
theorem d_m_isThing_20 : decode b_m_isThing 20 = .ok (.goto 4, 3) := by decide +kernel
theorem d_m_isThing_23 : decode b_m_isThing 23 = .ok (.iconst 0, 1) := by decide +kernel
theorem d_m_isThing_24 : decode b_m_isThing 24 = .ok (.ireturn, 1) := by decide +kernel
theorem d_m_isRoot_0 : decode b_m_isRoot 0 = .ok (.iload_n 0, 1) := by decide +kernel
theorem d_m_isRoot_1 : decode b_m_isRoot 1 = .ok (.ifCond .lt 13, 3) := by decide +kernel
theorem d_m_isRoot_4 : decode b_m_isRoot 4 = .ok (.iload_n 0, 1) := by decide +kernel
theorem d_m_isRoot_5 : decode b_m_isRoot 5 = .ok (.bipush 6, 2) := by decide +kernel
theorem d_m_isRoot_7 : decode b_m_isRoot 7 = .ok (.if_icmp .ge 7, 3) := by decide +kernel
theorem d_m_isRoot_10 : decode b_m_isRoot 10 = .ok (.iconst 1, 1) := by decide +kernel
theorem d_m_isRoot_11 : decode b_m_isRoot 11 = .ok (.goto 4, 3) := by decide +kernel
theorem d_m_isRoot_14 : decode b_m_isRoot 14 = .ok (.iconst 0, 1) := by decide +kernel
theorem d_m_isRoot_15 : decode b_m_isRoot 15 = .ok (.ireturn, 1) := by decide +kernel
theorem d_m_isField_0 : decode b_m_isField 0 = .ok (.iload_n 2, 1) := by decide +kernel
theorem d_m_isField_1 : decode b_m_isField 1 = .ok (.ifCond .lt 35, 3) := by decide +kernel
theorem d_m_isField_4 : decode b_m_isField 4 = .ok (.aload_n 0, 1) := by decide +kernel
theorem d_m_isField_5 : decode b_m_isField 5 = .ok (.getfield 7, 3) := by decide +kernel
theorem d_m_isField_8 : decode b_m_isField 8 = .ok (.iload_n 1, 1) := by decide +kernel
theorem d_m_isField_9 : decode b_m_isField 9 = .ok (.iaload, 1) := by decide +kernel
theorem d_m_isField_10 : decode b_m_isField 10 = .ok (.ifCond .ne 8, 3) := by decide +kernel
theorem d_m_isField_13 : decode b_m_isField 13 = .ok (.iload_n 2, 1) := by decide +kernel
theorem d_m_isField_14 : decode b_m_isField 14 = .ok (.iconst 3, 1) := by decide +kernel
theorem d_m_isField_15 : decode b_m_isField 15 = .ok (.if_icmp .lt 17, 3) := by decide +kernel
theorem d_m_isField_18 : decode b_m_isField 18 = .ok (.aload_n 0, 1) := by decide +kernel
theorem d_m_isField_19 : decode b_m_isField 19 = .ok (.getfield 7, 3) := by decide +kernel
theorem d_m_isField_22 : decode b_m_isField 22 = .ok (.iload_n 1, 1) := by decide +kernel
theorem d_m_isField_23 : decode b_m_isField 23 = .ok (.iaload, 1) := by decide +kernel
theorem d_m_isField_24 : decode b_m_isField 24 = .ok (.iconst 1, 1) := by decide +kernel
theorem d_m_isField_25 : decode b_m_isField 25 = .ok (.if_icmp .ne 11, 3) := by decide +kernel
theorem d_m_isField_28 : decode b_m_isField 28 = .ok (.iload_n 2, 1) := by decide +kernel
theorem d_m_isField_29 : decode b_m_isField 29 = .ok (.ifCond .ne 7, 3) := by decide +kernel
theorem d_m_isField_32 : decode b_m_isField 32 = .ok (.iconst 1, 1) := by decide +kernel
theorem d_m_isField_33 : decode b_m_isField 33 = .ok (.goto 4, 3) := by decide +kernel
theorem d_m_isField_36 : decode b_m_isField 36 = .ok (.iconst 0, 1) := by decide +kernel
theorem d_m_isField_37 : decode b_m_isField 37 = .ok (.ireturn, 1) := by decide +kernel
theorem d_m_freeCell_0 : decode b_m_freeCell 0 = .ok (.iconst (-1), 1) := by decide +kernel
theorem d_m_freeCell_1 : decode b_m_freeCell 1 = .ok (.istore_n 1, 1) := by decide +kernel
theorem d_m_freeCell_2 : decode b_m_freeCell 2 = .ok (.bipush 23, 2) := by decide +kernel
theorem d_m_freeCell_4 : decode b_m_freeCell 4 = .ok (.istore_n 2, 1) := by decide +kernel
theorem d_m_freeCell_5 : decode b_m_freeCell 5 = .ok (.iload_n 2, 1) := by decide +kernel
theorem d_m_freeCell_6 : decode b_m_freeCell 6 = .ok (.ifCond .lt 24, 3) := by decide +kernel
theorem d_m_freeCell_9 : decode b_m_freeCell 9 = .ok (.aload_n 0, 1) := by decide +kernel
theorem d_m_freeCell_10 : decode b_m_freeCell 10 = .ok (.getfield 7, 3) := by decide +kernel
theorem d_m_freeCell_13 : decode b_m_freeCell 13 = .ok (.iload_n 2, 1) := by decide +kernel
theorem d_m_freeCell_14 : decode b_m_freeCell 14 = .ok (.iaload, 1) := by decide +kernel
theorem d_m_freeCell_15 : decode b_m_freeCell 15 = .ok (.ifCond .ge 7, 3) := by decide +kernel
theorem d_m_freeCell_18 : decode b_m_freeCell 18 = .ok (.iload_n 2, 1) := by decide +kernel
theorem d_m_freeCell_19 : decode b_m_freeCell 19 = .ok (.goto 4, 3) := by decide +kernel
theorem d_m_freeCell_22 : decode b_m_freeCell 22 = .ok (.iload_n 1, 1) := by decide +kernel
theorem d_m_freeCell_23 : decode b_m_freeCell 23 = .ok (.istore_n 1, 1) := by decide +kernel
theorem d_m_freeCell_24 : decode b_m_freeCell 24 = .ok (.iinc 2 (-1), 3) := by decide +kernel
theorem d_m_freeCell_27 : decode b_m_freeCell 27 = .ok (.goto (-22), 3) := by decide +kernel
theorem d_m_freeCell_30 : decode b_m_freeCell 30 = .ok (.iload_n 1, 1) := by decide +kernel
theorem d_m_freeCell_31 : decode b_m_freeCell 31 = .ok (.ireturn, 1) := by decide +kernel
theorem d_m_make_0 : decode b_m_make 0 = .ok (.aload_n 0, 1) := by decide +kernel
theorem d_m_make_1 : decode b_m_make 1 = .ok (.iload_n 1, 1) := by decide +kernel
theorem d_m_make_2 : decode b_m_make 2 = .ok (.ifCond .lt 8, 3) := by decide +kernel
theorem d_m_make_5 : decode b_m_make 5 = .ok (.iload_n 1, 1) := by decide +kernel
theorem d_m_make_6 : decode b_m_make 6 = .ok (.iconst 2, 1) := by decide +kernel
theorem d_m_make_7 : decode b_m_make 7 = .ok (.if_icmp .le 7, 3) := by decide +kernel
theorem d_m_make_10 : decode b_m_make 10 = .ok (.iconst 1, 1) := by decide +kernel
theorem d_m_make_11 : decode b_m_make 11 = .ok (.goto 4, 3) := by decide +kernel
theorem d_m_make_14 : decode b_m_make 14 = .ok (.iconst 0, 1) := by decide +kernel
theorem d_m_make_15 : decode b_m_make 15 = .ok (.putfield 47, 3) := by decide +kernel
theorem d_m_make_18 : decode b_m_make 18 = .ok (.aload_n 0, 1) := by decide +kernel
theorem d_m_make_19 : decode b_m_make 19 = .ok (.getfield 47, 3) := by decide +kernel
theorem d_m_make_22 : decode b_m_make 22 = .ok (.ifCond .le 5, 3) := by decide +kernel
theorem d_m_make_25 : decode b_m_make 25 = .ok (.iconst 0, 1) := by decide +kernel
theorem d_m_make_26 : decode b_m_make 26 = .ok (.ireturn, 1) := by decide +kernel
theorem d_m_make_27 : decode b_m_make 27 = .ok (.aload_n 0, 1) := by decide +kernel
theorem d_m_make_28 : decode b_m_make 28 = .ok (.invokevirtual 51, 3) := by decide +kernel
theorem d_m_make_31 : decode b_m_make 31 = .ok (.ifCond .ge 8, 3) := by decide +kernel
theorem d_m_make_34 : decode b_m_make 34 = .ok (.aload_n 0, 1) := by decide +kernel
theorem d_m_make_35 : decode b_m_make 35 = .ok (.invokevirtual 55, 3) := by decide +kernel
theorem d_m_make_38 : decode b_m_make 38 = .ok (.pop, 1) := by decide +kernel
theorem d_m_make_39 : decode b_m_make 39 = .ok (.aload_n 0, 1) := by decide +kernel
theorem d_m_make_40 : decode b_m_make 40 = .ok (.invokevirtual 51, 3) := by decide +kernel
theorem d_m_make_43 : decode b_m_make 43 = .ok (.istore_n 2, 1) := by decide +kernel
theorem d_m_make_44 : decode b_m_make 44 = .ok (.aload_n 0, 1) := by decide +kernel
theorem d_m_make_45 : decode b_m_make 45 = .ok (.iload_n 2, 1) := by decide +kernel
theorem d_m_make_46 : decode b_m_make 46 = .ok (.ifCond .ge 7, 3) := by decide +kernel
theorem d_m_make_49 : decode b_m_make 49 = .ok (.iconst 2, 1) := by decide +kernel
theorem d_m_make_50 : decode b_m_make 50 = .ok (.goto 4, 3) := by decide +kernel
theorem d_m_make_53 : decode b_m_make 53 = .ok (.iconst 0, 1) := by decide +kernel
theorem d_m_make_54 : decode b_m_make 54 = .ok (.putfield 47, 3) := by decide +kernel
theorem d_m_make_57 : decode b_m_make 57 = .ok (.aload_n 0, 1) := by decide +kernel
theorem d_m_make_58 : decode b_m_make 58 = .ok (.getfield 47, 3) := by decide +kernel
theorem d_m_make_61 : decode b_m_make 61 = .ok (.ifCond .le 5, 3) := by decide +kernel
theorem d_m_make_64 : decode b_m_make 64 = .ok (.iconst 0, 1) := by decide +kernel
theorem d_m_make_65 : decode b_m_make 65 = .ok (.ireturn, 1) := by decide +kernel
theorem d_m_make_66 : decode b_m_make 66 = .ok (.aload_n 0, 1) := by decide +kernel
theorem d_m_make_67 : decode b_m_make 67 = .ok (.dup, 1) := by decide +kernel
theorem d_m_make_68 : decode b_m_make 68 = .ok (.getfield 58, 3) := by decide +kernel
theorem d_m_make_71 : decode b_m_make 71 = .ok (.iconst 1, 1) := by decide +kernel
theorem d_m_make_72 : decode b_m_make 72 = .ok (.iadd, 1) := by decide +kernel
theorem d_m_make_73 : decode b_m_make 73 = .ok (.putfield 58, 3) := by decide +kernel
theorem d_m_make_76 : decode b_m_make 76 = .ok (.aload_n 0, 1) := by decide +kernel
theorem d_m_make_77 : decode b_m_make 77 = .ok (.getfield 7, 3) := by decide +kernel
theorem d_m_make_80 : decode b_m_make 80 = .ok (.iload_n 2, 1) := by decide +kernel
theorem d_m_make_81 : decode b_m_make 81 = .ok (.iload_n 1, 1) := by decide +kernel
theorem d_m_make_82 : decode b_m_make 82 = .ok (.iastore, 1) := by decide +kernel
theorem d_m_make_83 : decode b_m_make 83 = .ok (.aload_n 0, 1) := by decide +kernel
theorem d_m_make_84 : decode b_m_make 84 = .ok (.getfield 13, 3) := by decide +kernel
theorem d_m_make_87 : decode b_m_make 87 = .ok (.iload_n 2, 1) := by decide +kernel
theorem d_m_make_88 : decode b_m_make 88 = .ok (.aload_n 0, 1) := by decide +kernel
theorem d_m_make_89 : decode b_m_make 89 = .ok (.getfield 58, 3) := by decide +kernel
theorem d_m_make_92 : decode b_m_make 92 = .ok (.iastore, 1) := by decide +kernel
theorem d_m_make_93 : decode b_m_make 93 = .ok (.aload_n 0, 1) := by decide +kernel
theorem d_m_make_94 : decode b_m_make 94 = .ok (.getfield 28, 3) := by decide +kernel
theorem d_m_make_97 : decode b_m_make 97 = .ok (.iload_n 2, 1) := by decide +kernel
theorem d_m_make_98 : decode b_m_make 98 = .ok (.iconst 0, 1) := by decide +kernel
theorem d_m_make_99 : decode b_m_make 99 = .ok (.iastore, 1) := by decide +kernel
theorem d_m_make_100 : decode b_m_make 100 = .ok (.aload_n 0, 1) := by decide +kernel
theorem d_m_make_101 : decode b_m_make 101 = .ok (.iload_n 2, 1) := by decide +kernel
theorem d_m_make_102 : decode b_m_make 102 = .ok (.invokevirtual 61, 3) := by decide +kernel
theorem d_m_make_105 : decode b_m_make 105 = .ok (.iload_n 2, 1) := by decide +kernel
theorem d_m_make_106 : decode b_m_make 106 = .ok (.ireturn, 1) := by decide +kernel
theorem d_m_lose_0 : decode b_m_lose 0 = .ok (.iconst 0, 1) := by decide +kernel
theorem d_m_lose_1 : decode b_m_lose 1 = .ok (.istore_n 2, 1) := by decide +kernel
theorem d_m_lose_2 : decode b_m_lose 2 = .ok (.iload_n 2, 1) := by decide +kernel
theorem d_m_lose_3 : decode b_m_lose 3 = .ok (.iconst 3, 1) := by decide +kernel
theorem d_m_lose_4 : decode b_m_lose 4 = .ok (.if_icmp .ge 20, 3) := by decide +kernel
theorem d_m_lose_7 : decode b_m_lose 7 = .ok (.aload_n 0, 1) := by decide +kernel
theorem d_m_lose_8 : decode b_m_lose 8 = .ok (.getfield 16, 3) := by decide +kernel
theorem d_m_lose_11 : decode b_m_lose 11 = .ok (.iconst 3, 1) := by decide +kernel
theorem d_m_lose_12 : decode b_m_lose 12 = .ok (.iload_n 1, 1) := by decide +kernel
theorem d_m_lose_13 : decode b_m_lose 13 = .ok (.imul, 1) := by decide +kernel
theorem d_m_lose_14 : decode b_m_lose 14 = .ok (.iload_n 2, 1) := by decide +kernel
theorem d_m_lose_15 : decode b_m_lose 15 = .ok (.iadd, 1) := by decide +kernel
theorem d_m_lose_16 : decode b_m_lose 16 = .ok (.iconst (-1), 1) := by decide +kernel
theorem d_m_lose_17 : decode b_m_lose 17 = .ok (.iastore, 1) := by decide +kernel
theorem d_m_lose_18 : decode b_m_lose 18 = .ok (.iinc 2 1, 3) := by decide +kernel
theorem d_m_lose_21 : decode b_m_lose 21 = .ok (.goto (-19), 3) := by decide +kernel
theorem d_m_lose_24 : decode b_m_lose 24 = .ok (.aload_n 0, 1) := by decide +kernel
theorem d_m_lose_25 : decode b_m_lose 25 = .ok (.getfield 19, 3) := by decide +kernel
theorem d_m_lose_28 : decode b_m_lose 28 = .ok (.iload_n 1, 1) := by decide +kernel
theorem d_m_lose_29 : decode b_m_lose 29 = .ok (.iconst 0, 1) := by decide +kernel
theorem d_m_lose_30 : decode b_m_lose 30 = .ok (.iastore, 1) := by decide +kernel
theorem d_m_lose_31 : decode b_m_lose 31 = .ok (.return_, 1) := by decide +kernel
theorem d_m_set_0 : decode b_m_set 0 = .ok (.aload_n 0, 1) := by decide +kernel
theorem d_m_set_1 : decode b_m_set 1 = .ok (.aload_n 0, 1) := by decide +kernel
theorem d_m_set_2 : decode b_m_set 2 = .ok (.iload_n 1, 1) := by decide +kernel
theorem d_m_set_3 : decode b_m_set 3 = .ok (.invokevirtual 65, 3) := by decide +kernel
theorem d_m_set_6 : decode b_m_set 6 = .ok (.ifCond .eq 16, 3) := by decide +kernel
theorem d_m_set_9 : decode b_m_set 9 = .ok (.iload_n 3, 1) := by decide +kernel
theorem d_m_set_10 : decode b_m_set 10 = .ok (.iconst (-1), 1) := by decide +kernel
theorem d_m_set_11 : decode b_m_set 11 = .ok (.if_icmp .eq 15, 3) := by decide +kernel
theorem d_m_set_14 : decode b_m_set 14 = .ok (.aload_n 0, 1) := by decide +kernel
theorem d_m_set_15 : decode b_m_set 15 = .ok (.iload_n 3, 1) := by decide +kernel
theorem d_m_set_16 : decode b_m_set 16 = .ok (.invokevirtual 65, 3) := by decide +kernel
theorem d_m_set_19 : decode b_m_set 19 = .ok (.ifCond .ne 7, 3) := by decide +kernel
theorem d_m_set_22 : decode b_m_set 22 = .ok (.iconst 1, 1) := by decide +kernel
theorem d_m_set_23 : decode b_m_set 23 = .ok (.goto 17, 3) := by decide +kernel
theorem d_m_set_26 : decode b_m_set 26 = .ok (.aload_n 0, 1) := by decide +kernel
theorem d_m_set_27 : decode b_m_set 27 = .ok (.iload_n 1, 1) := by decide +kernel
theorem d_m_set_28 : decode b_m_set 28 = .ok (.iload_n 2, 1) := by decide +kernel
theorem d_m_set_29 : decode b_m_set 29 = .ok (.invokevirtual 69, 3) := by decide +kernel
theorem d_m_set_32 : decode b_m_set 32 = .ok (.ifCond .ne 7, 3) := by decide +kernel
theorem d_m_set_35 : decode b_m_set 35 = .ok (.iconst 2, 1) := by decide +kernel
theorem d_m_set_36 : decode b_m_set 36 = .ok (.goto 4, 3) := by decide +kernel
theorem d_m_set_39 : decode b_m_set 39 = .ok (.iconst 0, 1) := by decide +kernel
theorem d_m_set_40 : decode b_m_set 40 = .ok (.putfield 47, 3) := by decide +kernel
theorem d_m_set_43 : decode b_m_set 43 = .ok (.aload_n 0, 1) := by decide +kernel
theorem d_m_set_44 : decode b_m_set 44 = .ok (.getfield 47, 3) := by decide +kernel
theorem d_m_set_47 : decode b_m_set 47 = .ok (.ifCond .ne 14, 3) := by decide +kernel
theorem d_m_set_50 : decode b_m_set 50 = .ok (.aload_n 0, 1) := by decide +kernel
theorem d_m_set_51 : decode b_m_set 51 = .ok (.getfield 16, 3) := by decide +kernel
theorem d_m_set_54 : decode b_m_set 54 = .ok (.iconst 3, 1) := by decide +kernel
theorem d_m_set_55 : decode b_m_set 55 = .ok (.iload_n 1, 1) := by decide +kernel
theorem d_m_set_56 : decode b_m_set 56 = .ok (.imul, 1) := by decide +kernel
theorem d_m_set_57 : decode b_m_set 57 = .ok (.iload_n 2, 1) := by decide +kernel
theorem d_m_set_58 : decode b_m_set 58 = .ok (.iadd, 1) := by decide +kernel
theorem d_m_set_59 : decode b_m_set 59 = .ok (.iload_n 3, 1) := by decide +kernel
theorem d_m_set_60 : decode b_m_set 60 = .ok (.iastore, 1) := by decide +kernel
theorem d_m_set_61 : decode b_m_set 61 = .ok (.return_, 1) := by decide +kernel
theorem d_m_get_0 : decode b_m_get 0 = .ok (.aload_n 0, 1) := by decide +kernel
theorem d_m_get_1 : decode b_m_get 1 = .ok (.aload_n 0, 1) := by decide +kernel
theorem d_m_get_2 : decode b_m_get 2 = .ok (.iload_n 1, 1) := by decide +kernel
theorem d_m_get_3 : decode b_m_get 3 = .ok (.invokevirtual 65, 3) := by decide +kernel
theorem d_m_get_6 : decode b_m_get 6 = .ok (.ifCond .ne 7, 3) := by decide +kernel
theorem d_m_get_9 : decode b_m_get 9 = .ok (.iconst 1, 1) := by decide +kernel
theorem d_m_get_10 : decode b_m_get 10 = .ok (.goto 17, 3) := by decide +kernel
theorem d_m_get_13 : decode b_m_get 13 = .ok (.aload_n 0, 1) := by decide +kernel
theorem d_m_get_14 : decode b_m_get 14 = .ok (.iload_n 1, 1) := by decide +kernel
theorem d_m_get_15 : decode b_m_get 15 = .ok (.iload_n 2, 1) := by decide +kernel
theorem d_m_get_16 : decode b_m_get 16 = .ok (.invokevirtual 69, 3) := by decide +kernel
theorem d_m_get_19 : decode b_m_get 19 = .ok (.ifCond .ne 7, 3) := by decide +kernel
theorem d_m_get_22 : decode b_m_get 22 = .ok (.iconst 2, 1) := by decide +kernel
theorem d_m_get_23 : decode b_m_get 23 = .ok (.goto 4, 3) := by decide +kernel
theorem d_m_get_26 : decode b_m_get 26 = .ok (.iconst 0, 1) := by decide +kernel
theorem d_m_get_27 : decode b_m_get 27 = .ok (.putfield 47, 3) := by decide +kernel
theorem d_m_get_30 : decode b_m_get 30 = .ok (.aload_n 0, 1) := by decide +kernel
theorem d_m_get_31 : decode b_m_get 31 = .ok (.getfield 47, 3) := by decide +kernel
theorem d_m_get_34 : decode b_m_get 34 = .ok (.ifCond .le 7, 3) := by decide +kernel
theorem d_m_get_37 : decode b_m_get 37 = .ok (.iconst 0, 1) := by decide +kernel
theorem d_m_get_38 : decode b_m_get 38 = .ok (.goto 13, 3) := by decide +kernel
theorem d_m_get_41 : decode b_m_get 41 = .ok (.aload_n 0, 1) := by decide +kernel
theorem d_m_get_42 : decode b_m_get 42 = .ok (.getfield 16, 3) := by decide +kernel
theorem d_m_get_45 : decode b_m_get 45 = .ok (.iconst 3, 1) := by decide +kernel
theorem d_m_get_46 : decode b_m_get 46 = .ok (.iload_n 1, 1) := by decide +kernel
theorem d_m_get_47 : decode b_m_get 47 = .ok (.imul, 1) := by decide +kernel
theorem d_m_get_48 : decode b_m_get 48 = .ok (.iload_n 2, 1) := by decide +kernel
theorem d_m_get_49 : decode b_m_get 49 = .ok (.iadd, 1) := by decide +kernel
theorem d_m_get_50 : decode b_m_get 50 = .ok (.iaload, 1) := by decide +kernel
theorem d_m_get_51 : decode b_m_get 51 = .ok (.ireturn, 1) := by decide +kernel
theorem d_m_entryOf_0 : decode b_m_entryOf 0 = .ok (.iconst (-1), 1) := by decide +kernel
theorem d_m_entryOf_1 : decode b_m_entryOf 1 = .ok (.istore_n 3, 1) := by decide +kernel
theorem d_m_entryOf_2 : decode b_m_entryOf 2 = .ok (.iconst 0, 1) := by decide +kernel
theorem d_m_entryOf_3 : decode b_m_entryOf 3 = .ok (.istore 4, 2) := by decide +kernel
theorem d_m_entryOf_5 : decode b_m_entryOf 5 = .ok (.iload 4, 2) := by decide +kernel
theorem d_m_entryOf_7 : decode b_m_entryOf 7 = .ok (.aload_n 0, 1) := by decide +kernel
theorem d_m_entryOf_8 : decode b_m_entryOf 8 = .ok (.getfield 19, 3) := by decide +kernel
theorem d_m_entryOf_11 : decode b_m_entryOf 11 = .ok (.iload_n 1, 1) := by decide +kernel
theorem d_m_entryOf_12 : decode b_m_entryOf 12 = .ok (.iaload, 1) := by decide +kernel
theorem d_m_entryOf_13 : decode b_m_entryOf 13 = .ok (.if_icmp .ge 35, 3) := by decide +kernel
theorem d_m_entryOf_16 : decode b_m_entryOf 16 = .ok (.aload_n 0, 1) := by decide +kernel
theorem d_m_entryOf_17 : decode b_m_entryOf 17 = .ok (.getfield 22, 3) := by decide +kernel
theorem d_m_entryOf_20 : decode b_m_entryOf 20 = .ok (.iconst 4, 1) := by decide +kernel
theorem d_m_entryOf_21 : decode b_m_entryOf 21 = .ok (.iload_n 1, 1) := by decide +kernel
theorem d_m_entryOf_22 : decode b_m_entryOf 22 = .ok (.imul, 1) := by decide +kernel
theorem d_m_entryOf_23 : decode b_m_entryOf 23 = .ok (.iload 4, 2) := by decide +kernel
theorem d_m_entryOf_25 : decode b_m_entryOf 25 = .ok (.iadd, 1) := by decide +kernel
theorem d_m_entryOf_26 : decode b_m_entryOf 26 = .ok (.iaload, 1) := by decide +kernel
theorem d_m_entryOf_27 : decode b_m_entryOf 27 = .ok (.iload_n 2, 1) := by decide +kernel
theorem d_m_entryOf_28 : decode b_m_entryOf 28 = .ok (.if_icmp .ne 12, 3) := by decide +kernel
theorem d_m_entryOf_31 : decode b_m_entryOf 31 = .ok (.iconst 4, 1) := by decide +kernel
theorem d_m_entryOf_32 : decode b_m_entryOf 32 = .ok (.iload_n 1, 1) := by decide +kernel
theorem d_m_entryOf_33 : decode b_m_entryOf 33 = .ok (.imul, 1) := by decide +kernel
theorem d_m_entryOf_34 : decode b_m_entryOf 34 = .ok (.iload 4, 2) := by decide +kernel
theorem d_m_entryOf_36 : decode b_m_entryOf 36 = .ok (.iadd, 1) := by decide +kernel
theorem d_m_entryOf_37 : decode b_m_entryOf 37 = .ok (.goto 4, 3) := by decide +kernel
theorem d_m_entryOf_40 : decode b_m_entryOf 40 = .ok (.iload_n 3, 1) := by decide +kernel
theorem d_m_entryOf_41 : decode b_m_entryOf 41 = .ok (.istore_n 3, 1) := by decide +kernel
theorem d_m_entryOf_42 : decode b_m_entryOf 42 = .ok (.iinc 4 1, 3) := by decide +kernel
theorem d_m_entryOf_45 : decode b_m_entryOf 45 = .ok (.goto (-40), 3) := by decide +kernel
theorem d_m_entryOf_48 : decode b_m_entryOf 48 = .ok (.iload_n 3, 1) := by decide +kernel
theorem d_m_entryOf_49 : decode b_m_entryOf 49 = .ok (.ireturn, 1) := by decide +kernel
theorem d_m_dropEntry_0 : decode b_m_dropEntry 0 = .ok (.iload_n 2, 1) := by decide +kernel
theorem d_m_dropEntry_1 : decode b_m_dropEntry 1 = .ok (.istore_n 3, 1) := by decide +kernel
theorem d_m_dropEntry_2 : decode b_m_dropEntry 2 = .ok (.iload_n 3, 1) := by decide +kernel
theorem d_m_dropEntry_3 : decode b_m_dropEntry 3 = .ok (.iconst 1, 1) := by decide +kernel
theorem d_m_dropEntry_4 : decode b_m_dropEntry 4 = .ok (.iadd, 1) := by decide +kernel
theorem d_m_dropEntry_5 : decode b_m_dropEntry 5 = .ok (.iconst 4, 1) := by decide +kernel
theorem d_m_dropEntry_6 : decode b_m_dropEntry 6 = .ok (.iload_n 1, 1) := by decide +kernel
theorem d_m_dropEntry_7 : decode b_m_dropEntry 7 = .ok (.imul, 1) := by decide +kernel
theorem d_m_dropEntry_8 : decode b_m_dropEntry 8 = .ok (.aload_n 0, 1) := by decide +kernel
theorem d_m_dropEntry_9 : decode b_m_dropEntry 9 = .ok (.getfield 19, 3) := by decide +kernel
theorem d_m_dropEntry_12 : decode b_m_dropEntry 12 = .ok (.iload_n 1, 1) := by decide +kernel
theorem d_m_dropEntry_13 : decode b_m_dropEntry 13 = .ok (.iaload, 1) := by decide +kernel
theorem d_m_dropEntry_14 : decode b_m_dropEntry 14 = .ok (.iadd, 1) := by decide +kernel
theorem d_m_dropEntry_15 : decode b_m_dropEntry 15 = .ok (.if_icmp .ge 37, 3) := by decide +kernel
theorem d_m_dropEntry_18 : decode b_m_dropEntry 18 = .ok (.aload_n 0, 1) := by decide +kernel
theorem d_m_dropEntry_19 : decode b_m_dropEntry 19 = .ok (.getfield 22, 3) := by decide +kernel
theorem d_m_dropEntry_22 : decode b_m_dropEntry 22 = .ok (.iload_n 3, 1) := by decide +kernel
theorem d_m_dropEntry_23 : decode b_m_dropEntry 23 = .ok (.aload_n 0, 1) := by decide +kernel
theorem d_m_dropEntry_24 : decode b_m_dropEntry 24 = .ok (.getfield 22, 3) := by decide +kernel
theorem d_m_dropEntry_27 : decode b_m_dropEntry 27 = .ok (.iload_n 3, 1) := by decide +kernel
theorem d_m_dropEntry_28 : decode b_m_dropEntry 28 = .ok (.iconst 1, 1) := by decide +kernel
theorem d_m_dropEntry_29 : decode b_m_dropEntry 29 = .ok (.iadd, 1) := by decide +kernel
theorem d_m_dropEntry_30 : decode b_m_dropEntry 30 = .ok (.iaload, 1) := by decide +kernel
theorem d_m_dropEntry_31 : decode b_m_dropEntry 31 = .ok (.iastore, 1) := by decide +kernel
theorem d_m_dropEntry_32 : decode b_m_dropEntry 32 = .ok (.aload_n 0, 1) := by decide +kernel
theorem d_m_dropEntry_33 : decode b_m_dropEntry 33 = .ok (.getfield 25, 3) := by decide +kernel
theorem d_m_dropEntry_36 : decode b_m_dropEntry 36 = .ok (.iload_n 3, 1) := by decide +kernel
theorem d_m_dropEntry_37 : decode b_m_dropEntry 37 = .ok (.aload_n 0, 1) := by decide +kernel
theorem d_m_dropEntry_38 : decode b_m_dropEntry 38 = .ok (.getfield 25, 3) := by decide +kernel
theorem d_m_dropEntry_41 : decode b_m_dropEntry 41 = .ok (.iload_n 3, 1) := by decide +kernel
theorem d_m_dropEntry_42 : decode b_m_dropEntry 42 = .ok (.iconst 1, 1) := by decide +kernel
theorem d_m_dropEntry_43 : decode b_m_dropEntry 43 = .ok (.iadd, 1) := by decide +kernel
theorem d_m_dropEntry_44 : decode b_m_dropEntry 44 = .ok (.iaload, 1) := by decide +kernel
theorem d_m_dropEntry_45 : decode b_m_dropEntry 45 = .ok (.iastore, 1) := by decide +kernel
theorem d_m_dropEntry_46 : decode b_m_dropEntry 46 = .ok (.iinc 3 1, 3) := by decide +kernel
theorem d_m_dropEntry_49 : decode b_m_dropEntry 49 = .ok (.goto (-47), 3) := by decide +kernel
theorem d_m_dropEntry_52 : decode b_m_dropEntry 52 = .ok (.aload_n 0, 1) := by decide +kernel
theorem d_m_dropEntry_53 : decode b_m_dropEntry 53 = .ok (.getfield 19, 3) := by decide +kernel
theorem d_m_dropEntry_56 : decode b_m_dropEntry 56 = .ok (.iload_n 1, 1) := by decide +kernel
theorem d_m_dropEntry_57 : decode b_m_dropEntry 57 = .ok (.dup2, 1) := by decide +kernel
theorem d_m_dropEntry_58 : decode b_m_dropEntry 58 = .ok (.iaload, 1) := by decide +kernel
theorem d_m_dropEntry_59 : decode b_m_dropEntry 59 = .ok (.iconst 1, 1) := by decide +kernel
theorem d_m_dropEntry_60 : decode b_m_dropEntry 60 = .ok (.isub, 1) := by decide +kernel
theorem d_m_dropEntry_61 : decode b_m_dropEntry 61 = .ok (.iastore, 1) := by decide +kernel
theorem d_m_dropEntry_62 : decode b_m_dropEntry 62 = .ok (.return_, 1) := by decide +kernel
theorem d_m_put_0 : decode b_m_put 0 = .ok (.aload_n 0, 1) := by decide +kernel
theorem d_m_put_1 : decode b_m_put 1 = .ok (.aload_n 0, 1) := by decide +kernel
theorem d_m_put_2 : decode b_m_put 2 = .ok (.iload_n 1, 1) := by decide +kernel
theorem d_m_put_3 : decode b_m_put 3 = .ok (.invokevirtual 65, 3) := by decide +kernel
theorem d_m_put_6 : decode b_m_put 6 = .ok (.ifCond .eq 19, 3) := by decide +kernel
theorem d_m_put_9 : decode b_m_put 9 = .ok (.aload_n 0, 1) := by decide +kernel
theorem d_m_put_10 : decode b_m_put 10 = .ok (.iload_n 2, 1) := by decide +kernel
theorem d_m_put_11 : decode b_m_put 11 = .ok (.invokevirtual 65, 3) := by decide +kernel
theorem d_m_put_14 : decode b_m_put 14 = .ok (.ifCond .eq 11, 3) := by decide +kernel
theorem d_m_put_17 : decode b_m_put 17 = .ok (.aload_n 0, 1) := by decide +kernel
theorem d_m_put_18 : decode b_m_put 18 = .ok (.iload_n 3, 1) := by decide +kernel
theorem d_m_put_19 : decode b_m_put 19 = .ok (.invokevirtual 65, 3) := by decide +kernel
theorem d_m_put_22 : decode b_m_put 22 = .ok (.ifCond .ne 7, 3) := by decide +kernel
theorem d_m_put_25 : decode b_m_put 25 = .ok (.iconst 1, 1) := by decide +kernel
theorem d_m_put_26 : decode b_m_put 26 = .ok (.goto 41, 3) := by decide +kernel
theorem d_m_put_29 : decode b_m_put 29 = .ok (.aload_n 0, 1) := by decide +kernel
theorem d_m_put_30 : decode b_m_put 30 = .ok (.getfield 7, 3) := by decide +kernel
theorem d_m_put_33 : decode b_m_put 33 = .ok (.iload_n 1, 1) := by decide +kernel
theorem d_m_put_34 : decode b_m_put 34 = .ok (.iaload, 1) := by decide +kernel
theorem d_m_put_35 : decode b_m_put 35 = .ok (.iconst 2, 1) := by decide +kernel
theorem d_m_put_36 : decode b_m_put 36 = .ok (.if_icmp .eq 7, 3) := by decide +kernel
theorem d_m_put_39 : decode b_m_put 39 = .ok (.iconst 2, 1) := by decide +kernel
theorem d_m_put_40 : decode b_m_put 40 = .ok (.goto 27, 3) := by decide +kernel
theorem d_m_put_43 : decode b_m_put 43 = .ok (.aload_n 0, 1) := by decide +kernel
theorem d_m_put_44 : decode b_m_put 44 = .ok (.getfield 19, 3) := by decide +kernel
theorem d_m_put_47 : decode b_m_put 47 = .ok (.iload_n 1, 1) := by decide +kernel
theorem d_m_put_48 : decode b_m_put 48 = .ok (.iaload, 1) := by decide +kernel
theorem d_m_put_49 : decode b_m_put 49 = .ok (.iconst 4, 1) := by decide +kernel
theorem d_m_put_50 : decode b_m_put 50 = .ok (.if_icmp .ne 16, 3) := by decide +kernel
theorem d_m_put_53 : decode b_m_put 53 = .ok (.aload_n 0, 1) := by decide +kernel
theorem d_m_put_54 : decode b_m_put 54 = .ok (.iload_n 1, 1) := by decide +kernel
theorem d_m_put_55 : decode b_m_put 55 = .ok (.iload_n 2, 1) := by decide +kernel
theorem d_m_put_56 : decode b_m_put 56 = .ok (.invokevirtual 73, 3) := by decide +kernel
theorem d_m_put_59 : decode b_m_put 59 = .ok (.ifCond .ge 7, 3) := by decide +kernel
theorem d_m_put_62 : decode b_m_put 62 = .ok (.iconst 3, 1) := by decide +kernel
theorem d_m_put_63 : decode b_m_put 63 = .ok (.goto 4, 3) := by decide +kernel
theorem d_m_put_66 : decode b_m_put 66 = .ok (.iconst 0, 1) := by decide +kernel
theorem d_m_put_67 : decode b_m_put 67 = .ok (.putfield 47, 3) := by decide +kernel
theorem d_m_put_70 : decode b_m_put 70 = .ok (.aload_n 0, 1) := by decide +kernel
theorem d_m_put_71 : decode b_m_put 71 = .ok (.getfield 47, 3) := by decide +kernel
theorem d_m_put_74 : decode b_m_put 74 = .ok (.ifCond .le 5, 3) := by decide +kernel
theorem d_m_put_77 : decode b_m_put 77 = .ok (.iconst 0, 1) := by decide +kernel
theorem d_m_put_78 : decode b_m_put 78 = .ok (.ireturn, 1) := by decide +kernel
theorem d_m_put_79 : decode b_m_put 79 = .ok (.aload_n 0, 1) := by decide +kernel
theorem d_m_put_80 : decode b_m_put 80 = .ok (.iload_n 1, 1) := by decide +kernel
theorem d_m_put_81 : decode b_m_put 81 = .ok (.iload_n 2, 1) := by decide +kernel
theorem d_m_put_82 : decode b_m_put 82 = .ok (.invokevirtual 73, 3) := by decide +kernel
theorem d_m_put_85 : decode b_m_put 85 = .ok (.istore 4, 2) := by decide +kernel
theorem d_m_put_87 : decode b_m_put 87 = .ok (.iload 4, 2) := by decide +kernel
theorem d_m_put_89 : decode b_m_put 89 = .ok (.ifCond .ge 7, 3) := by decide +kernel
theorem d_m_put_92 : decode b_m_put 92 = .ok (.iconst 1, 1) := by decide +kernel
theorem d_m_put_93 : decode b_m_put 93 = .ok (.goto 4, 3) := by decide +kernel
theorem d_m_put_96 : decode b_m_put 96 = .ok (.iconst 0, 1) := by decide +kernel
theorem d_m_put_97 : decode b_m_put 97 = .ok (.istore 5, 2) := by decide +kernel
theorem d_m_put_99 : decode b_m_put 99 = .ok (.iload 5, 2) := by decide +kernel
theorem d_m_put_101 : decode b_m_put 101 = .ok (.ifCond .eq 16, 3) := by decide +kernel
theorem d_m_put_104 : decode b_m_put 104 = .ok (.iconst 4, 1) := by decide +kernel
theorem d_m_put_105 : decode b_m_put 105 = .ok (.iload_n 1, 1) := by decide +kernel
theorem d_m_put_106 : decode b_m_put 106 = .ok (.imul, 1) := by decide +kernel
theorem d_m_put_107 : decode b_m_put 107 = .ok (.aload_n 0, 1) := by decide +kernel
theorem d_m_put_108 : decode b_m_put 108 = .ok (.getfield 19, 3) := by decide +kernel
theorem d_m_put_111 : decode b_m_put 111 = .ok (.iload_n 1, 1) := by decide +kernel
theorem d_m_put_112 : decode b_m_put 112 = .ok (.iaload, 1) := by decide +kernel
theorem d_m_put_113 : decode b_m_put 113 = .ok (.iadd, 1) := by decide +kernel
theorem d_m_put_114 : decode b_m_put 114 = .ok (.goto 5, 3) := by decide +kernel
theorem d_m_put_117 : decode b_m_put 117 = .ok (.iload 4, 2) := by decide +kernel
theorem d_m_put_119 : decode b_m_put 119 = .ok (.istore 4, 2) := by decide +kernel
theorem d_m_put_121 : decode b_m_put 121 = .ok (.aload_n 0, 1) := by decide +kernel
theorem d_m_put_122 : decode b_m_put 122 = .ok (.getfield 22, 3) := by decide +kernel
theorem d_m_put_125 : decode b_m_put 125 = .ok (.iload 4, 2) := by decide +kernel
theorem d_m_put_127 : decode b_m_put 127 = .ok (.iload_n 2, 1) := by decide +kernel
theorem d_m_put_128 : decode b_m_put 128 = .ok (.iastore, 1) := by decide +kernel
theorem d_m_put_129 : decode b_m_put 129 = .ok (.aload_n 0, 1) := by decide +kernel
theorem d_m_put_130 : decode b_m_put 130 = .ok (.getfield 25, 3) := by decide +kernel
theorem d_m_put_133 : decode b_m_put 133 = .ok (.iload 4, 2) := by decide +kernel
theorem d_m_put_135 : decode b_m_put 135 = .ok (.iload_n 3, 1) := by decide +kernel
theorem d_m_put_136 : decode b_m_put 136 = .ok (.iastore, 1) := by decide +kernel
theorem d_m_put_137 : decode b_m_put 137 = .ok (.aload_n 0, 1) := by decide +kernel
theorem d_m_put_138 : decode b_m_put 138 = .ok (.getfield 19, 3) := by decide +kernel
theorem d_m_put_141 : decode b_m_put 141 = .ok (.iload_n 1, 1) := by decide +kernel
theorem d_m_put_142 : decode b_m_put 142 = .ok (.dup2, 1) := by decide +kernel
theorem d_m_put_143 : decode b_m_put 143 = .ok (.iaload, 1) := by decide +kernel
theorem d_m_put_144 : decode b_m_put 144 = .ok (.iload 5, 2) := by decide +kernel
theorem d_m_put_146 : decode b_m_put 146 = .ok (.ifCond .eq 7, 3) := by decide +kernel
theorem d_m_put_149 : decode b_m_put 149 = .ok (.iconst 1, 1) := by decide +kernel
theorem d_m_put_150 : decode b_m_put 150 = .ok (.goto 4, 3) := by decide +kernel
theorem d_m_put_153 : decode b_m_put 153 = .ok (.iconst 0, 1) := by decide +kernel
theorem d_m_put_154 : decode b_m_put 154 = .ok (.iadd, 1) := by decide +kernel
theorem d_m_put_155 : decode b_m_put 155 = .ok (.iastore, 1) := by decide +kernel
theorem d_m_put_156 : decode b_m_put 156 = .ok (.iload 5, 2) := by decide +kernel
theorem d_m_put_158 : decode b_m_put 158 = .ok (.ireturn, 1) := by decide +kernel
theorem d_m_isTable_0 : decode b_m_isTable 0 = .ok (.aload_n 0, 1) := by decide +kernel
theorem d_m_isTable_1 : decode b_m_isTable 1 = .ok (.aload_n 0, 1) := by decide +kernel
theorem d_m_isTable_2 : decode b_m_isTable 2 = .ok (.iload_n 1, 1) := by decide +kernel
theorem d_m_isTable_3 : decode b_m_isTable 3 = .ok (.invokevirtual 65, 3) := by decide +kernel
theorem d_m_isTable_6 : decode b_m_isTable 6 = .ok (.ifCond .eq 11, 3) := by decide +kernel
theorem d_m_isTable_9 : decode b_m_isTable 9 = .ok (.aload_n 0, 1) := by decide +kernel
theorem d_m_isTable_10 : decode b_m_isTable 10 = .ok (.iload_n 2, 1) := by decide +kernel
theorem d_m_isTable_11 : decode b_m_isTable 11 = .ok (.invokevirtual 65, 3) := by decide +kernel
theorem d_m_isTable_14 : decode b_m_isTable 14 = .ok (.ifCond .ne 7, 3) := by decide +kernel
theorem d_m_isTable_17 : decode b_m_isTable 17 = .ok (.iconst 1, 1) := by decide +kernel
theorem d_m_isTable_18 : decode b_m_isTable 18 = .ok (.goto 18, 3) := by decide +kernel
theorem d_m_isTable_21 : decode b_m_isTable 21 = .ok (.aload_n 0, 1) := by decide +kernel
theorem d_m_isTable_22 : decode b_m_isTable 22 = .ok (.getfield 7, 3) := by decide +kernel
theorem d_m_isTable_25 : decode b_m_isTable 25 = .ok (.iload_n 1, 1) := by decide +kernel
theorem d_m_isTable_26 : decode b_m_isTable 26 = .ok (.iaload, 1) := by decide +kernel
theorem d_m_isTable_27 : decode b_m_isTable 27 = .ok (.iconst 2, 1) := by decide +kernel
theorem d_m_isTable_28 : decode b_m_isTable 28 = .ok (.if_icmp .eq 7, 3) := by decide +kernel
theorem d_m_isTable_31 : decode b_m_isTable 31 = .ok (.iconst 2, 1) := by decide +kernel
theorem d_m_isTable_32 : decode b_m_isTable 32 = .ok (.goto 4, 3) := by decide +kernel
theorem d_m_isTable_35 : decode b_m_isTable 35 = .ok (.iconst 0, 1) := by decide +kernel
theorem d_m_isTable_36 : decode b_m_isTable 36 = .ok (.putfield 47, 3) := by decide +kernel
theorem d_m_isTable_39 : decode b_m_isTable 39 = .ok (.aload_n 0, 1) := by decide +kernel
theorem d_m_isTable_40 : decode b_m_isTable 40 = .ok (.getfield 47, 3) := by decide +kernel
theorem d_m_isTable_43 : decode b_m_isTable 43 = .ok (.ifCond .ne 7, 3) := by decide +kernel
theorem d_m_isTable_46 : decode b_m_isTable 46 = .ok (.iconst 1, 1) := by decide +kernel
theorem d_m_isTable_47 : decode b_m_isTable 47 = .ok (.goto 4, 3) := by decide +kernel
theorem d_m_isTable_50 : decode b_m_isTable 50 = .ok (.iconst 0, 1) := by decide +kernel
theorem d_m_isTable_51 : decode b_m_isTable 51 = .ok (.ireturn, 1) := by decide +kernel
theorem d_m_find_0 : decode b_m_find 0 = .ok (.aload_n 0, 1) := by decide +kernel
theorem d_m_find_1 : decode b_m_find 1 = .ok (.iload_n 1, 1) := by decide +kernel
theorem d_m_find_2 : decode b_m_find 2 = .ok (.iload_n 2, 1) := by decide +kernel
theorem d_m_find_3 : decode b_m_find 3 = .ok (.invokevirtual 77, 3) := by decide +kernel
theorem d_m_find_6 : decode b_m_find 6 = .ok (.ifCond .ne 5, 3) := by decide +kernel
theorem d_m_find_9 : decode b_m_find 9 = .ok (.iconst 0, 1) := by decide +kernel
theorem d_m_find_10 : decode b_m_find 10 = .ok (.ireturn, 1) := by decide +kernel
theorem d_m_find_11 : decode b_m_find 11 = .ok (.aload_n 0, 1) := by decide +kernel
theorem d_m_find_12 : decode b_m_find 12 = .ok (.iload_n 1, 1) := by decide +kernel
theorem d_m_find_13 : decode b_m_find 13 = .ok (.iload_n 2, 1) := by decide +kernel
theorem d_m_find_14 : decode b_m_find 14 = .ok (.invokevirtual 73, 3) := by decide +kernel
theorem d_m_find_17 : decode b_m_find 17 = .ok (.istore_n 3, 1) := by decide +kernel
theorem d_m_find_18 : decode b_m_find 18 = .ok (.iload_n 3, 1) := by decide +kernel
theorem d_m_find_19 : decode b_m_find 19 = .ok (.ifCond .ge 7, 3) := by decide +kernel
theorem d_m_find_22 : decode b_m_find 22 = .ok (.iconst (-1), 1) := by decide +kernel
theorem d_m_find_23 : decode b_m_find 23 = .ok (.goto 9, 3) := by decide +kernel
theorem d_m_find_26 : decode b_m_find 26 = .ok (.aload_n 0, 1) := by decide +kernel
theorem d_m_find_27 : decode b_m_find 27 = .ok (.getfield 25, 3) := by decide +kernel
theorem d_m_find_30 : decode b_m_find 30 = .ok (.iload_n 3, 1) := by decide +kernel
theorem d_m_find_31 : decode b_m_find 31 = .ok (.iaload, 1) := by decide +kernel
theorem d_m_find_32 : decode b_m_find 32 = .ok (.ireturn, 1) := by decide +kernel
theorem d_m_remove_0 : decode b_m_remove 0 = .ok (.aload_n 0, 1) := by decide +kernel
theorem d_m_remove_1 : decode b_m_remove 1 = .ok (.iload_n 1, 1) := by decide +kernel
theorem d_m_remove_2 : decode b_m_remove 2 = .ok (.iload_n 2, 1) := by decide +kernel
theorem d_m_remove_3 : decode b_m_remove 3 = .ok (.invokevirtual 77, 3) := by decide +kernel
theorem d_m_remove_6 : decode b_m_remove 6 = .ok (.ifCond .ne 5, 3) := by decide +kernel
theorem d_m_remove_9 : decode b_m_remove 9 = .ok (.iconst 0, 1) := by decide +kernel
theorem d_m_remove_10 : decode b_m_remove 10 = .ok (.ireturn, 1) := by decide +kernel
theorem d_m_remove_11 : decode b_m_remove 11 = .ok (.aload_n 0, 1) := by decide +kernel
theorem d_m_remove_12 : decode b_m_remove 12 = .ok (.iload_n 1, 1) := by decide +kernel
theorem d_m_remove_13 : decode b_m_remove 13 = .ok (.iload_n 2, 1) := by decide +kernel
theorem d_m_remove_14 : decode b_m_remove 14 = .ok (.invokevirtual 73, 3) := by decide +kernel
theorem d_m_remove_17 : decode b_m_remove 17 = .ok (.istore_n 3, 1) := by decide +kernel
theorem d_m_remove_18 : decode b_m_remove 18 = .ok (.iload_n 3, 1) := by decide +kernel
theorem d_m_remove_19 : decode b_m_remove 19 = .ok (.ifCond .lt 9, 3) := by decide +kernel
theorem d_m_remove_22 : decode b_m_remove 22 = .ok (.aload_n 0, 1) := by decide +kernel
theorem d_m_remove_23 : decode b_m_remove 23 = .ok (.iload_n 1, 1) := by decide +kernel
theorem d_m_remove_24 : decode b_m_remove 24 = .ok (.iload_n 3, 1) := by decide +kernel
theorem d_m_remove_25 : decode b_m_remove 25 = .ok (.invokevirtual 80, 3) := by decide +kernel
theorem d_m_remove_28 : decode b_m_remove 28 = .ok (.iload_n 3, 1) := by decide +kernel
theorem d_m_remove_29 : decode b_m_remove 29 = .ok (.ifCond .lt 7, 3) := by decide +kernel
theorem d_m_remove_32 : decode b_m_remove 32 = .ok (.iconst 1, 1) := by decide +kernel
theorem d_m_remove_33 : decode b_m_remove 33 = .ok (.goto 4, 3) := by decide +kernel
theorem d_m_remove_36 : decode b_m_remove 36 = .ok (.iconst 0, 1) := by decide +kernel
theorem d_m_remove_37 : decode b_m_remove 37 = .ok (.ireturn, 1) := by decide +kernel
theorem d_m_key_0 : decode b_m_key 0 = .ok (.aload_n 0, 1) := by decide +kernel
theorem d_m_key_1 : decode b_m_key 1 = .ok (.aload_n 0, 1) := by decide +kernel
theorem d_m_key_2 : decode b_m_key 2 = .ok (.iload_n 1, 1) := by decide +kernel
theorem d_m_key_3 : decode b_m_key 3 = .ok (.invokevirtual 65, 3) := by decide +kernel
theorem d_m_key_6 : decode b_m_key 6 = .ok (.ifCond .ne 7, 3) := by decide +kernel
theorem d_m_key_9 : decode b_m_key 9 = .ok (.iconst 1, 1) := by decide +kernel
theorem d_m_key_10 : decode b_m_key 10 = .ok (.goto 36, 3) := by decide +kernel
theorem d_m_key_13 : decode b_m_key 13 = .ok (.aload_n 0, 1) := by decide +kernel
theorem d_m_key_14 : decode b_m_key 14 = .ok (.getfield 7, 3) := by decide +kernel
theorem d_m_key_17 : decode b_m_key 17 = .ok (.iload_n 1, 1) := by decide +kernel
theorem d_m_key_18 : decode b_m_key 18 = .ok (.iaload, 1) := by decide +kernel
theorem d_m_key_19 : decode b_m_key 19 = .ok (.iconst 2, 1) := by decide +kernel
theorem d_m_key_20 : decode b_m_key 20 = .ok (.if_icmp .eq 7, 3) := by decide +kernel
theorem d_m_key_23 : decode b_m_key 23 = .ok (.iconst 2, 1) := by decide +kernel
theorem d_m_key_24 : decode b_m_key 24 = .ok (.goto 22, 3) := by decide +kernel
theorem d_m_key_27 : decode b_m_key 27 = .ok (.iload_n 2, 1) := by decide +kernel
theorem d_m_key_28 : decode b_m_key 28 = .ok (.ifCond .lt 13, 3) := by decide +kernel
theorem d_m_key_31 : decode b_m_key 31 = .ok (.iload_n 2, 1) := by decide +kernel
theorem d_m_key_32 : decode b_m_key 32 = .ok (.aload_n 0, 1) := by decide +kernel
theorem d_m_key_33 : decode b_m_key 33 = .ok (.getfield 19, 3) := by decide +kernel
theorem d_m_key_36 : decode b_m_key 36 = .ok (.iload_n 1, 1) := by decide +kernel
theorem d_m_key_37 : decode b_m_key 37 = .ok (.iaload, 1) := by decide +kernel
theorem d_m_key_38 : decode b_m_key 38 = .ok (.if_icmp .lt 7, 3) := by decide +kernel
theorem d_m_key_41 : decode b_m_key 41 = .ok (.iconst 3, 1) := by decide +kernel
theorem d_m_key_42 : decode b_m_key 42 = .ok (.goto 4, 3) := by decide +kernel
theorem d_m_key_45 : decode b_m_key 45 = .ok (.iconst 0, 1) := by decide +kernel
theorem d_m_key_46 : decode b_m_key 46 = .ok (.putfield 47, 3) := by decide +kernel
theorem d_m_key_49 : decode b_m_key 49 = .ok (.aload_n 0, 1) := by decide +kernel
theorem d_m_key_50 : decode b_m_key 50 = .ok (.getfield 47, 3) := by decide +kernel
theorem d_m_key_53 : decode b_m_key 53 = .ok (.ifCond .le 7, 3) := by decide +kernel
theorem d_m_key_56 : decode b_m_key 56 = .ok (.iconst 0, 1) := by decide +kernel
theorem d_m_key_57 : decode b_m_key 57 = .ok (.goto 13, 3) := by decide +kernel
theorem d_m_key_60 : decode b_m_key 60 = .ok (.aload_n 0, 1) := by decide +kernel
theorem d_m_key_61 : decode b_m_key 61 = .ok (.getfield 22, 3) := by decide +kernel
theorem d_m_key_64 : decode b_m_key 64 = .ok (.iconst 4, 1) := by decide +kernel
theorem d_m_key_65 : decode b_m_key 65 = .ok (.iload_n 1, 1) := by decide +kernel
theorem d_m_key_66 : decode b_m_key 66 = .ok (.imul, 1) := by decide +kernel
theorem d_m_key_67 : decode b_m_key 67 = .ok (.iload_n 2, 1) := by decide +kernel
theorem d_m_key_68 : decode b_m_key 68 = .ok (.iadd, 1) := by decide +kernel
theorem d_m_key_69 : decode b_m_key 69 = .ok (.iaload, 1) := by decide +kernel
theorem d_m_key_70 : decode b_m_key 70 = .ok (.ireturn, 1) := by decide +kernel
theorem d_m_root_0 : decode b_m_root 0 = .ok (.aload_n 0, 1) := by decide +kernel
theorem d_m_root_1 : decode b_m_root 1 = .ok (.iload_n 1, 1) := by decide +kernel
theorem d_m_root_2 : decode b_m_root 2 = .ok (.invokestatic 84, 3) := by decide +kernel
theorem d_m_root_5 : decode b_m_root 5 = .ok (.ifCond .ne 7, 3) := by decide +kernel
theorem d_m_root_8 : decode b_m_root 8 = .ok (.iconst 1, 1) := by decide +kernel
theorem d_m_root_9 : decode b_m_root 9 = .ok (.goto 21, 3) := by decide +kernel
theorem d_m_root_12 : decode b_m_root 12 = .ok (.iload_n 2, 1) := by decide +kernel
theorem d_m_root_13 : decode b_m_root 13 = .ok (.iconst (-1), 1) := by decide +kernel
theorem d_m_root_14 : decode b_m_root 14 = .ok (.if_icmp .eq 15, 3) := by decide +kernel
theorem d_m_root_17 : decode b_m_root 17 = .ok (.aload_n 0, 1) := by decide +kernel
theorem d_m_root_18 : decode b_m_root 18 = .ok (.iload_n 2, 1) := by decide +kernel
theorem d_m_root_19 : decode b_m_root 19 = .ok (.invokevirtual 65, 3) := by decide +kernel
theorem d_m_root_22 : decode b_m_root 22 = .ok (.ifCond .ne 7, 3) := by decide +kernel
theorem d_m_root_25 : decode b_m_root 25 = .ok (.iconst 2, 1) := by decide +kernel
theorem d_m_root_26 : decode b_m_root 26 = .ok (.goto 4, 3) := by decide +kernel
theorem d_m_root_29 : decode b_m_root 29 = .ok (.iconst 0, 1) := by decide +kernel
theorem d_m_root_30 : decode b_m_root 30 = .ok (.putfield 47, 3) := by decide +kernel
theorem d_m_root_33 : decode b_m_root 33 = .ok (.aload_n 0, 1) := by decide +kernel
theorem d_m_root_34 : decode b_m_root 34 = .ok (.getfield 47, 3) := by decide +kernel
theorem d_m_root_37 : decode b_m_root 37 = .ok (.ifCond .ne 10, 3) := by decide +kernel
theorem d_m_root_40 : decode b_m_root 40 = .ok (.aload_n 0, 1) := by decide +kernel
theorem d_m_root_41 : decode b_m_root 41 = .ok (.getfield 37, 3) := by decide +kernel
theorem d_m_root_44 : decode b_m_root 44 = .ok (.iload_n 1, 1) := by decide +kernel
theorem d_m_root_45 : decode b_m_root 45 = .ok (.iload_n 2, 1) := by decide +kernel
theorem d_m_root_46 : decode b_m_root 46 = .ok (.iastore, 1) := by decide +kernel
theorem d_m_root_47 : decode b_m_root 47 = .ok (.return_, 1) := by decide +kernel
theorem d_m_rootAt_0 : decode b_m_rootAt 0 = .ok (.aload_n 0, 1) := by decide +kernel
theorem d_m_rootAt_1 : decode b_m_rootAt 1 = .ok (.iload_n 1, 1) := by decide +kernel
theorem d_m_rootAt_2 : decode b_m_rootAt 2 = .ok (.invokestatic 84, 3) := by decide +kernel
theorem d_m_rootAt_5 : decode b_m_rootAt 5 = .ok (.ifCond .eq 7, 3) := by decide +kernel
theorem d_m_rootAt_8 : decode b_m_rootAt 8 = .ok (.iconst 0, 1) := by decide +kernel
theorem d_m_rootAt_9 : decode b_m_rootAt 9 = .ok (.goto 4, 3) := by decide +kernel
theorem d_m_rootAt_12 : decode b_m_rootAt 12 = .ok (.iconst 1, 1) := by decide +kernel
theorem d_m_rootAt_13 : decode b_m_rootAt 13 = .ok (.putfield 47, 3) := by decide +kernel
theorem d_m_rootAt_16 : decode b_m_rootAt 16 = .ok (.aload_n 0, 1) := by decide +kernel
theorem d_m_rootAt_17 : decode b_m_rootAt 17 = .ok (.getfield 47, 3) := by decide +kernel
theorem d_m_rootAt_20 : decode b_m_rootAt 20 = .ok (.ifCond .le 7, 3) := by decide +kernel
theorem d_m_rootAt_23 : decode b_m_rootAt 23 = .ok (.iconst 0, 1) := by decide +kernel
theorem d_m_rootAt_24 : decode b_m_rootAt 24 = .ok (.goto 9, 3) := by decide +kernel
theorem d_m_rootAt_27 : decode b_m_rootAt 27 = .ok (.aload_n 0, 1) := by decide +kernel
theorem d_m_rootAt_28 : decode b_m_rootAt 28 = .ok (.getfield 37, 3) := by decide +kernel
theorem d_m_rootAt_31 : decode b_m_rootAt 31 = .ok (.iload_n 1, 1) := by decide +kernel
theorem d_m_rootAt_32 : decode b_m_rootAt 32 = .ok (.iaload, 1) := by decide +kernel
theorem d_m_rootAt_33 : decode b_m_rootAt 33 = .ok (.ireturn, 1) := by decide +kernel
theorem d_m_guard_0 : decode b_m_guard 0 = .ok (.aload_n 0, 1) := by decide +kernel
theorem d_m_guard_1 : decode b_m_guard 1 = .ok (.aload_n 0, 1) := by decide +kernel
theorem d_m_guard_2 : decode b_m_guard 2 = .ok (.iload_n 1, 1) := by decide +kernel
theorem d_m_guard_3 : decode b_m_guard 3 = .ok (.invokevirtual 65, 3) := by decide +kernel
theorem d_m_guard_6 : decode b_m_guard 6 = .ok (.ifCond .ne 7, 3) := by decide +kernel
theorem d_m_guard_9 : decode b_m_guard 9 = .ok (.iconst 1, 1) := by decide +kernel
theorem d_m_guard_10 : decode b_m_guard 10 = .ok (.goto 41, 3) := by decide +kernel
theorem d_m_guard_13 : decode b_m_guard 13 = .ok (.iload_n 2, 1) := by decide +kernel
theorem d_m_guard_14 : decode b_m_guard 14 = .ok (.ifCond .lt 8, 3) := by decide +kernel
theorem d_m_guard_17 : decode b_m_guard 17 = .ok (.iload_n 2, 1) := by decide +kernel
theorem d_m_guard_18 : decode b_m_guard 18 = .ok (.iconst 3, 1) := by decide +kernel
theorem d_m_guard_19 : decode b_m_guard 19 = .ok (.if_icmp .le 7, 3) := by decide +kernel
theorem d_m_guard_22 : decode b_m_guard 22 = .ok (.iconst 2, 1) := by decide +kernel
theorem d_m_guard_23 : decode b_m_guard 23 = .ok (.goto 28, 3) := by decide +kernel
theorem d_m_guard_26 : decode b_m_guard 26 = .ok (.iload_n 3, 1) := by decide +kernel
theorem d_m_guard_27 : decode b_m_guard 27 = .ok (.invokestatic 84, 3) := by decide +kernel
theorem d_m_guard_30 : decode b_m_guard 30 = .ok (.ifCond .ne 7, 3) := by decide +kernel
theorem d_m_guard_33 : decode b_m_guard 33 = .ok (.iconst 3, 1) := by decide +kernel
theorem d_m_guard_34 : decode b_m_guard 34 = .ok (.goto 17, 3) := by decide +kernel
theorem d_m_guard_37 : decode b_m_guard 37 = .ok (.aload_n 0, 1) := by decide +kernel
theorem d_m_guard_38 : decode b_m_guard 38 = .ok (.getfield 28, 3) := by decide +kernel
theorem d_m_guard_41 : decode b_m_guard 41 = .ok (.iload_n 1, 1) := by decide +kernel
theorem d_m_guard_42 : decode b_m_guard 42 = .ok (.iaload, 1) := by decide +kernel
theorem d_m_guard_43 : decode b_m_guard 43 = .ok (.ifCond .le 7, 3) := by decide +kernel
theorem d_m_guard_46 : decode b_m_guard 46 = .ok (.iconst 4, 1) := by decide +kernel
theorem d_m_guard_47 : decode b_m_guard 47 = .ok (.goto 4, 3) := by decide +kernel
theorem d_m_guard_50 : decode b_m_guard 50 = .ok (.iconst 0, 1) := by decide +kernel
theorem d_m_guard_51 : decode b_m_guard 51 = .ok (.putfield 47, 3) := by decide +kernel
theorem d_m_guard_54 : decode b_m_guard 54 = .ok (.aload_n 0, 1) := by decide +kernel
theorem d_m_guard_55 : decode b_m_guard 55 = .ok (.getfield 47, 3) := by decide +kernel
theorem d_m_guard_58 : decode b_m_guard 58 = .ok (.ifCond .le 4, 3) := by decide +kernel
theorem d_m_guard_61 : decode b_m_guard 61 = .ok (.return_, 1) := by decide +kernel
theorem d_m_guard_62 : decode b_m_guard 62 = .ok (.aload_n 0, 1) := by decide +kernel
theorem d_m_guard_63 : decode b_m_guard 63 = .ok (.getfield 28, 3) := by decide +kernel
theorem d_m_guard_66 : decode b_m_guard 66 = .ok (.iload_n 1, 1) := by decide +kernel
theorem d_m_guard_67 : decode b_m_guard 67 = .ok (.iconst 1, 1) := by decide +kernel
theorem d_m_guard_68 : decode b_m_guard 68 = .ok (.iastore, 1) := by decide +kernel
theorem d_m_guard_69 : decode b_m_guard 69 = .ok (.aload_n 0, 1) := by decide +kernel
theorem d_m_guard_70 : decode b_m_guard 70 = .ok (.getfield 31, 3) := by decide +kernel
theorem d_m_guard_73 : decode b_m_guard 73 = .ok (.iload_n 1, 1) := by decide +kernel
theorem d_m_guard_74 : decode b_m_guard 74 = .ok (.iload_n 2, 1) := by decide +kernel
theorem d_m_guard_75 : decode b_m_guard 75 = .ok (.iastore, 1) := by decide +kernel
theorem d_m_guard_76 : decode b_m_guard 76 = .ok (.aload_n 0, 1) := by decide +kernel
theorem d_m_guard_77 : decode b_m_guard 77 = .ok (.getfield 34, 3) := by decide +kernel
theorem d_m_guard_80 : decode b_m_guard 80 = .ok (.iload_n 1, 1) := by decide +kernel
theorem d_m_guard_81 : decode b_m_guard 81 = .ok (.iload_n 3, 1) := by decide +kernel
theorem d_m_guard_82 : decode b_m_guard 82 = .ok (.iastore, 1) := by decide +kernel
theorem d_m_guard_83 : decode b_m_guard 83 = .ok (.return_, 1) := by decide +kernel
theorem d_m_close_0 : decode b_m_close 0 = .ok (.iconst 1, 1) := by decide +kernel
theorem d_m_close_1 : decode b_m_close 1 = .ok (.istore_n 1, 1) := by decide +kernel
theorem d_m_close_2 : decode b_m_close 2 = .ok (.iload_n 1, 1) := by decide +kernel
theorem d_m_close_3 : decode b_m_close 3 = .ok (.ifCond .eq 162, 3) := by decide +kernel
theorem d_m_close_6 : decode b_m_close 6 = .ok (.iconst 0, 1) := by decide +kernel
theorem d_m_close_7 : decode b_m_close 7 = .ok (.istore_n 1, 1) := by decide +kernel
theorem d_m_close_8 : decode b_m_close 8 = .ok (.iconst 0, 1) := by decide +kernel
theorem d_m_close_9 : decode b_m_close 9 = .ok (.istore_n 2, 1) := by decide +kernel
theorem d_m_close_10 : decode b_m_close 10 = .ok (.iload_n 2, 1) := by decide +kernel
theorem d_m_close_11 : decode b_m_close 11 = .ok (.bipush 24, 2) := by decide +kernel
theorem d_m_close_13 : decode b_m_close 13 = .ok (.if_icmp .ge 149, 3) := by decide +kernel
theorem d_m_close_16 : decode b_m_close 16 = .ok (.aload_n 0, 1) := by decide +kernel
theorem d_m_close_17 : decode b_m_close 17 = .ok (.getfield 43, 3) := by decide +kernel
theorem d_m_close_20 : decode b_m_close 20 = .ok (.iload_n 2, 1) := by decide +kernel
theorem d_m_close_21 : decode b_m_close 21 = .ok (.baload, 1) := by decide +kernel
theorem d_m_close_22 : decode b_m_close 22 = .ok (.ifCond .eq 52, 3) := by decide +kernel
theorem d_m_close_25 : decode b_m_close 25 = .ok (.aload_n 0, 1) := by decide +kernel
theorem d_m_close_26 : decode b_m_close 26 = .ok (.getfield 7, 3) := by decide +kernel
theorem d_m_close_29 : decode b_m_close 29 = .ok (.iload_n 2, 1) := by decide +kernel
theorem d_m_close_30 : decode b_m_close 30 = .ok (.iaload, 1) := by decide +kernel
theorem d_m_close_31 : decode b_m_close 31 = .ok (.ifCond .ne 43, 3) := by decide +kernel
theorem d_m_close_34 : decode b_m_close 34 = .ok (.iconst 0, 1) := by decide +kernel
theorem d_m_close_35 : decode b_m_close 35 = .ok (.istore_n 3, 1) := by decide +kernel
theorem d_m_close_36 : decode b_m_close 36 = .ok (.iload_n 3, 1) := by decide +kernel
theorem d_m_close_37 : decode b_m_close 37 = .ok (.iconst 3, 1) := by decide +kernel
theorem d_m_close_38 : decode b_m_close 38 = .ok (.if_icmp .ge 36, 3) := by decide +kernel
theorem d_m_close_41 : decode b_m_close 41 = .ok (.aload_n 0, 1) := by decide +kernel
theorem d_m_close_42 : decode b_m_close 42 = .ok (.aload_n 0, 1) := by decide +kernel
theorem d_m_close_43 : decode b_m_close 43 = .ok (.getfield 16, 3) := by decide +kernel
theorem d_m_close_46 : decode b_m_close 46 = .ok (.iconst 3, 1) := by decide +kernel
theorem d_m_close_47 : decode b_m_close 47 = .ok (.iload_n 2, 1) := by decide +kernel
theorem d_m_close_48 : decode b_m_close 48 = .ok (.imul, 1) := by decide +kernel
theorem d_m_close_49 : decode b_m_close 49 = .ok (.iload_n 3, 1) := by decide +kernel
theorem d_m_close_50 : decode b_m_close 50 = .ok (.iadd, 1) := by decide +kernel
theorem d_m_close_51 : decode b_m_close 51 = .ok (.iaload, 1) := by decide +kernel
theorem d_m_close_52 : decode b_m_close 52 = .ok (.invokevirtual 87, 3) := by decide +kernel
theorem d_m_close_55 : decode b_m_close 55 = .ok (.ifCond .ne 7, 3) := by decide +kernel
theorem d_m_close_58 : decode b_m_close 58 = .ok (.iload_n 1, 1) := by decide +kernel
theorem d_m_close_59 : decode b_m_close 59 = .ok (.ifCond .eq 7, 3) := by decide +kernel
theorem d_m_close_62 : decode b_m_close 62 = .ok (.iconst 1, 1) := by decide +kernel
theorem d_m_close_63 : decode b_m_close 63 = .ok (.goto 4, 3) := by decide +kernel
theorem d_m_close_66 : decode b_m_close 66 = .ok (.iconst 0, 1) := by decide +kernel
theorem d_m_close_67 : decode b_m_close 67 = .ok (.istore_n 1, 1) := by decide +kernel
theorem d_m_close_68 : decode b_m_close 68 = .ok (.iinc 3 1, 3) := by decide +kernel
theorem d_m_close_71 : decode b_m_close 71 = .ok (.goto (-35), 3) := by decide +kernel
theorem d_m_close_74 : decode b_m_close 74 = .ok (.iconst 0, 1) := by decide +kernel
theorem d_m_close_75 : decode b_m_close 75 = .ok (.istore_n 3, 1) := by decide +kernel
theorem d_m_close_76 : decode b_m_close 76 = .ok (.iload_n 3, 1) := by decide +kernel
theorem d_m_close_77 : decode b_m_close 77 = .ok (.aload_n 0, 1) := by decide +kernel
theorem d_m_close_78 : decode b_m_close 78 = .ok (.getfield 19, 3) := by decide +kernel
theorem d_m_close_81 : decode b_m_close 81 = .ok (.iload_n 2, 1) := by decide +kernel
theorem d_m_close_82 : decode b_m_close 82 = .ok (.iaload, 1) := by decide +kernel
theorem d_m_close_83 : decode b_m_close 83 = .ok (.if_icmp .ge 73, 3) := by decide +kernel
theorem d_m_close_86 : decode b_m_close 86 = .ok (.aload_n 0, 1) := by decide +kernel
theorem d_m_close_87 : decode b_m_close 87 = .ok (.getfield 43, 3) := by decide +kernel
theorem d_m_close_90 : decode b_m_close 90 = .ok (.iload_n 2, 1) := by decide +kernel
theorem d_m_close_91 : decode b_m_close 91 = .ok (.baload, 1) := by decide +kernel
theorem d_m_close_92 : decode b_m_close 92 = .ok (.ifCond .eq 64, 3) := by decide +kernel
theorem d_m_close_95 : decode b_m_close 95 = .ok (.aload_n 0, 1) := by decide +kernel
theorem d_m_close_96 : decode b_m_close 96 = .ok (.getfield 7, 3) := by decide +kernel
theorem d_m_close_99 : decode b_m_close 99 = .ok (.iload_n 2, 1) := by decide +kernel
theorem d_m_close_100 : decode b_m_close 100 = .ok (.iaload, 1) := by decide +kernel
theorem d_m_close_101 : decode b_m_close 101 = .ok (.iconst 2, 1) := by decide +kernel
theorem d_m_close_102 : decode b_m_close 102 = .ok (.if_icmp .ne 54, 3) := by decide +kernel
theorem d_m_close_105 : decode b_m_close 105 = .ok (.aload_n 0, 1) := by decide +kernel
theorem d_m_close_106 : decode b_m_close 106 = .ok (.getfield 43, 3) := by decide +kernel
theorem d_m_close_109 : decode b_m_close 109 = .ok (.aload_n 0, 1) := by decide +kernel
theorem d_m_close_110 : decode b_m_close 110 = .ok (.getfield 22, 3) := by decide +kernel
theorem d_m_close_113 : decode b_m_close 113 = .ok (.iconst 4, 1) := by decide +kernel
theorem d_m_close_114 : decode b_m_close 114 = .ok (.iload_n 2, 1) := by decide +kernel
theorem d_m_close_115 : decode b_m_close 115 = .ok (.imul, 1) := by decide +kernel
theorem d_m_close_116 : decode b_m_close 116 = .ok (.iload_n 3, 1) := by decide +kernel
theorem d_m_close_117 : decode b_m_close 117 = .ok (.iadd, 1) := by decide +kernel
theorem d_m_close_118 : decode b_m_close 118 = .ok (.iaload, 1) := by decide +kernel
theorem d_m_close_119 : decode b_m_close 119 = .ok (.baload, 1) := by decide +kernel
theorem d_m_close_120 : decode b_m_close 120 = .ok (.ifCond .eq 30, 3) := by decide +kernel
theorem d_m_close_123 : decode b_m_close 123 = .ok (.aload_n 0, 1) := by decide +kernel
theorem d_m_close_124 : decode b_m_close 124 = .ok (.aload_n 0, 1) := by decide +kernel
theorem d_m_close_125 : decode b_m_close 125 = .ok (.getfield 25, 3) := by decide +kernel
theorem d_m_close_128 : decode b_m_close 128 = .ok (.iconst 4, 1) := by decide +kernel
theorem d_m_close_129 : decode b_m_close 129 = .ok (.iload_n 2, 1) := by decide +kernel
theorem d_m_close_130 : decode b_m_close 130 = .ok (.imul, 1) := by decide +kernel
theorem d_m_close_131 : decode b_m_close 131 = .ok (.iload_n 3, 1) := by decide +kernel
theorem d_m_close_132 : decode b_m_close 132 = .ok (.iadd, 1) := by decide +kernel
theorem d_m_close_133 : decode b_m_close 133 = .ok (.iaload, 1) := by decide +kernel
theorem d_m_close_134 : decode b_m_close 134 = .ok (.invokevirtual 87, 3) := by decide +kernel
theorem d_m_close_137 : decode b_m_close 137 = .ok (.ifCond .ne 7, 3) := by decide +kernel
theorem d_m_close_140 : decode b_m_close 140 = .ok (.iload_n 1, 1) := by decide +kernel
theorem d_m_close_141 : decode b_m_close 141 = .ok (.ifCond .eq 7, 3) := by decide +kernel
theorem d_m_close_144 : decode b_m_close 144 = .ok (.iconst 1, 1) := by decide +kernel
theorem d_m_close_145 : decode b_m_close 145 = .ok (.goto 4, 3) := by decide +kernel
theorem d_m_close_148 : decode b_m_close 148 = .ok (.iconst 0, 1) := by decide +kernel
theorem d_m_close_149 : decode b_m_close 149 = .ok (.istore_n 1, 1) := by decide +kernel
theorem d_m_close_150 : decode b_m_close 150 = .ok (.iinc 3 1, 3) := by decide +kernel
theorem d_m_close_153 : decode b_m_close 153 = .ok (.goto (-77), 3) := by decide +kernel
theorem d_m_close_156 : decode b_m_close 156 = .ok (.iinc 2 1, 3) := by decide +kernel
theorem d_m_close_159 : decode b_m_close 159 = .ok (.goto (-149), 3) := by decide +kernel
theorem d_m_close_162 : decode b_m_close 162 = .ok (.goto (-160), 3) := by decide +kernel
theorem d_m_close_165 : decode b_m_close 165 = .ok (.return_, 1) := by decide +kernel
theorem d_m_add_0 : decode b_m_add 0 = .ok (.iload_n 1, 1) := by decide +kernel
theorem d_m_add_1 : decode b_m_add 1 = .ok (.ifCond .lt 12, 3) := by decide +kernel
theorem d_m_add_4 : decode b_m_add 4 = .ok (.aload_n 0, 1) := by decide +kernel
theorem d_m_add_5 : decode b_m_add 5 = .ok (.getfield 43, 3) := by decide +kernel
theorem d_m_add_8 : decode b_m_add 8 = .ok (.iload_n 1, 1) := by decide +kernel
theorem d_m_add_9 : decode b_m_add 9 = .ok (.baload, 1) := by decide +kernel
theorem d_m_add_10 : decode b_m_add 10 = .ok (.ifCond .eq 5, 3) := by decide +kernel
theorem d_m_add_13 : decode b_m_add 13 = .ok (.iconst 0, 1) := by decide +kernel
theorem d_m_add_14 : decode b_m_add 14 = .ok (.ireturn, 1) := by decide +kernel
theorem d_m_add_15 : decode b_m_add 15 = .ok (.aload_n 0, 1) := by decide +kernel
theorem d_m_add_16 : decode b_m_add 16 = .ok (.getfield 43, 3) := by decide +kernel
theorem d_m_add_19 : decode b_m_add 19 = .ok (.iload_n 1, 1) := by decide +kernel
theorem d_m_add_20 : decode b_m_add 20 = .ok (.iconst 1, 1) := by decide +kernel
theorem d_m_add_21 : decode b_m_add 21 = .ok (.bastore, 1) := by decide +kernel
theorem d_m_add_22 : decode b_m_add 22 = .ok (.iconst 1, 1) := by decide +kernel
theorem d_m_add_23 : decode b_m_add 23 = .ok (.ireturn, 1) := by decide +kernel
theorem d_m_forget_0 : decode b_m_forget 0 = .ok (.iconst 0, 1) := by decide +kernel
theorem d_m_forget_1 : decode b_m_forget 1 = .ok (.istore_n 1, 1) := by decide +kernel
theorem d_m_forget_2 : decode b_m_forget 2 = .ok (.iload_n 1, 1) := by decide +kernel
theorem d_m_forget_3 : decode b_m_forget 3 = .ok (.bipush 24, 2) := by decide +kernel
theorem d_m_forget_5 : decode b_m_forget 5 = .ok (.if_icmp .ge 125, 3) := by decide +kernel
theorem d_m_forget_8 : decode b_m_forget 8 = .ok (.aload_n 0, 1) := by decide +kernel
theorem d_m_forget_9 : decode b_m_forget 9 = .ok (.getfield 16, 3) := by decide +kernel
theorem d_m_forget_12 : decode b_m_forget 12 = .ok (.iconst 3, 1) := by decide +kernel
theorem d_m_forget_13 : decode b_m_forget 13 = .ok (.iload_n 1, 1) := by decide +kernel
theorem d_m_forget_14 : decode b_m_forget 14 = .ok (.imul, 1) := by decide +kernel
theorem d_m_forget_15 : decode b_m_forget 15 = .ok (.iaload, 1) := by decide +kernel
theorem d_m_forget_16 : decode b_m_forget 16 = .ok (.istore_n 2, 1) := by decide +kernel
theorem d_m_forget_17 : decode b_m_forget 17 = .ok (.aload_n 0, 1) := by decide +kernel
theorem d_m_forget_18 : decode b_m_forget 18 = .ok (.getfield 43, 3) := by decide +kernel
theorem d_m_forget_21 : decode b_m_forget 21 = .ok (.iload_n 1, 1) := by decide +kernel
theorem d_m_forget_22 : decode b_m_forget 22 = .ok (.baload, 1) := by decide +kernel
theorem d_m_forget_23 : decode b_m_forget 23 = .ok (.ifCond .eq 35, 3) := by decide +kernel
theorem d_m_forget_26 : decode b_m_forget 26 = .ok (.aload_n 0, 1) := by decide +kernel
theorem d_m_forget_27 : decode b_m_forget 27 = .ok (.getfield 7, 3) := by decide +kernel
theorem d_m_forget_30 : decode b_m_forget 30 = .ok (.iload_n 1, 1) := by decide +kernel
theorem d_m_forget_31 : decode b_m_forget 31 = .ok (.iaload, 1) := by decide +kernel
theorem d_m_forget_32 : decode b_m_forget 32 = .ok (.iconst 1, 1) := by decide +kernel
theorem d_m_forget_33 : decode b_m_forget 33 = .ok (.if_icmp .ne 25, 3) := by decide +kernel
theorem d_m_forget_36 : decode b_m_forget 36 = .ok (.iload_n 2, 1) := by decide +kernel
theorem d_m_forget_37 : decode b_m_forget 37 = .ok (.ifCond .lt 21, 3) := by decide +kernel
theorem d_m_forget_40 : decode b_m_forget 40 = .ok (.aload_n 0, 1) := by decide +kernel
theorem d_m_forget_41 : decode b_m_forget 41 = .ok (.getfield 43, 3) := by decide +kernel
theorem d_m_forget_44 : decode b_m_forget 44 = .ok (.iload_n 2, 1) := by decide +kernel
theorem d_m_forget_45 : decode b_m_forget 45 = .ok (.baload, 1) := by decide +kernel
theorem d_m_forget_46 : decode b_m_forget 46 = .ok (.ifCond .ne 12, 3) := by decide +kernel
theorem d_m_forget_49 : decode b_m_forget 49 = .ok (.aload_n 0, 1) := by decide +kernel
theorem d_m_forget_50 : decode b_m_forget 50 = .ok (.getfield 16, 3) := by decide +kernel
theorem d_m_forget_53 : decode b_m_forget 53 = .ok (.iconst 3, 1) := by decide +kernel
theorem d_m_forget_54 : decode b_m_forget 54 = .ok (.iload_n 1, 1) := by decide +kernel
theorem d_m_forget_55 : decode b_m_forget 55 = .ok (.imul, 1) := by decide +kernel
theorem d_m_forget_56 : decode b_m_forget 56 = .ok (.iconst (-1), 1) := by decide +kernel
theorem d_m_forget_57 : decode b_m_forget 57 = .ok (.iastore, 1) := by decide +kernel
theorem d_m_forget_58 : decode b_m_forget 58 = .ok (.aload_n 0, 1) := by decide +kernel
theorem d_m_forget_59 : decode b_m_forget 59 = .ok (.getfield 19, 3) := by decide +kernel
theorem d_m_forget_62 : decode b_m_forget 62 = .ok (.iload_n 1, 1) := by decide +kernel
theorem d_m_forget_63 : decode b_m_forget 63 = .ok (.iaload, 1) := by decide +kernel
theorem d_m_forget_64 : decode b_m_forget 64 = .ok (.iconst 1, 1) := by decide +kernel
theorem d_m_forget_65 : decode b_m_forget 65 = .ok (.isub, 1) := by decide +kernel
theorem d_m_forget_66 : decode b_m_forget 66 = .ok (.istore_n 3, 1) := by decide +kernel
theorem d_m_forget_67 : decode b_m_forget 67 = .ok (.iload_n 3, 1) := by decide +kernel
theorem d_m_forget_68 : decode b_m_forget 68 = .ok (.ifCond .lt 56, 3) := by decide +kernel
theorem d_m_forget_71 : decode b_m_forget 71 = .ok (.aload_n 0, 1) := by decide +kernel
theorem d_m_forget_72 : decode b_m_forget 72 = .ok (.getfield 43, 3) := by decide +kernel
theorem d_m_forget_75 : decode b_m_forget 75 = .ok (.iload_n 1, 1) := by decide +kernel
theorem d_m_forget_76 : decode b_m_forget 76 = .ok (.baload, 1) := by decide +kernel
theorem d_m_forget_77 : decode b_m_forget 77 = .ok (.ifCond .eq 47, 3) := by decide +kernel
theorem d_m_forget_80 : decode b_m_forget 80 = .ok (.aload_n 0, 1) := by decide +kernel
theorem d_m_forget_81 : decode b_m_forget 81 = .ok (.getfield 7, 3) := by decide +kernel
theorem d_m_forget_84 : decode b_m_forget 84 = .ok (.iload_n 1, 1) := by decide +kernel
theorem d_m_forget_85 : decode b_m_forget 85 = .ok (.iaload, 1) := by decide +kernel
theorem d_m_forget_86 : decode b_m_forget 86 = .ok (.iconst 2, 1) := by decide +kernel
theorem d_m_forget_87 : decode b_m_forget 87 = .ok (.if_icmp .ne 37, 3) := by decide +kernel
theorem d_m_forget_90 : decode b_m_forget 90 = .ok (.aload_n 0, 1) := by decide +kernel
theorem d_m_forget_91 : decode b_m_forget 91 = .ok (.getfield 43, 3) := by decide +kernel
theorem d_m_forget_94 : decode b_m_forget 94 = .ok (.aload_n 0, 1) := by decide +kernel
theorem d_m_forget_95 : decode b_m_forget 95 = .ok (.getfield 22, 3) := by decide +kernel
theorem d_m_forget_98 : decode b_m_forget 98 = .ok (.iconst 4, 1) := by decide +kernel
theorem d_m_forget_99 : decode b_m_forget 99 = .ok (.iload_n 1, 1) := by decide +kernel
theorem d_m_forget_100 : decode b_m_forget 100 = .ok (.imul, 1) := by decide +kernel
theorem d_m_forget_101 : decode b_m_forget 101 = .ok (.iload_n 3, 1) := by decide +kernel
theorem d_m_forget_102 : decode b_m_forget 102 = .ok (.iadd, 1) := by decide +kernel
theorem d_m_forget_103 : decode b_m_forget 103 = .ok (.iaload, 1) := by decide +kernel
theorem d_m_forget_104 : decode b_m_forget 104 = .ok (.baload, 1) := by decide +kernel
theorem d_m_forget_105 : decode b_m_forget 105 = .ok (.ifCond .ne 13, 3) := by decide +kernel
theorem d_m_forget_108 : decode b_m_forget 108 = .ok (.aload_n 0, 1) := by decide +kernel
theorem d_m_forget_109 : decode b_m_forget 109 = .ok (.iload_n 1, 1) := by decide +kernel
theorem d_m_forget_110 : decode b_m_forget 110 = .ok (.iconst 4, 1) := by decide +kernel
theorem d_m_forget_111 : decode b_m_forget 111 = .ok (.iload_n 1, 1) := by decide +kernel
theorem d_m_forget_112 : decode b_m_forget 112 = .ok (.imul, 1) := by decide +kernel
theorem d_m_forget_113 : decode b_m_forget 113 = .ok (.iload_n 3, 1) := by decide +kernel
theorem d_m_forget_114 : decode b_m_forget 114 = .ok (.iadd, 1) := by decide +kernel
theorem d_m_forget_115 : decode b_m_forget 115 = .ok (.invokevirtual 80, 3) := by decide +kernel
theorem d_m_forget_118 : decode b_m_forget 118 = .ok (.iinc 3 (-1), 3) := by decide +kernel
theorem d_m_forget_121 : decode b_m_forget 121 = .ok (.goto (-54), 3) := by decide +kernel
theorem d_m_forget_124 : decode b_m_forget 124 = .ok (.iinc 1 1, 3) := by decide +kernel
theorem d_m_forget_127 : decode b_m_forget 127 = .ok (.goto (-125), 3) := by decide +kernel
theorem d_m_forget_130 : decode b_m_forget 130 = .ok (.return_, 1) := by decide +kernel
theorem d_m_gather_0 : decode b_m_gather 0 = .ok (.aload_n 0, 1) := by decide +kernel
theorem d_m_gather_1 : decode b_m_gather 1 = .ok (.dup, 1) := by decide +kernel
theorem d_m_gather_2 : decode b_m_gather 2 = .ok (.getfield 90, 3) := by decide +kernel
theorem d_m_gather_5 : decode b_m_gather 5 = .ok (.iconst 1, 1) := by decide +kernel
theorem d_m_gather_6 : decode b_m_gather 6 = .ok (.iadd, 1) := by decide +kernel
theorem d_m_gather_7 : decode b_m_gather 7 = .ok (.putfield 90, 3) := by decide +kernel
theorem d_m_gather_10 : decode b_m_gather 10 = .ok (.iconst 0, 1) := by decide +kernel
theorem d_m_gather_11 : decode b_m_gather 11 = .ok (.istore_n 1, 1) := by decide +kernel
theorem d_m_gather_12 : decode b_m_gather 12 = .ok (.iload_n 1, 1) := by decide +kernel
theorem d_m_gather_13 : decode b_m_gather 13 = .ok (.bipush 24, 2) := by decide +kernel
theorem d_m_gather_15 : decode b_m_gather 15 = .ok (.if_icmp .ge 16, 3) := by decide +kernel
theorem d_m_gather_18 : decode b_m_gather 18 = .ok (.aload_n 0, 1) := by decide +kernel
theorem d_m_gather_19 : decode b_m_gather 19 = .ok (.getfield 43, 3) := by decide +kernel
theorem d_m_gather_22 : decode b_m_gather 22 = .ok (.iload_n 1, 1) := by decide +kernel
theorem d_m_gather_23 : decode b_m_gather 23 = .ok (.iconst 0, 1) := by decide +kernel
theorem d_m_gather_24 : decode b_m_gather 24 = .ok (.bastore, 1) := by decide +kernel
theorem d_m_gather_25 : decode b_m_gather 25 = .ok (.iinc 1 1, 3) := by decide +kernel
theorem d_m_gather_28 : decode b_m_gather 28 = .ok (.goto (-16), 3) := by decide +kernel
theorem d_m_gather_31 : decode b_m_gather 31 = .ok (.iconst 0, 1) := by decide +kernel
theorem d_m_gather_32 : decode b_m_gather 32 = .ok (.istore_n 1, 1) := by decide +kernel
theorem d_m_gather_33 : decode b_m_gather 33 = .ok (.iload_n 1, 1) := by decide +kernel
theorem d_m_gather_34 : decode b_m_gather 34 = .ok (.bipush 6, 2) := by decide +kernel
theorem d_m_gather_36 : decode b_m_gather 36 = .ok (.if_icmp .ge 20, 3) := by decide +kernel
theorem d_m_gather_39 : decode b_m_gather 39 = .ok (.aload_n 0, 1) := by decide +kernel
theorem d_m_gather_40 : decode b_m_gather 40 = .ok (.aload_n 0, 1) := by decide +kernel
theorem d_m_gather_41 : decode b_m_gather 41 = .ok (.getfield 37, 3) := by decide +kernel
theorem d_m_gather_44 : decode b_m_gather 44 = .ok (.iload_n 1, 1) := by decide +kernel
theorem d_m_gather_45 : decode b_m_gather 45 = .ok (.iaload, 1) := by decide +kernel
theorem d_m_gather_46 : decode b_m_gather 46 = .ok (.invokevirtual 87, 3) := by decide +kernel
theorem d_m_gather_49 : decode b_m_gather 49 = .ok (.pop, 1) := by decide +kernel
theorem d_m_gather_50 : decode b_m_gather 50 = .ok (.iinc 1 1, 3) := by decide +kernel
theorem d_m_gather_53 : decode b_m_gather 53 = .ok (.goto (-20), 3) := by decide +kernel
theorem d_m_gather_56 : decode b_m_gather 56 = .ok (.aload_n 0, 1) := by decide +kernel
theorem d_m_gather_57 : decode b_m_gather 57 = .ok (.invokevirtual 93, 3) := by decide +kernel
theorem d_m_gather_60 : decode b_m_gather 60 = .ok (.aload_n 0, 1) := by decide +kernel
theorem d_m_gather_61 : decode b_m_gather 61 = .ok (.invokevirtual 96, 3) := by decide +kernel
theorem d_m_gather_64 : decode b_m_gather 64 = .ok (.iconst 0, 1) := by decide +kernel
theorem d_m_gather_65 : decode b_m_gather 65 = .ok (.istore_n 1, 1) := by decide +kernel
theorem d_m_gather_66 : decode b_m_gather 66 = .ok (.iload_n 1, 1) := by decide +kernel
theorem d_m_gather_67 : decode b_m_gather 67 = .ok (.bipush 24, 2) := by decide +kernel
theorem d_m_gather_69 : decode b_m_gather 69 = .ok (.if_icmp .ge 64, 3) := by decide +kernel
theorem d_m_gather_72 : decode b_m_gather 72 = .ok (.aload_n 0, 1) := by decide +kernel
theorem d_m_gather_73 : decode b_m_gather 73 = .ok (.getfield 7, 3) := by decide +kernel
theorem d_m_gather_76 : decode b_m_gather 76 = .ok (.iload_n 1, 1) := by decide +kernel
theorem d_m_gather_77 : decode b_m_gather 77 = .ok (.iaload, 1) := by decide +kernel
theorem d_m_gather_78 : decode b_m_gather 78 = .ok (.ifCond .lt 49, 3) := by decide +kernel
theorem d_m_gather_81 : decode b_m_gather 81 = .ok (.aload_n 0, 1) := by decide +kernel
theorem d_m_gather_82 : decode b_m_gather 82 = .ok (.getfield 43, 3) := by decide +kernel
theorem d_m_gather_85 : decode b_m_gather 85 = .ok (.iload_n 1, 1) := by decide +kernel
theorem d_m_gather_86 : decode b_m_gather 86 = .ok (.baload, 1) := by decide +kernel
theorem d_m_gather_87 : decode b_m_gather 87 = .ok (.ifCond .ne 40, 3) := by decide +kernel
theorem d_m_gather_90 : decode b_m_gather 90 = .ok (.aload_n 0, 1) := by decide +kernel
theorem d_m_gather_91 : decode b_m_gather 91 = .ok (.getfield 28, 3) := by decide +kernel
theorem d_m_gather_94 : decode b_m_gather 94 = .ok (.iload_n 1, 1) := by decide +kernel
theorem d_m_gather_95 : decode b_m_gather 95 = .ok (.iaload, 1) := by decide +kernel
theorem d_m_gather_96 : decode b_m_gather 96 = .ok (.iconst 1, 1) := by decide +kernel
theorem d_m_gather_97 : decode b_m_gather 97 = .ok (.if_icmp .ne 30, 3) := by decide +kernel
theorem d_m_gather_100 : decode b_m_gather 100 = .ok (.aload_n 0, 1) := by decide +kernel
theorem d_m_gather_101 : decode b_m_gather 101 = .ok (.getfield 28, 3) := by decide +kernel
theorem d_m_gather_104 : decode b_m_gather 104 = .ok (.iload_n 1, 1) := by decide +kernel
theorem d_m_gather_105 : decode b_m_gather 105 = .ok (.iconst 2, 1) := by decide +kernel
theorem d_m_gather_106 : decode b_m_gather 106 = .ok (.iastore, 1) := by decide +kernel
theorem d_m_gather_107 : decode b_m_gather 107 = .ok (.aload_n 0, 1) := by decide +kernel
theorem d_m_gather_108 : decode b_m_gather 108 = .ok (.getfield 40, 3) := by decide +kernel
theorem d_m_gather_111 : decode b_m_gather 111 = .ok (.aload_n 0, 1) := by decide +kernel
theorem d_m_gather_112 : decode b_m_gather 112 = .ok (.getfield 99, 3) := by decide +kernel
theorem d_m_gather_115 : decode b_m_gather 115 = .ok (.iload_n 1, 1) := by decide +kernel
theorem d_m_gather_116 : decode b_m_gather 116 = .ok (.iastore, 1) := by decide +kernel
theorem d_m_gather_117 : decode b_m_gather 117 = .ok (.aload_n 0, 1) := by decide +kernel
theorem d_m_gather_118 : decode b_m_gather 118 = .ok (.dup, 1) := by decide +kernel
theorem d_m_gather_119 : decode b_m_gather 119 = .ok (.getfield 99, 3) := by decide +kernel
theorem d_m_gather_122 : decode b_m_gather 122 = .ok (.iconst 1, 1) := by decide +kernel
theorem d_m_gather_123 : decode b_m_gather 123 = .ok (.iadd, 1) := by decide +kernel
theorem d_m_gather_124 : decode b_m_gather 124 = .ok (.putfield 99, 3) := by decide +kernel
theorem d_m_gather_127 : decode b_m_gather 127 = .ok (.iinc 1 1, 3) := by decide +kernel
theorem d_m_gather_130 : decode b_m_gather 130 = .ok (.goto (-64), 3) := by decide +kernel
theorem d_m_gather_133 : decode b_m_gather 133 = .ok (.iconst 0, 1) := by decide +kernel
theorem d_m_gather_134 : decode b_m_gather 134 = .ok (.istore_n 1, 1) := by decide +kernel
theorem d_m_gather_135 : decode b_m_gather 135 = .ok (.iload_n 1, 1) := by decide +kernel
theorem d_m_gather_136 : decode b_m_gather 136 = .ok (.aload_n 0, 1) := by decide +kernel
theorem d_m_gather_137 : decode b_m_gather 137 = .ok (.getfield 99, 3) := by decide +kernel
theorem d_m_gather_140 : decode b_m_gather 140 = .ok (.if_icmp .ge 20, 3) := by decide +kernel
theorem d_m_gather_143 : decode b_m_gather 143 = .ok (.aload_n 0, 1) := by decide +kernel
theorem d_m_gather_144 : decode b_m_gather 144 = .ok (.aload_n 0, 1) := by decide +kernel
theorem d_m_gather_145 : decode b_m_gather 145 = .ok (.getfield 40, 3) := by decide +kernel
theorem d_m_gather_148 : decode b_m_gather 148 = .ok (.iload_n 1, 1) := by decide +kernel
theorem d_m_gather_149 : decode b_m_gather 149 = .ok (.iaload, 1) := by decide +kernel
theorem d_m_gather_150 : decode b_m_gather 150 = .ok (.invokevirtual 87, 3) := by decide +kernel
theorem d_m_gather_153 : decode b_m_gather 153 = .ok (.pop, 1) := by decide +kernel
theorem d_m_gather_154 : decode b_m_gather 154 = .ok (.iinc 1 1, 3) := by decide +kernel
theorem d_m_gather_157 : decode b_m_gather 157 = .ok (.goto (-22), 3) := by decide +kernel
theorem d_m_gather_160 : decode b_m_gather 160 = .ok (.aload_n 0, 1) := by decide +kernel
theorem d_m_gather_161 : decode b_m_gather 161 = .ok (.invokevirtual 93, 3) := by decide +kernel
theorem d_m_gather_164 : decode b_m_gather 164 = .ok (.aload_n 0, 1) := by decide +kernel
theorem d_m_gather_165 : decode b_m_gather 165 = .ok (.invokevirtual 96, 3) := by decide +kernel
theorem d_m_gather_168 : decode b_m_gather 168 = .ok (.iconst 0, 1) := by decide +kernel
theorem d_m_gather_169 : decode b_m_gather 169 = .ok (.istore_n 1, 1) := by decide +kernel
theorem d_m_gather_170 : decode b_m_gather 170 = .ok (.iconst 0, 1) := by decide +kernel
theorem d_m_gather_171 : decode b_m_gather 171 = .ok (.istore_n 2, 1) := by decide +kernel
theorem d_m_gather_172 : decode b_m_gather 172 = .ok (.iload_n 2, 1) := by decide +kernel
theorem d_m_gather_173 : decode b_m_gather 173 = .ok (.bipush 24, 2) := by decide +kernel
theorem d_m_gather_175 : decode b_m_gather 175 = .ok (.if_icmp .ge 60, 3) := by decide +kernel
theorem d_m_gather_178 : decode b_m_gather 178 = .ok (.aload_n 0, 1) := by decide +kernel
theorem d_m_gather_179 : decode b_m_gather 179 = .ok (.getfield 7, 3) := by decide +kernel
theorem d_m_gather_182 : decode b_m_gather 182 = .ok (.iload_n 2, 1) := by decide +kernel
theorem d_m_gather_183 : decode b_m_gather 183 = .ok (.iaload, 1) := by decide +kernel
theorem d_m_gather_184 : decode b_m_gather 184 = .ok (.ifCond .lt 45, 3) := by decide +kernel
theorem d_m_gather_187 : decode b_m_gather 187 = .ok (.aload_n 0, 1) := by decide +kernel
theorem d_m_gather_188 : decode b_m_gather 188 = .ok (.getfield 43, 3) := by decide +kernel
theorem d_m_gather_191 : decode b_m_gather 191 = .ok (.iload_n 2, 1) := by decide +kernel
theorem d_m_gather_192 : decode b_m_gather 192 = .ok (.baload, 1) := by decide +kernel
theorem d_m_gather_193 : decode b_m_gather 193 = .ok (.ifCond .ne 36, 3) := by decide +kernel
theorem d_m_gather_196 : decode b_m_gather 196 = .ok (.aload_n 0, 1) := by decide +kernel
theorem d_m_gather_197 : decode b_m_gather 197 = .ok (.getfield 7, 3) := by decide +kernel
theorem d_m_gather_200 : decode b_m_gather 200 = .ok (.iload_n 2, 1) := by decide +kernel
theorem d_m_gather_201 : decode b_m_gather 201 = .ok (.iconst (-1), 1) := by decide +kernel
theorem d_m_gather_202 : decode b_m_gather 202 = .ok (.iastore, 1) := by decide +kernel
theorem d_m_gather_203 : decode b_m_gather 203 = .ok (.aload_n 0, 1) := by decide +kernel
theorem d_m_gather_204 : decode b_m_gather 204 = .ok (.getfield 19, 3) := by decide +kernel
theorem d_m_gather_207 : decode b_m_gather 207 = .ok (.iload_n 2, 1) := by decide +kernel
theorem d_m_gather_208 : decode b_m_gather 208 = .ok (.iconst 0, 1) := by decide +kernel
theorem d_m_gather_209 : decode b_m_gather 209 = .ok (.iastore, 1) := by decide +kernel
theorem d_m_gather_210 : decode b_m_gather 210 = .ok (.aload_n 0, 1) := by decide +kernel
theorem d_m_gather_211 : decode b_m_gather 211 = .ok (.getfield 16, 3) := by decide +kernel
theorem d_m_gather_214 : decode b_m_gather 214 = .ok (.iconst 3, 1) := by decide +kernel
theorem d_m_gather_215 : decode b_m_gather 215 = .ok (.iload_n 2, 1) := by decide +kernel
theorem d_m_gather_216 : decode b_m_gather 216 = .ok (.imul, 1) := by decide +kernel
theorem d_m_gather_217 : decode b_m_gather 217 = .ok (.iconst (-1), 1) := by decide +kernel
theorem d_m_gather_218 : decode b_m_gather 218 = .ok (.iastore, 1) := by decide +kernel
theorem d_m_gather_219 : decode b_m_gather 219 = .ok (.aload_n 0, 1) := by decide +kernel
theorem d_m_gather_220 : decode b_m_gather 220 = .ok (.getfield 28, 3) := by decide +kernel
theorem d_m_gather_223 : decode b_m_gather 223 = .ok (.iload_n 2, 1) := by decide +kernel
theorem d_m_gather_224 : decode b_m_gather 224 = .ok (.iconst 0, 1) := by decide +kernel
theorem d_m_gather_225 : decode b_m_gather 225 = .ok (.iastore, 1) := by decide +kernel
theorem d_m_gather_226 : decode b_m_gather 226 = .ok (.iinc 1 1, 3) := by decide +kernel
theorem d_m_gather_229 : decode b_m_gather 229 = .ok (.iinc 2 1, 3) := by decide +kernel
theorem d_m_gather_232 : decode b_m_gather 232 = .ok (.goto (-60), 3) := by decide +kernel
theorem d_m_gather_235 : decode b_m_gather 235 = .ok (.iload_n 1, 1) := by decide +kernel
theorem d_m_gather_236 : decode b_m_gather 236 = .ok (.ireturn, 1) := by decide +kernel
theorem d_m_collect_0 : decode b_m_collect 0 = .ok (.aload_n 0, 1) := by decide +kernel
theorem d_m_collect_1 : decode b_m_collect 1 = .ok (.iconst 0, 1) := by decide +kernel
theorem d_m_collect_2 : decode b_m_collect 2 = .ok (.putfield 47, 3) := by decide +kernel
theorem d_m_collect_5 : decode b_m_collect 5 = .ok (.aload_n 0, 1) := by decide +kernel
theorem d_m_collect_6 : decode b_m_collect 6 = .ok (.invokevirtual 55, 3) := by decide +kernel
theorem d_m_collect_9 : decode b_m_collect 9 = .ok (.ireturn, 1) := by decide +kernel
theorem d_m_run_0 : decode b_m_run 0 = .ok (.aload_n 0, 1) := by decide +kernel
theorem d_m_run_1 : decode b_m_run 1 = .ok (.aload_n 0, 1) := by decide +kernel
theorem d_m_run_2 : decode b_m_run 2 = .ok (.getfield 99, 3) := by decide +kernel
theorem d_m_run_5 : decode b_m_run 5 = .ok (.ifCond .ne 7, 3) := by decide +kernel
theorem d_m_run_8 : decode b_m_run 8 = .ok (.iconst 1, 1) := by decide +kernel
theorem d_m_run_9 : decode b_m_run 9 = .ok (.goto 4, 3) := by decide +kernel
theorem d_m_run_12 : decode b_m_run 12 = .ok (.iconst 0, 1) := by decide +kernel
theorem d_m_run_13 : decode b_m_run 13 = .ok (.putfield 47, 3) := by decide +kernel
theorem d_m_run_16 : decode b_m_run 16 = .ok (.aload_n 0, 1) := by decide +kernel
theorem d_m_run_17 : decode b_m_run 17 = .ok (.getfield 47, 3) := by decide +kernel
theorem d_m_run_20 : decode b_m_run 20 = .ok (.ifCond .le 5, 3) := by decide +kernel
theorem d_m_run_23 : decode b_m_run 23 = .ok (.iconst 0, 1) := by decide +kernel
theorem d_m_run_24 : decode b_m_run 24 = .ok (.ireturn, 1) := by decide +kernel
theorem d_m_run_25 : decode b_m_run 25 = .ok (.aload_n 0, 1) := by decide +kernel
theorem d_m_run_26 : decode b_m_run 26 = .ok (.getfield 40, 3) := by decide +kernel
theorem d_m_run_29 : decode b_m_run 29 = .ok (.iconst 0, 1) := by decide +kernel
theorem d_m_run_30 : decode b_m_run 30 = .ok (.iaload, 1) := by decide +kernel
theorem d_m_run_31 : decode b_m_run 31 = .ok (.istore_n 1, 1) := by decide +kernel
theorem d_m_run_32 : decode b_m_run 32 = .ok (.aload_n 0, 1) := by decide +kernel
theorem d_m_run_33 : decode b_m_run 33 = .ok (.dup, 1) := by decide +kernel
theorem d_m_run_34 : decode b_m_run 34 = .ok (.getfield 99, 3) := by decide +kernel
theorem d_m_run_37 : decode b_m_run 37 = .ok (.iconst 1, 1) := by decide +kernel
theorem d_m_run_38 : decode b_m_run 38 = .ok (.isub, 1) := by decide +kernel
theorem d_m_run_39 : decode b_m_run 39 = .ok (.putfield 99, 3) := by decide +kernel
theorem d_m_run_42 : decode b_m_run 42 = .ok (.iconst 0, 1) := by decide +kernel
theorem d_m_run_43 : decode b_m_run 43 = .ok (.istore_n 2, 1) := by decide +kernel
theorem d_m_run_44 : decode b_m_run 44 = .ok (.iload_n 2, 1) := by decide +kernel
theorem d_m_run_45 : decode b_m_run 45 = .ok (.aload_n 0, 1) := by decide +kernel
theorem d_m_run_46 : decode b_m_run 46 = .ok (.getfield 99, 3) := by decide +kernel
theorem d_m_run_49 : decode b_m_run 49 = .ok (.if_icmp .ge 23, 3) := by decide +kernel
theorem d_m_run_52 : decode b_m_run 52 = .ok (.aload_n 0, 1) := by decide +kernel
theorem d_m_run_53 : decode b_m_run 53 = .ok (.getfield 40, 3) := by decide +kernel
theorem d_m_run_56 : decode b_m_run 56 = .ok (.iload_n 2, 1) := by decide +kernel
theorem d_m_run_57 : decode b_m_run 57 = .ok (.aload_n 0, 1) := by decide +kernel
theorem d_m_run_58 : decode b_m_run 58 = .ok (.getfield 40, 3) := by decide +kernel
theorem d_m_run_61 : decode b_m_run 61 = .ok (.iload_n 2, 1) := by decide +kernel
theorem d_m_run_62 : decode b_m_run 62 = .ok (.iconst 1, 1) := by decide +kernel
theorem d_m_run_63 : decode b_m_run 63 = .ok (.iadd, 1) := by decide +kernel
theorem d_m_run_64 : decode b_m_run 64 = .ok (.iaload, 1) := by decide +kernel
theorem d_m_run_65 : decode b_m_run 65 = .ok (.iastore, 1) := by decide +kernel
theorem d_m_run_66 : decode b_m_run 66 = .ok (.iinc 2 1, 3) := by decide +kernel
theorem d_m_run_69 : decode b_m_run 69 = .ok (.goto (-25), 3) := by decide +kernel
theorem d_m_run_72 : decode b_m_run 72 = .ok (.aload_n 0, 1) := by decide +kernel
theorem d_m_run_73 : decode b_m_run 73 = .ok (.getfield 28, 3) := by decide +kernel
theorem d_m_run_76 : decode b_m_run 76 = .ok (.iload_n 1, 1) := by decide +kernel
theorem d_m_run_77 : decode b_m_run 77 = .ok (.iconst 3, 1) := by decide +kernel
theorem d_m_run_78 : decode b_m_run 78 = .ok (.iastore, 1) := by decide +kernel
theorem d_m_run_79 : decode b_m_run 79 = .ok (.aload_n 0, 1) := by decide +kernel
theorem d_m_run_80 : decode b_m_run 80 = .ok (.getfield 31, 3) := by decide +kernel
theorem d_m_run_83 : decode b_m_run 83 = .ok (.iload_n 1, 1) := by decide +kernel
theorem d_m_run_84 : decode b_m_run 84 = .ok (.iaload, 1) := by decide +kernel
theorem d_m_run_85 : decode b_m_run 85 = .ok (.iconst 1, 1) := by decide +kernel
theorem d_m_run_86 : decode b_m_run 86 = .ok (.if_icmp .ne 15, 3) := by decide +kernel
theorem d_m_run_89 : decode b_m_run 89 = .ok (.aload_n 0, 1) := by decide +kernel
theorem d_m_run_90 : decode b_m_run 90 = .ok (.getfield 37, 3) := by decide +kernel
theorem d_m_run_93 : decode b_m_run 93 = .ok (.aload_n 0, 1) := by decide +kernel
theorem d_m_run_94 : decode b_m_run 94 = .ok (.getfield 34, 3) := by decide +kernel
theorem d_m_run_97 : decode b_m_run 97 = .ok (.iload_n 1, 1) := by decide +kernel
theorem d_m_run_98 : decode b_m_run 98 = .ok (.iaload, 1) := by decide +kernel
theorem d_m_run_99 : decode b_m_run 99 = .ok (.iload_n 1, 1) := by decide +kernel
theorem d_m_run_100 : decode b_m_run 100 = .ok (.iastore, 1) := by decide +kernel
theorem d_m_run_101 : decode b_m_run 101 = .ok (.aload_n 0, 1) := by decide +kernel
theorem d_m_run_102 : decode b_m_run 102 = .ok (.getfield 31, 3) := by decide +kernel
theorem d_m_run_105 : decode b_m_run 105 = .ok (.iload_n 1, 1) := by decide +kernel
theorem d_m_run_106 : decode b_m_run 106 = .ok (.iaload, 1) := by decide +kernel
theorem d_m_run_107 : decode b_m_run 107 = .ok (.iconst 2, 1) := by decide +kernel
theorem d_m_run_108 : decode b_m_run 108 = .ok (.if_icmp .ne 31, 3) := by decide +kernel
theorem d_m_run_111 : decode b_m_run 111 = .ok (.aload_n 0, 1) := by decide +kernel
theorem d_m_run_112 : decode b_m_run 112 = .ok (.getfield 7, 3) := by decide +kernel
theorem d_m_run_115 : decode b_m_run 115 = .ok (.iload_n 1, 1) := by decide +kernel
theorem d_m_run_116 : decode b_m_run 116 = .ok (.iaload, 1) := by decide +kernel
theorem d_m_run_117 : decode b_m_run 117 = .ok (.ifCond .ne 22, 3) := by decide +kernel
theorem d_m_run_120 : decode b_m_run 120 = .ok (.aload_n 0, 1) := by decide +kernel
theorem d_m_run_121 : decode b_m_run 121 = .ok (.getfield 37, 3) := by decide +kernel
theorem d_m_run_124 : decode b_m_run 124 = .ok (.aload_n 0, 1) := by decide +kernel
theorem d_m_run_125 : decode b_m_run 125 = .ok (.getfield 34, 3) := by decide +kernel
theorem d_m_run_128 : decode b_m_run 128 = .ok (.iload_n 1, 1) := by decide +kernel
theorem d_m_run_129 : decode b_m_run 129 = .ok (.iaload, 1) := by decide +kernel
theorem d_m_run_130 : decode b_m_run 130 = .ok (.aload_n 0, 1) := by decide +kernel
theorem d_m_run_131 : decode b_m_run 131 = .ok (.getfield 16, 3) := by decide +kernel
theorem d_m_run_134 : decode b_m_run 134 = .ok (.iconst 3, 1) := by decide +kernel
theorem d_m_run_135 : decode b_m_run 135 = .ok (.iload_n 1, 1) := by decide +kernel
theorem d_m_run_136 : decode b_m_run 136 = .ok (.imul, 1) := by decide +kernel
theorem d_m_run_137 : decode b_m_run 137 = .ok (.iaload, 1) := by decide +kernel
theorem d_m_run_138 : decode b_m_run 138 = .ok (.iastore, 1) := by decide +kernel
theorem d_m_run_139 : decode b_m_run 139 = .ok (.aload_n 0, 1) := by decide +kernel
theorem d_m_run_140 : decode b_m_run 140 = .ok (.getfield 31, 3) := by decide +kernel
theorem d_m_run_143 : decode b_m_run 143 = .ok (.iload_n 1, 1) := by decide +kernel
theorem d_m_run_144 : decode b_m_run 144 = .ok (.iaload, 1) := by decide +kernel
theorem d_m_run_145 : decode b_m_run 145 = .ok (.iconst 3, 1) := by decide +kernel
theorem d_m_run_146 : decode b_m_run 146 = .ok (.if_icmp .ne 8, 3) := by decide +kernel
theorem d_m_run_149 : decode b_m_run 149 = .ok (.aload_n 0, 1) := by decide +kernel
theorem d_m_run_150 : decode b_m_run 150 = .ok (.iload_n 1, 1) := by decide +kernel
theorem d_m_run_151 : decode b_m_run 151 = .ok (.invokevirtual 61, 3) := by decide +kernel
theorem d_m_run_154 : decode b_m_run 154 = .ok (.iload_n 1, 1) := by decide +kernel
theorem d_m_run_155 : decode b_m_run 155 = .ok (.ireturn, 1) := by decide +kernel
theorem d_m_queued_0 : decode b_m_queued 0 = .ok (.aload_n 0, 1) := by decide +kernel
theorem d_m_queued_1 : decode b_m_queued 1 = .ok (.iconst 0, 1) := by decide +kernel
theorem d_m_queued_2 : decode b_m_queued 2 = .ok (.putfield 47, 3) := by decide +kernel
theorem d_m_queued_5 : decode b_m_queued 5 = .ok (.aload_n 0, 1) := by decide +kernel
theorem d_m_queued_6 : decode b_m_queued 6 = .ok (.getfield 99, 3) := by decide +kernel
theorem d_m_queued_9 : decode b_m_queued 9 = .ok (.ireturn, 1) := by decide +kernel
theorem d_m_used_0 : decode b_m_used 0 = .ok (.aload_n 0, 1) := by decide +kernel
theorem d_m_used_1 : decode b_m_used 1 = .ok (.iconst 0, 1) := by decide +kernel
theorem d_m_used_2 : decode b_m_used 2 = .ok (.putfield 47, 3) := by decide +kernel
theorem d_m_used_5 : decode b_m_used 5 = .ok (.iconst 0, 1) := by decide +kernel
theorem d_m_used_6 : decode b_m_used 6 = .ok (.istore_n 1, 1) := by decide +kernel
theorem d_m_used_7 : decode b_m_used 7 = .ok (.iconst 0, 1) := by decide +kernel
theorem d_m_used_8 : decode b_m_used 8 = .ok (.istore_n 2, 1) := by decide +kernel
theorem d_m_used_9 : decode b_m_used 9 = .ok (.iload_n 2, 1) := by decide +kernel
theorem d_m_used_10 : decode b_m_used 10 = .ok (.bipush 24, 2) := by decide +kernel
theorem d_m_used_12 : decode b_m_used 12 = .ok (.if_icmp .ge 28, 3) := by decide +kernel
theorem d_m_used_15 : decode b_m_used 15 = .ok (.aload_n 0, 1) := by decide +kernel
theorem d_m_used_16 : decode b_m_used 16 = .ok (.getfield 7, 3) := by decide +kernel
theorem d_m_used_19 : decode b_m_used 19 = .ok (.iload_n 2, 1) := by decide +kernel
theorem d_m_used_20 : decode b_m_used 20 = .ok (.iaload, 1) := by decide +kernel
theorem d_m_used_21 : decode b_m_used 21 = .ok (.ifCond .lt 11, 3) := by decide +kernel
theorem d_m_used_24 : decode b_m_used 24 = .ok (.iload_n 1, 1) := by decide +kernel
theorem d_m_used_25 : decode b_m_used 25 = .ok (.iconst 1, 1) := by decide +kernel
theorem d_m_used_26 : decode b_m_used 26 = .ok (.iload_n 2, 1) := by decide +kernel
theorem d_m_used_27 : decode b_m_used 27 = .ok (.ishl, 1) := by decide +kernel
theorem d_m_used_28 : decode b_m_used 28 = .ok (.ior, 1) := by decide +kernel
theorem d_m_used_29 : decode b_m_used 29 = .ok (.goto 4, 3) := by decide +kernel
theorem d_m_used_32 : decode b_m_used 32 = .ok (.iload_n 1, 1) := by decide +kernel
theorem d_m_used_33 : decode b_m_used 33 = .ok (.istore_n 1, 1) := by decide +kernel
theorem d_m_used_34 : decode b_m_used 34 = .ok (.iinc 2 1, 3) := by decide +kernel
theorem d_m_used_37 : decode b_m_used 37 = .ok (.goto (-28), 3) := by decide +kernel
theorem d_m_used_40 : decode b_m_used 40 = .ok (.iload_n 1, 1) := by decide +kernel
theorem d_m_used_41 : decode b_m_used 41 = .ok (.ireturn, 1) := by decide +kernel
theorem d_m_kind_0 : decode b_m_kind 0 = .ok (.aload_n 0, 1) := by decide +kernel
theorem d_m_kind_1 : decode b_m_kind 1 = .ok (.aload_n 0, 1) := by decide +kernel
theorem d_m_kind_2 : decode b_m_kind 2 = .ok (.iload_n 1, 1) := by decide +kernel
theorem d_m_kind_3 : decode b_m_kind 3 = .ok (.invokevirtual 65, 3) := by decide +kernel
theorem d_m_kind_6 : decode b_m_kind 6 = .ok (.ifCond .eq 7, 3) := by decide +kernel
theorem d_m_kind_9 : decode b_m_kind 9 = .ok (.iconst 0, 1) := by decide +kernel
theorem d_m_kind_10 : decode b_m_kind 10 = .ok (.goto 4, 3) := by decide +kernel
theorem d_m_kind_13 : decode b_m_kind 13 = .ok (.iconst 1, 1) := by decide +kernel
theorem d_m_kind_14 : decode b_m_kind 14 = .ok (.putfield 47, 3) := by decide +kernel
theorem d_m_kind_17 : decode b_m_kind 17 = .ok (.aload_n 0, 1) := by decide +kernel
theorem d_m_kind_18 : decode b_m_kind 18 = .ok (.getfield 47, 3) := by decide +kernel
theorem d_m_kind_21 : decode b_m_kind 21 = .ok (.ifCond .le 7, 3) := by decide +kernel
theorem d_m_kind_24 : decode b_m_kind 24 = .ok (.iconst 0, 1) := by decide +kernel
theorem d_m_kind_25 : decode b_m_kind 25 = .ok (.goto 18, 3) := by decide +kernel
theorem d_m_kind_28 : decode b_m_kind 28 = .ok (.aload_n 0, 1) := by decide +kernel
theorem d_m_kind_29 : decode b_m_kind 29 = .ok (.getfield 7, 3) := by decide +kernel
theorem d_m_kind_32 : decode b_m_kind 32 = .ok (.iload_n 1, 1) := by decide +kernel
theorem d_m_kind_33 : decode b_m_kind 33 = .ok (.iaload, 1) := by decide +kernel
theorem d_m_kind_34 : decode b_m_kind 34 = .ok (.iconst 4, 1) := by decide +kernel
theorem d_m_kind_35 : decode b_m_kind 35 = .ok (.aload_n 0, 1) := by decide +kernel
theorem d_m_kind_36 : decode b_m_kind 36 = .ok (.getfield 28, 3) := by decide +kernel
theorem d_m_kind_39 : decode b_m_kind 39 = .ok (.iload_n 1, 1) := by decide +kernel
theorem d_m_kind_40 : decode b_m_kind 40 = .ok (.iaload, 1) := by decide +kernel
theorem d_m_kind_41 : decode b_m_kind 41 = .ok (.imul, 1) := by decide +kernel
theorem d_m_kind_42 : decode b_m_kind 42 = .ok (.iadd, 1) := by decide +kernel
theorem d_m_kind_43 : decode b_m_kind 43 = .ok (.ireturn, 1) := by decide +kernel
theorem d_m_serial_0 : decode b_m_serial 0 = .ok (.aload_n 0, 1) := by decide +kernel
theorem d_m_serial_1 : decode b_m_serial 1 = .ok (.aload_n 0, 1) := by decide +kernel
theorem d_m_serial_2 : decode b_m_serial 2 = .ok (.iload_n 1, 1) := by decide +kernel
theorem d_m_serial_3 : decode b_m_serial 3 = .ok (.invokevirtual 65, 3) := by decide +kernel
theorem d_m_serial_6 : decode b_m_serial 6 = .ok (.ifCond .eq 7, 3) := by decide +kernel
theorem d_m_serial_9 : decode b_m_serial 9 = .ok (.iconst 0, 1) := by decide +kernel
theorem d_m_serial_10 : decode b_m_serial 10 = .ok (.goto 4, 3) := by decide +kernel
theorem d_m_serial_13 : decode b_m_serial 13 = .ok (.iconst 1, 1) := by decide +kernel
theorem d_m_serial_14 : decode b_m_serial 14 = .ok (.putfield 47, 3) := by decide +kernel
theorem d_m_serial_17 : decode b_m_serial 17 = .ok (.aload_n 0, 1) := by decide +kernel
theorem d_m_serial_18 : decode b_m_serial 18 = .ok (.getfield 47, 3) := by decide +kernel
theorem d_m_serial_21 : decode b_m_serial 21 = .ok (.ifCond .le 7, 3) := by decide +kernel
theorem d_m_serial_24 : decode b_m_serial 24 = .ok (.iconst 0, 1) := by decide +kernel
theorem d_m_serial_25 : decode b_m_serial 25 = .ok (.goto 9, 3) := by decide +kernel
theorem d_m_serial_28 : decode b_m_serial 28 = .ok (.aload_n 0, 1) := by decide +kernel
theorem d_m_serial_29 : decode b_m_serial 29 = .ok (.getfield 13, 3) := by decide +kernel
theorem d_m_serial_32 : decode b_m_serial 32 = .ok (.iload_n 1, 1) := by decide +kernel
theorem d_m_serial_33 : decode b_m_serial 33 = .ok (.iaload, 1) := by decide +kernel
theorem d_m_serial_34 : decode b_m_serial 34 = .ok (.ireturn, 1) := by decide +kernel
theorem d_m_collections_0 : decode b_m_collections 0 = .ok (.aload_n 0, 1) := by decide +kernel
theorem d_m_collections_1 : decode b_m_collections 1 = .ok (.iconst 0, 1) := by decide +kernel
theorem d_m_collections_2 : decode b_m_collections 2 = .ok (.putfield 47, 3) := by decide +kernel
theorem d_m_collections_5 : decode b_m_collections 5 = .ok (.aload_n 0, 1) := by decide +kernel
theorem d_m_collections_6 : decode b_m_collections 6 = .ok (.getfield 90, 3) := by decide +kernel
theorem d_m_collections_9 : decode b_m_collections 9 = .ok (.ireturn, 1) := by decide +kernel
end
section
section RowsM
variable {p : Program} {l : Launch} {e : Env} {R : Room} {s : State} {m : MethodId} {args : Array Value} {below : List Frame} {meth : Method} {c : Code} {cells slots nL : Nat} {Q : State → Prop} {D : va_G} {w0 : va_W} {cc : ByteArray} {c0 : Cond} {pc : Nat} {lv : List (Nat × Value)} {st : List Value} {cI cB cL : ClassId} {h : Nat → Nat} {σ : St}
theorem in_M : ∀ w ∈ u_ws R_M F_M 16, w ∈ c0 :: wM := fun w h => List.mem_cons_of_mem _ (inM_u w h)
theorem mn_0 (Z : zC p s m args meth c cc nL R_M (c0 :: wM) D zCl (zTy cI cB cL) w0) (d : decode cc pc = .ok (.getfield 47, 3)) (k : zAt p l e R s m args below meth c D zCl w0 nL cells slots Q (wm h cI cB σ) (pc + 3) lv (.int (σ 0 0) :: st)) : zAt p l e R s m args below meth c D zCl w0 nL cells slots Q (wm h cI cB σ) pc lv (.ref (h 0) :: st) := z_get Z in_M 0 rfl rfl 0 (by decide) (List.mem_cons_of_mem _ lk_M_thrown) rfl d k
theorem mp_0 (Z : zC p s m args meth c cc nL R_M (c0 :: wM) D zCl (zTy cI cB cL) w0) {x : Int32} (d : decode cc pc = .ok (.putfield 47, 3)) (k : zAt p l e R s m args below meth c D zCl w0 nL cells slots Q (wm h cI cB (va_up σ 0 (upd (σ 0) 0 x))) (pc + 3) lv st) : zAt p l e R s m args below meth c D zCl w0 nL cells slots Q (wm h cI cB σ) pc lv (.int x :: .ref (h 0) :: st) := z_put (ws' := (wm h cI cB (va_up σ 0 (upd (σ 0) 0 x)))) Z in_M t_M t_M_ok n_M 0 rfl rfl 0 (by decide) (List.mem_cons_of_mem _ lk_M_thrown) rfl (ty := .int) (by decide +kernel) rfl rfl (Nat.le_of_ble_eq_true rfl) d rfl k
theorem mn_2 (Z : zC p s m args meth c cc nL R_M (c0 :: wM) D zCl (zTy cI cB cL) w0) (d : decode cc pc = .ok (.getfield 58, 3)) (k : zAt p l e R s m args below meth c D zCl w0 nL cells slots Q (wm h cI cB σ) (pc + 3) lv (.int (σ 0 2) :: st)) : zAt p l e R s m args below meth c D zCl w0 nL cells slots Q (wm h cI cB σ) pc lv (.ref (h 0) :: st) := z_get Z in_M 0 rfl rfl 1 (by decide) (List.mem_cons_of_mem _ lk_M_made) rfl d k
theorem mp_2 (Z : zC p s m args meth c cc nL R_M (c0 :: wM) D zCl (zTy cI cB cL) w0) {x : Int32} (d : decode cc pc = .ok (.putfield 58, 3)) (k : zAt p l e R s m args below meth c D zCl w0 nL cells slots Q (wm h cI cB (va_up σ 0 (upd (σ 0) 2 x))) (pc + 3) lv st) : zAt p l e R s m args below meth c D zCl w0 nL cells slots Q (wm h cI cB σ) pc lv (.int x :: .ref (h 0) :: st) := z_put (ws' := (wm h cI cB (va_up σ 0 (upd (σ 0) 2 x)))) Z in_M t_M t_M_ok n_M 0 rfl rfl 1 (by decide) (List.mem_cons_of_mem _ lk_M_made) rfl (ty := .int) (by decide +kernel) rfl rfl (Nat.le_of_ble_eq_true rfl) d rfl k
theorem mn_3 (Z : zC p s m args meth c cc nL R_M (c0 :: wM) D zCl (zTy cI cB cL) w0) (d : decode cc pc = .ok (.getfield 90, 3)) (k : zAt p l e R s m args below meth c D zCl w0 nL cells slots Q (wm h cI cB σ) (pc + 3) lv (.int (σ 0 3) :: st)) : zAt p l e R s m args below meth c D zCl w0 nL cells slots Q (wm h cI cB σ) pc lv (.ref (h 0) :: st) := z_get Z in_M 0 rfl rfl 2 (by decide) (List.mem_cons_of_mem _ lk_M_collections) rfl d k
theorem mp_3 (Z : zC p s m args meth c cc nL R_M (c0 :: wM) D zCl (zTy cI cB cL) w0) {x : Int32} (d : decode cc pc = .ok (.putfield 90, 3)) (k : zAt p l e R s m args below meth c D zCl w0 nL cells slots Q (wm h cI cB (va_up σ 0 (upd (σ 0) 3 x))) (pc + 3) lv st) : zAt p l e R s m args below meth c D zCl w0 nL cells slots Q (wm h cI cB σ) pc lv (.int x :: .ref (h 0) :: st) := z_put (ws' := (wm h cI cB (va_up σ 0 (upd (σ 0) 3 x)))) Z in_M t_M t_M_ok n_M 0 rfl rfl 2 (by decide) (List.mem_cons_of_mem _ lk_M_collections) rfl (ty := .int) (by decide +kernel) rfl rfl (Nat.le_of_ble_eq_true rfl) d rfl k
theorem mg_1 (Z : zC p s m args meth c cc nL R_M (c0 :: wM) D zCl (zTy cI cB cL) w0) (d : decode cc pc = .ok (.getfield 7, 3)) (k : zAt p l e R s m args below meth c D zCl w0 nL cells slots Q (wm h cI cB σ) (pc + 3) lv (.ref (h 1) :: st)) : zAt p l e R s m args below meth c D zCl w0 nL cells slots Q (wm h cI cB σ) pc lv (.ref (h 0) :: st) := z_get Z in_M 0 rfl rfl 3 (by decide) (List.mem_cons_of_mem _ lk_M_kinds) rfl d k
theorem ml_1 (Z : zC p s m args meth c cc nL R_M (c0 :: wM) D zCl (zTy cI cB cL) w0) {j : Nat} (hj : j < 24) (d : decode cc pc = .ok (.iaload, 1)) (k : zAt p l e R s m args below meth c D zCl w0 nL cells slots Q (wm h cI cB σ) (pc + 1) lv (.int (σ 1 j) :: st)) : zAt p l e R s m args below meth c D zCl w0 nL cells slots Q (wm h cI cB σ) pc lv (.int (nI j) :: .ref (h 1) :: st) := z_iald Z 1 0 rfl rfl hj (by decide) d k
theorem ms_1 (Z : zC p s m args meth c cc nL R_M (c0 :: wM) D zCl (zTy cI cB cL) w0) {j : Nat} {x : Int32} (hj : j < 24) (d : decode cc pc = .ok (.iastore, 1)) (k : zAt p l e R s m args below meth c D zCl w0 nL cells slots Q (wm h cI cB (va_up σ 1 (upd (σ 1) j x))) (pc + 1) lv st) : zAt p l e R s m args below meth c D zCl w0 nL cells slots Q (wm h cI cB σ) pc lv (.int x :: .int (nI j) :: .ref (h 1) :: st) := z_iast Z 1 0 rfl rfl hj (by decide) d rfl k
theorem mg_2 (Z : zC p s m args meth c cc nL R_M (c0 :: wM) D zCl (zTy cI cB cL) w0) (d : decode cc pc = .ok (.getfield 13, 3)) (k : zAt p l e R s m args below meth c D zCl w0 nL cells slots Q (wm h cI cB σ) (pc + 3) lv (.ref (h 2) :: st)) : zAt p l e R s m args below meth c D zCl w0 nL cells slots Q (wm h cI cB σ) pc lv (.ref (h 0) :: st) := z_get Z in_M 0 rfl rfl 4 (by decide) (List.mem_cons_of_mem _ lk_M_serials) rfl d k
theorem ml_2 (Z : zC p s m args meth c cc nL R_M (c0 :: wM) D zCl (zTy cI cB cL) w0) {j : Nat} (hj : j < 24) (d : decode cc pc = .ok (.iaload, 1)) (k : zAt p l e R s m args below meth c D zCl w0 nL cells slots Q (wm h cI cB σ) (pc + 1) lv (.int (σ 2 j) :: st)) : zAt p l e R s m args below meth c D zCl w0 nL cells slots Q (wm h cI cB σ) pc lv (.int (nI j) :: .ref (h 2) :: st) := z_iald Z 2 0 rfl rfl hj (by decide) d k
theorem ms_2 (Z : zC p s m args meth c cc nL R_M (c0 :: wM) D zCl (zTy cI cB cL) w0) {j : Nat} {x : Int32} (hj : j < 24) (d : decode cc pc = .ok (.iastore, 1)) (k : zAt p l e R s m args below meth c D zCl w0 nL cells slots Q (wm h cI cB (va_up σ 2 (upd (σ 2) j x))) (pc + 1) lv st) : zAt p l e R s m args below meth c D zCl w0 nL cells slots Q (wm h cI cB σ) pc lv (.int x :: .int (nI j) :: .ref (h 2) :: st) := z_iast Z 2 0 rfl rfl hj (by decide) d rfl k
theorem mg_3 (Z : zC p s m args meth c cc nL R_M (c0 :: wM) D zCl (zTy cI cB cL) w0) (d : decode cc pc = .ok (.getfield 16, 3)) (k : zAt p l e R s m args below meth c D zCl w0 nL cells slots Q (wm h cI cB σ) (pc + 3) lv (.ref (h 3) :: st)) : zAt p l e R s m args below meth c D zCl w0 nL cells slots Q (wm h cI cB σ) pc lv (.ref (h 0) :: st) := z_get Z in_M 0 rfl rfl 5 (by decide) (List.mem_cons_of_mem _ lk_M_fields) rfl d k
theorem ml_3 (Z : zC p s m args meth c cc nL R_M (c0 :: wM) D zCl (zTy cI cB cL) w0) {j : Nat} (hj : j < 72) (d : decode cc pc = .ok (.iaload, 1)) (k : zAt p l e R s m args below meth c D zCl w0 nL cells slots Q (wm h cI cB σ) (pc + 1) lv (.int (σ 3 j) :: st)) : zAt p l e R s m args below meth c D zCl w0 nL cells slots Q (wm h cI cB σ) pc lv (.int (nI j) :: .ref (h 3) :: st) := z_iald Z 3 0 rfl rfl hj (by decide) d k
theorem ms_3 (Z : zC p s m args meth c cc nL R_M (c0 :: wM) D zCl (zTy cI cB cL) w0) {j : Nat} {x : Int32} (hj : j < 72) (d : decode cc pc = .ok (.iastore, 1)) (k : zAt p l e R s m args below meth c D zCl w0 nL cells slots Q (wm h cI cB (va_up σ 3 (upd (σ 3) j x))) (pc + 1) lv st) : zAt p l e R s m args below meth c D zCl w0 nL cells slots Q (wm h cI cB σ) pc lv (.int x :: .int (nI j) :: .ref (h 3) :: st) := z_iast Z 3 0 rfl rfl hj (by decide) d rfl k
theorem mg_6 (Z : zC p s m args meth c cc nL R_M (c0 :: wM) D zCl (zTy cI cB cL) w0) (d : decode cc pc = .ok (.getfield 19, 3)) (k : zAt p l e R s m args below meth c D zCl w0 nL cells slots Q (wm h cI cB σ) (pc + 3) lv (.ref (h 6) :: st)) : zAt p l e R s m args below meth c D zCl w0 nL cells slots Q (wm h cI cB σ) pc lv (.ref (h 0) :: st) := z_get Z in_M 0 rfl rfl 6 (by decide) (List.mem_cons_of_mem _ lk_M_entries) rfl d k
theorem ml_6 (Z : zC p s m args meth c cc nL R_M (c0 :: wM) D zCl (zTy cI cB cL) w0) {j : Nat} (hj : j < 24) (d : decode cc pc = .ok (.iaload, 1)) (k : zAt p l e R s m args below meth c D zCl w0 nL cells slots Q (wm h cI cB σ) (pc + 1) lv (.int (σ 6 j) :: st)) : zAt p l e R s m args below meth c D zCl w0 nL cells slots Q (wm h cI cB σ) pc lv (.int (nI j) :: .ref (h 6) :: st) := z_iald Z 6 0 rfl rfl hj (by decide) d k
theorem ms_6 (Z : zC p s m args meth c cc nL R_M (c0 :: wM) D zCl (zTy cI cB cL) w0) {j : Nat} {x : Int32} (hj : j < 24) (d : decode cc pc = .ok (.iastore, 1)) (k : zAt p l e R s m args below meth c D zCl w0 nL cells slots Q (wm h cI cB (va_up σ 6 (upd (σ 6) j x))) (pc + 1) lv st) : zAt p l e R s m args below meth c D zCl w0 nL cells slots Q (wm h cI cB σ) pc lv (.int x :: .int (nI j) :: .ref (h 6) :: st) := z_iast Z 6 0 rfl rfl hj (by decide) d rfl k
theorem mg_4 (Z : zC p s m args meth c cc nL R_M (c0 :: wM) D zCl (zTy cI cB cL) w0) (d : decode cc pc = .ok (.getfield 22, 3)) (k : zAt p l e R s m args below meth c D zCl w0 nL cells slots Q (wm h cI cB σ) (pc + 3) lv (.ref (h 4) :: st)) : zAt p l e R s m args below meth c D zCl w0 nL cells slots Q (wm h cI cB σ) pc lv (.ref (h 0) :: st) := z_get Z in_M 0 rfl rfl 7 (by decide) (List.mem_cons_of_mem _ lk_M_keys) rfl d k
theorem ml_4 (Z : zC p s m args meth c cc nL R_M (c0 :: wM) D zCl (zTy cI cB cL) w0) {j : Nat} (hj : j < 96) (d : decode cc pc = .ok (.iaload, 1)) (k : zAt p l e R s m args below meth c D zCl w0 nL cells slots Q (wm h cI cB σ) (pc + 1) lv (.int (σ 4 j) :: st)) : zAt p l e R s m args below meth c D zCl w0 nL cells slots Q (wm h cI cB σ) pc lv (.int (nI j) :: .ref (h 4) :: st) := z_iald Z 4 0 rfl rfl hj (by decide) d k
theorem ms_4 (Z : zC p s m args meth c cc nL R_M (c0 :: wM) D zCl (zTy cI cB cL) w0) {j : Nat} {x : Int32} (hj : j < 96) (d : decode cc pc = .ok (.iastore, 1)) (k : zAt p l e R s m args below meth c D zCl w0 nL cells slots Q (wm h cI cB (va_up σ 4 (upd (σ 4) j x))) (pc + 1) lv st) : zAt p l e R s m args below meth c D zCl w0 nL cells slots Q (wm h cI cB σ) pc lv (.int x :: .int (nI j) :: .ref (h 4) :: st) := z_iast Z 4 0 rfl rfl hj (by decide) d rfl k
theorem mg_5 (Z : zC p s m args meth c cc nL R_M (c0 :: wM) D zCl (zTy cI cB cL) w0) (d : decode cc pc = .ok (.getfield 25, 3)) (k : zAt p l e R s m args below meth c D zCl w0 nL cells slots Q (wm h cI cB σ) (pc + 3) lv (.ref (h 5) :: st)) : zAt p l e R s m args below meth c D zCl w0 nL cells slots Q (wm h cI cB σ) pc lv (.ref (h 0) :: st) := z_get Z in_M 0 rfl rfl 8 (by decide) (List.mem_cons_of_mem _ lk_M_values) rfl d k
theorem ml_5 (Z : zC p s m args meth c cc nL R_M (c0 :: wM) D zCl (zTy cI cB cL) w0) {j : Nat} (hj : j < 96) (d : decode cc pc = .ok (.iaload, 1)) (k : zAt p l e R s m args below meth c D zCl w0 nL cells slots Q (wm h cI cB σ) (pc + 1) lv (.int (σ 5 j) :: st)) : zAt p l e R s m args below meth c D zCl w0 nL cells slots Q (wm h cI cB σ) pc lv (.int (nI j) :: .ref (h 5) :: st) := z_iald Z 5 0 rfl rfl hj (by decide) d k
theorem ms_5 (Z : zC p s m args meth c cc nL R_M (c0 :: wM) D zCl (zTy cI cB cL) w0) {j : Nat} {x : Int32} (hj : j < 96) (d : decode cc pc = .ok (.iastore, 1)) (k : zAt p l e R s m args below meth c D zCl w0 nL cells slots Q (wm h cI cB (va_up σ 5 (upd (σ 5) j x))) (pc + 1) lv st) : zAt p l e R s m args below meth c D zCl w0 nL cells slots Q (wm h cI cB σ) pc lv (.int x :: .int (nI j) :: .ref (h 5) :: st) := z_iast Z 5 0 rfl rfl hj (by decide) d rfl k
theorem mg_7 (Z : zC p s m args meth c cc nL R_M (c0 :: wM) D zCl (zTy cI cB cL) w0) (d : decode cc pc = .ok (.getfield 28, 3)) (k : zAt p l e R s m args below meth c D zCl w0 nL cells slots Q (wm h cI cB σ) (pc + 3) lv (.ref (h 7) :: st)) : zAt p l e R s m args below meth c D zCl w0 nL cells slots Q (wm h cI cB σ) pc lv (.ref (h 0) :: st) := z_get Z in_M 0 rfl rfl 9 (by decide) (List.mem_cons_of_mem _ lk_M_states) rfl d k
theorem ml_7 (Z : zC p s m args meth c cc nL R_M (c0 :: wM) D zCl (zTy cI cB cL) w0) {j : Nat} (hj : j < 24) (d : decode cc pc = .ok (.iaload, 1)) (k : zAt p l e R s m args below meth c D zCl w0 nL cells slots Q (wm h cI cB σ) (pc + 1) lv (.int (σ 7 j) :: st)) : zAt p l e R s m args below meth c D zCl w0 nL cells slots Q (wm h cI cB σ) pc lv (.int (nI j) :: .ref (h 7) :: st) := z_iald Z 7 0 rfl rfl hj (by decide) d k
theorem ms_7 (Z : zC p s m args meth c cc nL R_M (c0 :: wM) D zCl (zTy cI cB cL) w0) {j : Nat} {x : Int32} (hj : j < 24) (d : decode cc pc = .ok (.iastore, 1)) (k : zAt p l e R s m args below meth c D zCl w0 nL cells slots Q (wm h cI cB (va_up σ 7 (upd (σ 7) j x))) (pc + 1) lv st) : zAt p l e R s m args below meth c D zCl w0 nL cells slots Q (wm h cI cB σ) pc lv (.int x :: .int (nI j) :: .ref (h 7) :: st) := z_iast Z 7 0 rfl rfl hj (by decide) d rfl k
theorem mg_8 (Z : zC p s m args meth c cc nL R_M (c0 :: wM) D zCl (zTy cI cB cL) w0) (d : decode cc pc = .ok (.getfield 31, 3)) (k : zAt p l e R s m args below meth c D zCl w0 nL cells slots Q (wm h cI cB σ) (pc + 3) lv (.ref (h 8) :: st)) : zAt p l e R s m args below meth c D zCl w0 nL cells slots Q (wm h cI cB σ) pc lv (.ref (h 0) :: st) := z_get Z in_M 0 rfl rfl 10 (by decide) (List.mem_cons_of_mem _ lk_M_actions) rfl d k
theorem ml_8 (Z : zC p s m args meth c cc nL R_M (c0 :: wM) D zCl (zTy cI cB cL) w0) {j : Nat} (hj : j < 24) (d : decode cc pc = .ok (.iaload, 1)) (k : zAt p l e R s m args below meth c D zCl w0 nL cells slots Q (wm h cI cB σ) (pc + 1) lv (.int (σ 8 j) :: st)) : zAt p l e R s m args below meth c D zCl w0 nL cells slots Q (wm h cI cB σ) pc lv (.int (nI j) :: .ref (h 8) :: st) := z_iald Z 8 0 rfl rfl hj (by decide) d k
theorem ms_8 (Z : zC p s m args meth c cc nL R_M (c0 :: wM) D zCl (zTy cI cB cL) w0) {j : Nat} {x : Int32} (hj : j < 24) (d : decode cc pc = .ok (.iastore, 1)) (k : zAt p l e R s m args below meth c D zCl w0 nL cells slots Q (wm h cI cB (va_up σ 8 (upd (σ 8) j x))) (pc + 1) lv st) : zAt p l e R s m args below meth c D zCl w0 nL cells slots Q (wm h cI cB σ) pc lv (.int x :: .int (nI j) :: .ref (h 8) :: st) := z_iast Z 8 0 rfl rfl hj (by decide) d rfl k
theorem mg_9 (Z : zC p s m args meth c cc nL R_M (c0 :: wM) D zCl (zTy cI cB cL) w0) (d : decode cc pc = .ok (.getfield 34, 3)) (k : zAt p l e R s m args below meth c D zCl w0 nL cells slots Q (wm h cI cB σ) (pc + 3) lv (.ref (h 9) :: st)) : zAt p l e R s m args below meth c D zCl w0 nL cells slots Q (wm h cI cB σ) pc lv (.ref (h 0) :: st) := z_get Z in_M 0 rfl rfl 11 (by decide) (List.mem_cons_of_mem _ lk_M_places) rfl d k
theorem ml_9 (Z : zC p s m args meth c cc nL R_M (c0 :: wM) D zCl (zTy cI cB cL) w0) {j : Nat} (hj : j < 24) (d : decode cc pc = .ok (.iaload, 1)) (k : zAt p l e R s m args below meth c D zCl w0 nL cells slots Q (wm h cI cB σ) (pc + 1) lv (.int (σ 9 j) :: st)) : zAt p l e R s m args below meth c D zCl w0 nL cells slots Q (wm h cI cB σ) pc lv (.int (nI j) :: .ref (h 9) :: st) := z_iald Z 9 0 rfl rfl hj (by decide) d k
theorem ms_9 (Z : zC p s m args meth c cc nL R_M (c0 :: wM) D zCl (zTy cI cB cL) w0) {j : Nat} {x : Int32} (hj : j < 24) (d : decode cc pc = .ok (.iastore, 1)) (k : zAt p l e R s m args below meth c D zCl w0 nL cells slots Q (wm h cI cB (va_up σ 9 (upd (σ 9) j x))) (pc + 1) lv st) : zAt p l e R s m args below meth c D zCl w0 nL cells slots Q (wm h cI cB σ) pc lv (.int x :: .int (nI j) :: .ref (h 9) :: st) := z_iast Z 9 0 rfl rfl hj (by decide) d rfl k
theorem mg_10 (Z : zC p s m args meth c cc nL R_M (c0 :: wM) D zCl (zTy cI cB cL) w0) (d : decode cc pc = .ok (.getfield 37, 3)) (k : zAt p l e R s m args below meth c D zCl w0 nL cells slots Q (wm h cI cB σ) (pc + 3) lv (.ref (h 10) :: st)) : zAt p l e R s m args below meth c D zCl w0 nL cells slots Q (wm h cI cB σ) pc lv (.ref (h 0) :: st) := z_get Z in_M 0 rfl rfl 12 (by decide) (List.mem_cons_of_mem _ lk_M_roots) rfl d k
theorem ml_10 (Z : zC p s m args meth c cc nL R_M (c0 :: wM) D zCl (zTy cI cB cL) w0) {j : Nat} (hj : j < 6) (d : decode cc pc = .ok (.iaload, 1)) (k : zAt p l e R s m args below meth c D zCl w0 nL cells slots Q (wm h cI cB σ) (pc + 1) lv (.int (σ 10 j) :: st)) : zAt p l e R s m args below meth c D zCl w0 nL cells slots Q (wm h cI cB σ) pc lv (.int (nI j) :: .ref (h 10) :: st) := z_iald Z 10 0 rfl rfl hj (by decide) d k
theorem ms_10 (Z : zC p s m args meth c cc nL R_M (c0 :: wM) D zCl (zTy cI cB cL) w0) {j : Nat} {x : Int32} (hj : j < 6) (d : decode cc pc = .ok (.iastore, 1)) (k : zAt p l e R s m args below meth c D zCl w0 nL cells slots Q (wm h cI cB (va_up σ 10 (upd (σ 10) j x))) (pc + 1) lv st) : zAt p l e R s m args below meth c D zCl w0 nL cells slots Q (wm h cI cB σ) pc lv (.int x :: .int (nI j) :: .ref (h 10) :: st) := z_iast Z 10 0 rfl rfl hj (by decide) d rfl k
theorem mg_11 (Z : zC p s m args meth c cc nL R_M (c0 :: wM) D zCl (zTy cI cB cL) w0) (d : decode cc pc = .ok (.getfield 40, 3)) (k : zAt p l e R s m args below meth c D zCl w0 nL cells slots Q (wm h cI cB σ) (pc + 3) lv (.ref (h 11) :: st)) : zAt p l e R s m args below meth c D zCl w0 nL cells slots Q (wm h cI cB σ) pc lv (.ref (h 0) :: st) := z_get Z in_M 0 rfl rfl 13 (by decide) (List.mem_cons_of_mem _ lk_M_queue) rfl d k
theorem ml_11 (Z : zC p s m args meth c cc nL R_M (c0 :: wM) D zCl (zTy cI cB cL) w0) {j : Nat} (hj : j < 24) (d : decode cc pc = .ok (.iaload, 1)) (k : zAt p l e R s m args below meth c D zCl w0 nL cells slots Q (wm h cI cB σ) (pc + 1) lv (.int (σ 11 j) :: st)) : zAt p l e R s m args below meth c D zCl w0 nL cells slots Q (wm h cI cB σ) pc lv (.int (nI j) :: .ref (h 11) :: st) := z_iald Z 11 0 rfl rfl hj (by decide) d k
theorem ms_11 (Z : zC p s m args meth c cc nL R_M (c0 :: wM) D zCl (zTy cI cB cL) w0) {j : Nat} {x : Int32} (hj : j < 24) (d : decode cc pc = .ok (.iastore, 1)) (k : zAt p l e R s m args below meth c D zCl w0 nL cells slots Q (wm h cI cB (va_up σ 11 (upd (σ 11) j x))) (pc + 1) lv st) : zAt p l e R s m args below meth c D zCl w0 nL cells slots Q (wm h cI cB σ) pc lv (.int x :: .int (nI j) :: .ref (h 11) :: st) := z_iast Z 11 0 rfl rfl hj (by decide) d rfl k
theorem mn_1 (Z : zC p s m args meth c cc nL R_M (c0 :: wM) D zCl (zTy cI cB cL) w0) (d : decode cc pc = .ok (.getfield 99, 3)) (k : zAt p l e R s m args below meth c D zCl w0 nL cells slots Q (wm h cI cB σ) (pc + 3) lv (.int (σ 0 1) :: st)) : zAt p l e R s m args below meth c D zCl w0 nL cells slots Q (wm h cI cB σ) pc lv (.ref (h 0) :: st) := z_get Z in_M 0 rfl rfl 14 (by decide) (List.mem_cons_of_mem _ lk_M_waiting) rfl d k
theorem mp_1 (Z : zC p s m args meth c cc nL R_M (c0 :: wM) D zCl (zTy cI cB cL) w0) {x : Int32} (d : decode cc pc = .ok (.putfield 99, 3)) (k : zAt p l e R s m args below meth c D zCl w0 nL cells slots Q (wm h cI cB (va_up σ 0 (upd (σ 0) 1 x))) (pc + 3) lv st) : zAt p l e R s m args below meth c D zCl w0 nL cells slots Q (wm h cI cB σ) pc lv (.int x :: .ref (h 0) :: st) := z_put (ws' := (wm h cI cB (va_up σ 0 (upd (σ 0) 1 x)))) Z in_M t_M t_M_ok n_M 0 rfl rfl 14 (by decide) (List.mem_cons_of_mem _ lk_M_waiting) rfl (ty := .int) (by decide +kernel) rfl rfl (Nat.le_of_ble_eq_true rfl) d rfl k
theorem mg_12 (Z : zC p s m args meth c cc nL R_M (c0 :: wM) D zCl (zTy cI cB cL) w0) (d : decode cc pc = .ok (.getfield 43, 3)) (k : zAt p l e R s m args below meth c D zCl w0 nL cells slots Q (wm h cI cB σ) (pc + 3) lv (.ref (h 12) :: st)) : zAt p l e R s m args below meth c D zCl w0 nL cells slots Q (wm h cI cB σ) pc lv (.ref (h 0) :: st) := z_get Z in_M 0 rfl rfl 15 (by decide) (List.mem_cons_of_mem _ lk_M_in) rfl d k
theorem ml_12 (Z : zC p s m args meth c cc nL R_M (c0 :: wM) D zCl (zTy cI cB cL) w0) {j : Nat} (hj : j < 24) (d : decode cc pc = .ok (.baload, 1)) (k : zAt p l e R s m args below meth c D zCl w0 nL cells slots Q (wm h cI cB σ) (pc + 1) lv (.int (σ 12 j) :: st)) : zAt p l e R s m args below meth c D zCl w0 nL cells slots Q (wm h cI cB σ) pc lv (.int (nI j) :: .ref (h 12) :: st) := z_zald Z 12 1 rfl rfl hj (by decide) d k
theorem ms_12 (Z : zC p s m args meth c cc nL R_M (c0 :: wM) D zCl (zTy cI cB cL) w0) {j : Nat} {x : Int32} (hj : j < 24) (d : decode cc pc = .ok (.bastore, 1)) (hx : vp_nar .boolean x = x) (k : zAt p l e R s m args below meth c D zCl w0 nL cells slots Q (wm h cI cB (va_up σ 12 (upd (σ 12) j x))) (pc + 1) lv st) : zAt p l e R s m args below meth c D zCl w0 nL cells slots Q (wm h cI cB σ) pc lv (.int x :: .int (nI j) :: .ref (h 12) :: st) := z_zast Z 12 1 rfl rfl hj (by decide) d (by rw [hx]; rfl) k
end RowsM
end
section
/-! the reference: a thing is a cell whose kind isn't -1 -/
def th (σ : St) (k : Nat) : St := va_up σ 0 (upd (σ 0) 0 (nI k))
theorem wf_th {σ : St} {k : Nat} (h : wf σ) : wf (th σ k) := h
def tM (σ : St) (x : Int32) : Prop := ∃ c, c < 24 ∧ x = nI c ∧ ¬ σ 1 c < 0
theorem tM_nI {σ : St} {c : Nat} (hc : c < 24) : tM σ (nI c) ↔ ¬ σ 1 c < 0 := by
  constructor
  · rintro ⟨d, hd, e, h⟩
    rw [(nI_eq (by omega) (by omega)).mp e]; exact h
  · intro h; exact ⟨c, hc, rfl, h⟩
theorem tM_neg {σ : St} {x : Int32} (h : x < 0) : ¬ tM σ x := by
  rintro ⟨c, hc, rfl, -⟩
  exact nI_pos (by omega) h
theorem tM_big {σ : St} {x : Int32} (h : nI 24 ≤ x) : ¬ tM σ x := by
  rintro ⟨c, hc, rfl, -⟩
  exact nI_ge hc (by decide) h
theorem inNg {x : Int32} {n : Nat} (h0 : ¬ x < 0) (h : ¬ nI n ≤ x) (hn : n < 2 ^ 31 := by decide) : ∃ j, j < n ∧ x = nI j := by
  obtain ⟨j, hj, rfl⟩ := nI_of h0
  exact ⟨j, Nat.not_le.mp (fun q => h ((nI_leI hn hj).mpr q)), rfl⟩
theorem le0 {x : Int32} (h : ¬ x < 0) : 0 ≤ x := Int32.not_lt.mp h
theorem lt0 {x : Int32} (h : x < 0) : ¬ 0 ≤ x := Int32.not_le.mpr h
/-- where the reference finds a key among the first n entries: the last place -/
def eoM (σ : St) (c : Nat) (k : Int32) (n : Nat) (v : Int32) : Prop := (∃ i, i < n ∧ v = nI (c * 4 + i) ∧ σ 4 (c * 4 + i) = k ∧ ∀ j, i < j → j < n → σ 4 (c * 4 + j) ≠ k) ∨ (v = -1 ∧ ∀ j, j < n → σ 4 (c * 4 + j) ≠ k)
theorem eoM_no {σ : St} {c n : Nat} {k v : Int32} (h : eoM σ c k n v) (hk : ¬ σ 4 (c * 4 + n) = k) : eoM σ c k (n + 1) v := by
  rcases h with ⟨i, h1, h2, h3, h4⟩ | ⟨h1, h2⟩
  · refine Or.inl ⟨i, by omega, h2, h3, fun j ha hb => ?_⟩
    by_cases e : j = n
    · rw [e]; exact hk
    · exact h4 j ha (by omega)
  · refine Or.inr ⟨h1, fun j hj => ?_⟩
    by_cases e : j = n
    · rw [e]; exact hk
    · exact h2 j (by omega)
theorem eoM_yes {σ : St} {c n : Nat} {k : Int32} (hk : σ 4 (c * 4 + n) = k) : eoM σ c k (n + 1) (nI (c * 4 + n)) := Or.inl ⟨n, by omega, rfl, hk, fun j h1 h2 => by omega⟩
theorem eoM_ge {σ : St} {c n : Nat} {k v : Int32} (h : eoM σ c k n v) (h0 : 0 ≤ v) : ∃ i, i < n ∧ v = nI (c * 4 + i) ∧ σ 4 (c * 4 + i) = k ∧ ∀ j, i < j → j < n → σ 4 (c * 4 + j) ≠ k :=
  h.resolve_right (fun q => by rw [q.1] at h0; exact absurd h0 (by decide))
theorem eoM_lt {σ : St} {c n : Nat} {k v : Int32} (h : eoM σ c k n v) (h0 : ¬ 0 ≤ v) (hn : n ≤ 4) (hc : c < 24) : ∀ j, j < n → σ 4 (c * 4 + j) ≠ k := by
  rcases h with ⟨i, h1, h2, -⟩ | h
  · exact absurd (by rw [h2]; exact nI_pos' (by omega)) h0
  · exact h.2
theorem eo_in {c i n : Nat} (hn : n ≤ 4) (hc : c < 24) (hi : i < n) : c * 4 + i < 96 := by omega
theorem tab_yes {σ : St} {x k : Int32} {v : Int32} {u : St} (h : (v = nI 1 ∧ tM σ x ∧ tM σ k ∧ isTab σ x ∧ u = th σ 0) ∨ (v = nI 0 ∧ (tM σ x ∧ tM σ k) ∧ ¬ isTab σ x ∧ u = th σ 2) ∨ (v = nI 0 ∧ ¬ (tM σ x ∧ tM σ k) ∧ u = th σ 1)) (e : ¬ v = 0) : tM σ x ∧ tM σ k ∧ isTab σ x ∧ u = th σ 0 := by
  rcases h with h | h | h
  · exact h.2
  · exact absurd h.1 e
  · exact absurd h.1 e
theorem tab_no {σ : St} {x k : Int32} {v : Int32} {u : St} (h : (v = nI 1 ∧ tM σ x ∧ tM σ k ∧ isTab σ x ∧ u = th σ 0) ∨ (v = nI 0 ∧ (tM σ x ∧ tM σ k) ∧ ¬ isTab σ x ∧ u = th σ 2) ∨ (v = nI 0 ∧ ¬ (tM σ x ∧ tM σ k) ∧ u = th σ 1)) (e : v = 0) : ((tM σ x ∧ tM σ k) ∧ ¬ isTab σ x ∧ u = th σ 2) ∨ (¬ (tM σ x ∧ tM σ k) ∧ u = th σ 1) := by
  rcases h with h | h | h
  · rw [h.1] at e; exact absurd e (by decide)
  · exact Or.inl h.2
  · exact Or.inr h.2
def fndM (σ : St) (x k v : Int32) (u : St) : Prop := (∃ c, c < 24 ∧ x = nI c ∧ tM σ x ∧ tM σ k ∧ σ 1 c = nI 2 ∧ u = th σ 0 ∧ ((∃ i, i < cnt σ c ∧ σ 4 (c * 4 + i) = k ∧ v = σ 5 (c * 4 + i)) ∨ ((∀ j, j < cnt σ c → σ 4 (c * 4 + j) ≠ k) ∧ v = -1))) ∨ ((tM σ x ∧ tM σ k) ∧ ¬ isTab σ x ∧ u = th σ 2) ∨ (¬ (tM σ x ∧ tM σ k) ∧ u = th σ 1)
theorem fnd_no {σ : St} {x k : Int32} {v : Int32} {u : St} {r : Int32} (h : (v = nI 1 ∧ tM σ x ∧ tM σ k ∧ isTab σ x ∧ u = th σ 0) ∨ (v = nI 0 ∧ (tM σ x ∧ tM σ k) ∧ ¬ isTab σ x ∧ u = th σ 2) ∨ (v = nI 0 ∧ ¬ (tM σ x ∧ tM σ k) ∧ u = th σ 1)) (e : v = 0) : fndM σ x k r u := Or.inr (tab_no h e)
def remM (σ : St) (x k v : Int32) (u : St) : Prop := (∃ c, c < 24 ∧ x = nI c ∧ tM σ x ∧ tM σ k ∧ σ 1 c = nI 2 ∧ ((∃ i, i < cnt σ c ∧ σ 4 (c * 4 + i) = k ∧ v = nI 1 ∧ u = drp (th σ 0) c i) ∨ ((∀ j, j < cnt σ c → σ 4 (c * 4 + j) ≠ k) ∧ v = nI 0 ∧ u = th σ 0))) ∨ ((tM σ x ∧ tM σ k) ∧ ¬ isTab σ x ∧ u = th σ 2) ∨ (¬ (tM σ x ∧ tM σ k) ∧ u = th σ 1)
theorem rem_no {σ : St} {x k : Int32} {v : Int32} {u : St} {r : Int32} (h : (v = nI 1 ∧ tM σ x ∧ tM σ k ∧ isTab σ x ∧ u = th σ 0) ∨ (v = nI 0 ∧ (tM σ x ∧ tM σ k) ∧ ¬ isTab σ x ∧ u = th σ 2) ∨ (v = nI 0 ∧ ¬ (tM σ x ∧ tM σ k) ∧ u = th σ 1)) (e : v = 0) : remM σ x k r u := Or.inr (tab_no h e)
set_option maxHeartbeats 4000000 in
set_option maxRecDepth 100000 in
theorem c_m_thrown {l : Launch} {D : va_G} {cI cB cL : ClassId} {h : Nat → Nat} {σ : St}  : zMet l y_m_thrown w_m_thrown rm_m_thrown D zCl (zTy cI cB cL) (wm h cI cB σ) [.ref (h 0)] (qi0 (wm h cI cB σ) (fun v => v = σ 0 0) noX) 0 0 0 0 := by
  refine z_meth (by decide) rfl (Nat.le_of_ble_eq_true rfl) (fun p e s mm as bl me cd Z hr hnm ht => ?_)
  refine z_aload_n Z 0 d_m_thrown_0 rfl rfl ?_
  refine mn_0 Z d_m_thrown_1 ?_
  refine z_ri0 Z hr rfl d_m_thrown_4 (by decide) (by decide) ?_
  rfl
set_option maxHeartbeats 4000000 in
set_option maxRecDepth 100000 in
theorem c_m_isThing {l : Launch} {D : va_G} {cI cB cL : ClassId} {h : Nat → Nat} {σ : St} {x : Int32} : zMet l y_m_isThing w_m_isThing rm_m_isThing D zCl (zTy cI cB cL) (wm h cI cB σ) [.ref (h 0), .int x] (qi0 (wm h cI cB σ) (fun v => (v = nI 1 ∧ tM σ x) ∨ (v = nI 0 ∧ ¬ tM σ x)) noX) 0 0 0 0 := by
  refine z_meth (by decide) rfl (Nat.le_of_ble_eq_true rfl) (fun p e s mm as bl me cd Z hr hnm ht => ?_)
  refine z_iload_n Z 1 d_m_isThing_0 rfl rfl ?_
  refine z_if_lt Z 23 d_m_isThing_1 (by decide) (fun h1 => ?_) (fun h1 => ?_)
  · refine z_iconst Z (nI 0) d_m_isThing_23 zi_0 ?_
    refine z_ri0 Z hr rfl d_m_isThing_24 (by decide) (by decide) ?_
    exact Or.inr ⟨rfl, tM_neg h1⟩
  · refine z_iload_n Z 1 d_m_isThing_4 rfl rfl ?_
    refine z_bipush Z (nI 24) d_m_isThing_5 zb_24 ?_
    refine z_icmp_ge Z 23 d_m_isThing_7 (by decide) (fun h7 => ?_) (fun h7 => ?_)
    · refine z_iconst Z (nI 0) d_m_isThing_23 zi_0 ?_
      refine z_ri0 Z hr rfl d_m_isThing_24 (by decide) (by decide) ?_
      exact Or.inr ⟨rfl, tM_big h7⟩
    · obtain ⟨c, hc, rfl⟩ := in24 h1 h7
      refine z_aload_n Z 0 d_m_isThing_10 rfl rfl ?_
      refine mg_1 Z d_m_isThing_11 ?_
      refine z_iload_n Z 1 d_m_isThing_14 rfl rfl ?_
      refine ml_1 Z (by omega) d_m_isThing_15 ?_
      refine z_if_lt Z 23 d_m_isThing_16 (by decide) (fun h16 => ?_) (fun h16 => ?_)
      · refine z_iconst Z (nI 0) d_m_isThing_23 zi_0 ?_
        refine z_ri0 Z hr rfl d_m_isThing_24 (by decide) (by decide) ?_
        exact Or.inr ⟨rfl, fun q => (tM_nI hc).mp q h16⟩
      · refine z_iconst Z (nI 1) d_m_isThing_19 zi_1 ?_
        refine z_goto Z 24 d_m_isThing_20 (by decide) ?_
        refine z_ri0 Z hr rfl d_m_isThing_24 (by decide) (by decide) ?_
        exact Or.inl ⟨rfl, (tM_nI hc).mpr h16⟩
set_option maxHeartbeats 4000000 in
set_option maxRecDepth 100000 in
theorem c_m_isRoot {l : Launch} {D : va_G} {cI cB cL : ClassId} {r : Int32} : zMet l y_m_isRoot w_m_isRoot rm_m_isRoot D zCl (zTy cI cB cL) [] [.int r] (qi0 [] (fun v => (v = nI 1 ∧ isR r) ∨ (v = nI 0 ∧ ¬ isR r)) noX) 0 0 0 0 := by
  refine z_meth (by decide) rfl (Nat.le_of_ble_eq_true rfl) (fun p e s mm as bl me cd Z hr hnm ht => ?_)
  refine z_iload_n Z 0 d_m_isRoot_0 rfl rfl ?_
  refine z_if_lt Z 14 d_m_isRoot_1 (by decide) (fun h1 => ?_) (fun h1 => ?_)
  · refine z_iconst Z (nI 0) d_m_isRoot_14 zi_0 ?_
    refine z_ri0 Z hr rfl d_m_isRoot_15 (by decide) (by decide) ?_
    exact Or.inr ⟨rfl, fun ⟨j, hj, q⟩ => nI_pos (by omega) (q ▸ h1)⟩
  · refine z_iload_n Z 0 d_m_isRoot_4 rfl rfl ?_
    refine z_bipush Z (nI 6) d_m_isRoot_5 zb_6 ?_
    refine z_icmp_ge Z 14 d_m_isRoot_7 (by decide) (fun h7 => ?_) (fun h7 => ?_)
    · refine z_iconst Z (nI 0) d_m_isRoot_14 zi_0 ?_
      refine z_ri0 Z hr rfl d_m_isRoot_15 (by decide) (by decide) ?_
      exact Or.inr ⟨rfl, fun ⟨j, hj, q⟩ => nI_ge hj (by decide) (q ▸ h7)⟩
    · refine z_iconst Z (nI 1) d_m_isRoot_10 zi_1 ?_
      refine z_goto Z 15 d_m_isRoot_11 (by decide) ?_
      refine z_ri0 Z hr rfl d_m_isRoot_15 (by decide) (by decide) ?_
      exact Or.inl ⟨rfl, inNg h1 h7⟩
set_option maxHeartbeats 4000000 in
set_option maxRecDepth 100000 in
theorem c_m_isField {l : Launch} {D : va_G} {cI cB cL : ClassId} {h : Nat → Nat} {σ : St} {c : Nat} (hc : c < 24) {f : Int32} : zMet l y_m_isField w_m_isField rm_m_isField D zCl (zTy cI cB cL) (wm h cI cB σ) [.ref (h 0), .int (nI c), .int f] (qi0 (wm h cI cB σ) (fun v => (v = nI 1 ∧ ∃ j, j < fc (σ 1 c) ∧ f = nI j) ∨ (v = nI 0 ∧ ¬ ∃ j, j < fc (σ 1 c) ∧ f = nI j)) noX) 0 0 0 0 := by
  refine z_meth (by decide) rfl (Nat.le_of_ble_eq_true rfl) (fun p e s mm as bl me cd Z hr hnm ht => ?_)
  refine z_iload_n Z 2 d_m_isField_0 rfl rfl ?_
  refine z_if_lt Z 36 d_m_isField_1 (by decide) (fun h1 => ?_) (fun h1 => ?_)
  · refine z_iconst Z (nI 0) d_m_isField_36 zi_0 ?_
    refine z_ri0 Z hr rfl d_m_isField_37 (by decide) (by decide) ?_
    exact Or.inr ⟨rfl, fun ⟨j, hj, q⟩ => nI_pos (fc_lt hj) (q ▸ h1)⟩
  · refine z_aload_n Z 0 d_m_isField_4 rfl rfl ?_
    refine mg_1 Z d_m_isField_5 ?_
    refine z_iload_n Z 1 d_m_isField_8 rfl rfl ?_
    refine ml_1 Z (by omega) d_m_isField_9 ?_
    refine z_if_ne Z 18 d_m_isField_10 (by decide) (fun h10 => ?_) (fun h10 => ?_)
    · refine z_aload_n Z 0 d_m_isField_18 rfl rfl ?_
      refine mg_1 Z d_m_isField_19 ?_
      refine z_iload_n Z 1 d_m_isField_22 rfl rfl ?_
      refine ml_1 Z (by omega) d_m_isField_23 ?_
      refine z_iconst Z (nI 1) d_m_isField_24 zi_1 ?_
      refine z_icmp_ne Z 36 d_m_isField_25 (by decide) (fun h25 => ?_) (fun h25 => ?_)
      · refine z_iconst Z (nI 0) d_m_isField_36 zi_0 ?_
        refine z_ri0 Z hr rfl d_m_isField_37 (by decide) (by decide) ?_
        rw [show fc (σ 1 c) = 0 by unfold fc; rw [if_neg h10, if_neg (show ¬ σ 1 c = 1 from h25)]]
        exact Or.inr ⟨rfl, fun ⟨j, hj, q⟩ => absurd hj (Nat.not_lt_zero _)⟩
      · refine z_iload_n Z 2 d_m_isField_28 rfl rfl ?_
        refine z_if_ne Z 36 d_m_isField_29 (by decide) (fun h29 => ?_) (fun h29 => ?_)
        · refine z_iconst Z (nI 0) d_m_isField_36 zi_0 ?_
          refine z_ri0 Z hr rfl d_m_isField_37 (by decide) (by decide) ?_
          rw [show fc (σ 1 c) = 1 by unfold fc; rw [if_neg h10, if_pos (show σ 1 c = 1 from h25)]]
          exact Or.inr ⟨rfl, fun ⟨j, hj, q⟩ => h29 (by rw [q, show j = 0 by omega]; rfl)⟩
        · refine z_iconst Z (nI 1) d_m_isField_32 zi_1 ?_
          refine z_goto Z 37 d_m_isField_33 (by decide) ?_
          refine z_ri0 Z hr rfl d_m_isField_37 (by decide) (by decide) ?_
          rw [show fc (σ 1 c) = 1 by unfold fc; rw [if_neg h10, if_pos (show σ 1 c = 1 from h25)]]
          exact Or.inl ⟨rfl, 0, by decide, h29⟩
    · refine z_iload_n Z 2 d_m_isField_13 rfl rfl ?_
      refine z_iconst Z (nI 3) d_m_isField_14 zi_3 ?_
      refine z_icmp_lt Z 32 d_m_isField_15 (by decide) (fun h15 => ?_) (fun h15 => ?_)
      · refine z_iconst Z (nI 1) d_m_isField_32 zi_1 ?_
        refine z_goto Z 37 d_m_isField_33 (by decide) ?_
        refine z_ri0 Z hr rfl d_m_isField_37 (by decide) (by decide) ?_
        rw [show fc (σ 1 c) = 3 by rw [h10]; rfl]
        exact Or.inl ⟨rfl, inN h1 h15⟩
      · refine z_aload_n Z 0 d_m_isField_18 rfl rfl ?_
        refine mg_1 Z d_m_isField_19 ?_
        refine z_iload_n Z 1 d_m_isField_22 rfl rfl ?_
        refine ml_1 Z (by omega) d_m_isField_23 ?_
        refine z_iconst Z (nI 1) d_m_isField_24 zi_1 ?_
        refine z_icmp_ne Z 36 d_m_isField_25 (by decide) (fun h25 => ?_) (fun hx => absurd hx (show ¬ σ 1 c = nI 1 by rw [h10]; decide))
        refine z_iconst Z (nI 0) d_m_isField_36 zi_0 ?_
        refine z_ri0 Z hr rfl d_m_isField_37 (by decide) (by decide) ?_
        rw [show fc (σ 1 c) = 3 by rw [h10]; rfl]
        exact Or.inr ⟨rfl, fun ⟨j, hj, q⟩ => h15 (by rw [q]; exact nI_lt hj (by decide))⟩
set_option maxHeartbeats 4000000 in
set_option maxRecDepth 100000 in
theorem c_m_lose {l : Launch} {D : va_G} {cI cB cL : ClassId} {h : Nat → Nat} {σ : St} {c : Nat} (hc : c < 24) : zMet l y_m_lose w_m_lose rm_m_lose D zCl (zTy cI cB cL) (wm h cI cB σ) [.ref (h 0), .int (nI c)] (qv (wm h cI cB) (fun u => u = emp σ c) noXs) 0 0 0 0 := by
  refine z_meth (by decide) rfl (Nat.le_of_ble_eq_true rfl) (fun p e s mm as bl me cd Z hr hnm ht => ?_)
  refine z_iconst Z (nI 0) d_m_lose_0 zi_0 ?_
  refine z_istore_n Z 2 d_m_lose_1 rfl (by decide) rfl ?_
  refine z_lv (lv' := [(0, .ref (h 0)), (1, .int (nI c)), (2, .int (nI 0))]) rfl ?_
  refine z_ws (ws' := wm h cI cB (va_up σ 3 (empF (σ 3) c 0))) rfl ?_
  refine z_loop (fun i : Nat => i ≤ 3) (fun i : Nat => 3 - i) (fun i : Nat => wm h cI cB (va_up σ 3 (empF (σ 3) c i))) (fun i : Nat => [(0, .ref (h 0)), (1, .int (nI c)), (2, .int (nI i))]) (fun i hi ih => ?_) 0 (by omega)
  refine z_iload_n Z 2 d_m_lose_2 rfl rfl ?_
  refine z_iconst Z (nI 3) d_m_lose_3 zi_3 ?_
  refine z_icmpN_ge Z 24 d_m_lose_4 (by decide) (by omega) (by omega) (fun h4 => ?_) (fun h4 => ?_)
  · obtain rfl : i = 3 := by omega
    refine z_aload_n Z 0 d_m_lose_24 rfl rfl ?_
    refine mg_6 Z d_m_lose_25 ?_
    refine z_iload_n Z 1 d_m_lose_28 rfl rfl ?_
    refine z_iconst Z (nI 0) d_m_lose_29 zi_0 ?_
    refine ms_6 Z (by omega) d_m_lose_30 ?_
    refine z_rv Z _ hr d_m_lose_31 (by decide) (by decide) rfl ?_
    rfl
  · refine z_aload_n Z 0 d_m_lose_7 rfl rfl ?_
    refine mg_3 Z d_m_lose_8 ?_
    refine z_iconst Z (nI 3) d_m_lose_11 zi_3 ?_
    refine z_iload_n Z 1 d_m_lose_12 rfl rfl ?_
    refine z_imulN Z d_m_lose_13 ?_
    refine z_iload_n Z 2 d_m_lose_14 rfl rfl ?_
    refine z_iaddN Z d_m_lose_15 ?_
    refine z_eqi (y := nI (c * 3 + i)) (by rw [Nat.mul_comm]) ?_
    refine z_iconst Z (-1) d_m_lose_16 zi_m1 ?_
    refine ms_3 Z (by omega) d_m_lose_17 ?_
    refine z_iincN Z 2 d_m_lose_18 rfl (by decide) rfl ?_
    refine z_goto Z 2 d_m_lose_21 (by decide) ?_
    exact z_ws rfl (z_lv rfl (ih (i + 1) (by omega) (by omega)))
set_option maxHeartbeats 4000000 in
set_option maxRecDepth 100000 in
theorem c_m_entryOf {l : Launch} {D : va_G} {cI cB cL : ClassId} {h : Nat → Nat} {σ : St} (hw : wf σ) {c : Nat} (hc : c < 24) {k : Int32} : zMet l y_m_entryOf w_m_entryOf rm_m_entryOf D zCl (zTy cI cB cL) (wm h cI cB σ) [.ref (h 0), .int (nI c), .int k] (qi0 (wm h cI cB σ) (fun v => eoM σ c k (cnt σ c) v) noX) 0 0 0 0 := by
  have e6 : σ 6 c = nI (cnt σ c) := (wf_cnt hw hc).2
  have n6 : cnt σ c ≤ 4 := (wf_cnt hw hc).1
  refine z_meth (by decide) rfl (Nat.le_of_ble_eq_true rfl) (fun p e s mm as bl me cd Z hr hnm ht => ?_)
  refine z_iconst Z (-1) d_m_entryOf_0 zi_m1 ?_
  refine z_istore_n Z 3 d_m_entryOf_1 rfl (by decide) rfl ?_
  refine z_iconst Z (nI 0) d_m_entryOf_2 zi_0 ?_
  refine z_istore Z 4 d_m_entryOf_3 (by decide) rfl ?_
  refine z_lv (lv' := [(0, .ref (h 0)), (1, .int (nI c)), (2, .int k), (3, .int (-1)), (4, .int (nI 0))]) rfl ?_
  refine z_loop (fun q : Nat × Int32 => q.1 ≤ cnt σ c ∧ eoM σ c k q.1 q.2) (fun q : Nat × Int32 => cnt σ c - q.1) (fun q : Nat × Int32 => wm h cI cB σ) (fun q : Nat × Int32 => [(0, .ref (h 0)), (1, .int (nI c)), (2, .int k), (3, .int q.2), (4, .int (nI q.1))]) (fun q hi ih => ?_) (0, -1) ⟨by omega, Or.inr ⟨rfl, fun j hj => absurd hj (Nat.not_lt_zero _)⟩⟩
  obtain ⟨i, y⟩ := q
  dsimp only at hi ih ⊢
  refine z_iload Z 4 d_m_entryOf_5 rfl ?_
  refine z_aload_n Z 0 d_m_entryOf_7 rfl rfl ?_
  refine mg_6 Z d_m_entryOf_8 ?_
  refine z_iload_n Z 1 d_m_entryOf_11 rfl rfl ?_
  refine ml_6 Z (by omega) d_m_entryOf_12 ?_
  refine z_eqi e6 ?_
  refine z_icmpN_ge Z 48 d_m_entryOf_13 (by decide) (by omega) (by omega) (fun h13 => ?_) (fun h13 => ?_)
  · refine z_iload_n Z 3 d_m_entryOf_48 rfl rfl ?_
    refine z_ri0 Z hr rfl d_m_entryOf_49 (by decide) (by decide) ?_
    obtain rfl : i = cnt σ c := by omega
    exact hi.2
  · refine z_aload_n Z 0 d_m_entryOf_16 rfl rfl ?_
    refine mg_4 Z d_m_entryOf_17 ?_
    refine z_iconst Z (nI 4) d_m_entryOf_20 zi_4 ?_
    refine z_iload_n Z 1 d_m_entryOf_21 rfl rfl ?_
    refine z_imulN Z d_m_entryOf_22 ?_
    refine z_iload Z 4 d_m_entryOf_23 rfl ?_
    refine z_iaddN Z d_m_entryOf_25 ?_
    refine z_eqi (y := nI (c * 4 + i)) (by rw [Nat.mul_comm]) ?_
    refine ml_4 Z (by omega) d_m_entryOf_26 ?_
    refine z_iload_n Z 2 d_m_entryOf_27 rfl rfl ?_
    refine z_icmp_ne Z 40 d_m_entryOf_28 (by decide) (fun h28 => ?_) (fun h28 => ?_)
    · refine z_iload_n Z 3 d_m_entryOf_40 rfl rfl ?_
      refine z_istore_n Z 3 d_m_entryOf_41 rfl (by decide) rfl ?_
      refine z_iincN Z 4 d_m_entryOf_42 rfl (by decide) rfl ?_
      refine z_goto Z 5 d_m_entryOf_45 (by decide) ?_
      exact z_lv rfl (ih (i + 1, y) ⟨by omega, eoM_no hi.2 h28⟩ (by dsimp only; omega))
    · refine z_iconst Z (nI 4) d_m_entryOf_31 zi_4 ?_
      refine z_iload_n Z 1 d_m_entryOf_32 rfl rfl ?_
      refine z_imulN Z d_m_entryOf_33 ?_
      refine z_iload Z 4 d_m_entryOf_34 rfl ?_
      refine z_iaddN Z d_m_entryOf_36 ?_
      refine z_eqi (y := nI (c * 4 + i)) (by rw [Nat.mul_comm]) ?_
      refine z_goto Z 41 d_m_entryOf_37 (by decide) ?_
      refine z_istore_n Z 3 d_m_entryOf_41 rfl (by decide) rfl ?_
      refine z_iincN Z 4 d_m_entryOf_42 rfl (by decide) rfl ?_
      refine z_goto Z 5 d_m_entryOf_45 (by decide) ?_
      exact z_lv rfl (ih (i + 1, _) ⟨by omega, eoM_yes h28⟩ (by dsimp only; omega))
set_option maxHeartbeats 4000000 in
set_option maxRecDepth 100000 in
theorem c_m_dropEntry {l : Launch} {D : va_G} {cI cB cL : ClassId} {h : Nat → Nat} {σ : St} (hw : wf σ) {c : Nat} (hc : c < 24) {d : Nat} (hd : d < cnt σ c) : zMet l y_m_dropEntry w_m_dropEntry rm_m_dropEntry D zCl (zTy cI cB cL) (wm h cI cB σ) [.ref (h 0), .int (nI c), .int (nI (c * 4 + d))] (qv (wm h cI cB) (fun u => u = drp σ c d) noXs) 0 0 0 0 := by
  have e6 : σ 6 c = nI (cnt σ c) := (wf_cnt hw hc).2
  have n6 : cnt σ c ≤ 4 := (wf_cnt hw hc).1
  refine z_meth (by decide) rfl (Nat.le_of_ble_eq_true rfl) (fun p e s mm as bl me cd Z hr hnm ht => ?_)
  refine z_iload_n Z 2 d_m_dropEntry_0 rfl rfl ?_
  refine z_istore_n Z 3 d_m_dropEntry_1 rfl (by decide) rfl ?_
  refine z_lv (lv' := [(0, .ref (h 0)), (1, .int (nI c)), (2, .int (nI (c * 4 + d))), (3, .int (nI (c * 4 + d)))]) rfl ?_
  refine z_ws (ws' := wm h cI cB (dst σ c d d)) (by rw [dst_0]) ?_
  refine z_loop (fun i : Nat => d ≤ i ∧ i ≤ cnt σ c - 1) (fun i : Nat => cnt σ c - 1 - i) (fun i : Nat => wm h cI cB (dst σ c d i)) (fun i : Nat => [(0, .ref (h 0)), (1, .int (nI c)), (2, .int (nI (c * 4 + d))), (3, .int (nI (c * 4 + i)))]) (fun i hi ih => ?_) d ⟨by omega, by omega⟩
  refine z_iload_n Z 3 d_m_dropEntry_2 rfl rfl ?_
  refine z_iconst Z (nI 1) d_m_dropEntry_3 zi_1 ?_
  refine z_iaddN Z d_m_dropEntry_4 ?_
  refine z_iconst Z (nI 4) d_m_dropEntry_5 zi_4 ?_
  refine z_iload_n Z 1 d_m_dropEntry_6 rfl rfl ?_
  refine z_imulN Z d_m_dropEntry_7 ?_
  refine z_aload_n Z 0 d_m_dropEntry_8 rfl rfl ?_
  refine mg_6 Z d_m_dropEntry_9 ?_
  refine z_iload_n Z 1 d_m_dropEntry_12 rfl rfl ?_
  refine ml_6 Z (by omega) d_m_dropEntry_13 ?_
  refine z_eqi (y := nI (cnt σ c)) e6 ?_
  refine z_eqi2 (y := nI (c * 4)) (by rw [Nat.mul_comm]) ?_
  refine z_iaddN Z d_m_dropEntry_14 ?_
  refine z_icmpN_ge Z 52 d_m_dropEntry_15 (by decide) (by omega) (by omega) (fun h15 => ?_) (fun h15 => ?_)
  · obtain rfl : i = cnt σ c - 1 := by omega
    refine z_aload_n Z 0 d_m_dropEntry_52 rfl rfl ?_
    refine mg_6 Z d_m_dropEntry_53 ?_
    refine z_iload_n Z 1 d_m_dropEntry_56 rfl rfl ?_
    refine z_dup2 Z d_m_dropEntry_57 ?_
    refine ml_6 Z (by omega) d_m_dropEntry_58 ?_
    refine z_eqi (y := nI (cnt σ c)) e6 ?_
    refine z_iconst Z (nI 1) d_m_dropEntry_59 zi_1 ?_
    refine z_isubN Z d_m_dropEntry_60 (by omega) ?_
    refine ms_6 Z (by omega) d_m_dropEntry_61 ?_
    refine z_rv Z _ hr d_m_dropEntry_62 (by decide) (by decide) rfl ?_
    rfl
  · refine z_aload_n Z 0 d_m_dropEntry_18 rfl rfl ?_
    refine mg_4 Z d_m_dropEntry_19 ?_
    refine z_iload_n Z 3 d_m_dropEntry_22 rfl rfl ?_
    refine z_aload_n Z 0 d_m_dropEntry_23 rfl rfl ?_
    refine mg_4 Z d_m_dropEntry_24 ?_
    refine z_iload_n Z 3 d_m_dropEntry_27 rfl rfl ?_
    refine z_iconst Z (nI 1) d_m_dropEntry_28 zi_1 ?_
    refine z_iaddN Z d_m_dropEntry_29 ?_
    refine ml_4 Z (by omega) d_m_dropEntry_30 ?_
    refine ms_4 Z (by omega) d_m_dropEntry_31 ?_
    refine z_aload_n Z 0 d_m_dropEntry_32 rfl rfl ?_
    refine mg_5 Z d_m_dropEntry_33 ?_
    refine z_iload_n Z 3 d_m_dropEntry_36 rfl rfl ?_
    refine z_aload_n Z 0 d_m_dropEntry_37 rfl rfl ?_
    refine mg_5 Z d_m_dropEntry_38 ?_
    refine z_iload_n Z 3 d_m_dropEntry_41 rfl rfl ?_
    refine z_iconst Z (nI 1) d_m_dropEntry_42 zi_1 ?_
    refine z_iaddN Z d_m_dropEntry_43 ?_
    refine ml_5 Z (by omega) d_m_dropEntry_44 ?_
    refine ms_5 Z (by omega) d_m_dropEntry_45 ?_
    refine z_iincN Z 3 d_m_dropEntry_46 rfl (by decide) rfl ?_
    refine z_goto Z 2 d_m_dropEntry_49 (by decide) ?_
    refine z_ws (ws' := wm h cI cB (dst σ c d (i + 1))) (by rw [← dst_step hi.1]; rfl) ?_
    exact z_lv rfl (ih (i + 1) ⟨by omega, by omega⟩ (by omega))
set_option maxHeartbeats 4000000 in
set_option maxRecDepth 100000 in
theorem c_m_isTable {l : Launch} {D : va_G} {cI cB cL : ClassId} {h : Nat → Nat} {σ : St} {x k : Int32} : zMet l y_m_isTable w_m_isTable rm_m_isTable D zCl (zTy cI cB cL) (wm h cI cB σ) [.ref (h 0), .int x, .int k] (qi (wm h cI cB) (fun v u => (v = nI 1 ∧ tM σ x ∧ tM σ k ∧ isTab σ x ∧ u = th σ 0) ∨ (v = nI 0 ∧ (tM σ x ∧ tM σ k) ∧ ¬ isTab σ x ∧ u = th σ 2) ∨ (v = nI 0 ∧ ¬ (tM σ x ∧ tM σ k) ∧ u = th σ 1)) noXs) 0 0 0 0 := by
  refine z_meth (by decide) rfl (Nat.le_of_ble_eq_true rfl) (fun p e s mm as bl me cd Z hr hnm ht => ?_)
  refine z_aload_n Z 0 d_m_isTable_0 rfl rfl ?_
  refine z_aload_n Z 0 d_m_isTable_1 rfl rfl ?_
  refine z_iload_n Z 1 d_m_isTable_2 rfl rfl ?_
  refine z_Wi0 Z (c_m_isThing ) (ok_m_isThing _) rfl rfl ⟨by decide, by decide⟩ rfl rfl rfl rfl (Nat.le_of_ble_eq_true rfl) d_m_isTable_3 ⟨by decide, by decide⟩ (fun E h => h.elim) (fun v3 h3 => ?_)
  refine z_if_eq Z 17 d_m_isTable_6 (by decide) (fun h6 => ?_) (fun h6 => ?_)
  · refine z_iconst Z (nI 1) d_m_isTable_17 zi_1 ?_
    refine z_goto Z 36 d_m_isTable_18 (by decide) ?_
    refine mp_0 Z d_m_isTable_36 ?_
    refine z_aload_n Z 0 d_m_isTable_39 rfl rfl ?_
    refine mn_0 Z d_m_isTable_40 ?_
    refine z_if_ne Z 50 d_m_isTable_43 (by decide) (fun h43 => ?_) (fun hx => absurd hx (show ¬ (nI 1 : Int32) = 0 from by decide))
    refine z_iconst Z (nI 0) d_m_isTable_50 zi_0 ?_
    refine z_ri Z _ hr rfl d_m_isTable_51 (by decide) (by decide) rfl ?_
    exact Or.inr (Or.inr ⟨rfl, fun q => zB0 h3 h6 q.1, rfl⟩)
  · refine z_aload_n Z 0 d_m_isTable_9 rfl rfl ?_
    refine z_iload_n Z 2 d_m_isTable_10 rfl rfl ?_
    refine z_Wi0 Z (c_m_isThing ) (ok_m_isThing _) rfl rfl ⟨by decide, by decide⟩ rfl rfl rfl rfl (Nat.le_of_ble_eq_true rfl) d_m_isTable_11 ⟨by decide, by decide⟩ (fun E h => h.elim) (fun v11 h11 => ?_)
    refine z_if_ne Z 21 d_m_isTable_14 (by decide) (fun h14 => ?_) (fun h14 => ?_)
    · have hx := zB1 h3 h6
      obtain ⟨c, hc, rfl, hk⟩ := id hx
      refine z_aload_n Z 0 d_m_isTable_21 rfl rfl ?_
      refine mg_1 Z d_m_isTable_22 ?_
      refine z_iload_n Z 1 d_m_isTable_25 rfl rfl ?_
      refine ml_1 Z (by omega) d_m_isTable_26 ?_
      refine z_iconst Z (nI 2) d_m_isTable_27 zi_2 ?_
      refine z_icmp_eq Z 35 d_m_isTable_28 (by decide) (fun h28 => ?_) (fun h28 => ?_)
      · refine z_iconst Z (nI 0) d_m_isTable_35 zi_0 ?_
        refine mp_0 Z d_m_isTable_36 ?_
        refine z_aload_n Z 0 d_m_isTable_39 rfl rfl ?_
        refine mn_0 Z d_m_isTable_40 ?_
        refine z_if_ne Z 50 d_m_isTable_43 (by decide) (fun hx => absurd hx (fun q => q rfl)) (fun h43 => ?_)
        refine z_iconst Z (nI 1) d_m_isTable_46 zi_1 ?_
        refine z_goto Z 51 d_m_isTable_47 (by decide) ?_
        refine z_ri Z _ hr rfl d_m_isTable_51 (by decide) (by decide) rfl ?_
        exact Or.inl ⟨rfl, hx, zB1 h11 h14, (isTab_nI hc).mpr h28, rfl⟩
      · refine z_iconst Z (nI 2) d_m_isTable_31 zi_2 ?_
        refine z_goto Z 36 d_m_isTable_32 (by decide) ?_
        refine mp_0 Z d_m_isTable_36 ?_
        refine z_aload_n Z 0 d_m_isTable_39 rfl rfl ?_
        refine mn_0 Z d_m_isTable_40 ?_
        refine z_if_ne Z 50 d_m_isTable_43 (by decide) (fun h43 => ?_) (fun hx => absurd hx (show ¬ (nI 2 : Int32) = 0 from by decide))
        refine z_iconst Z (nI 0) d_m_isTable_50 zi_0 ?_
        refine z_ri Z _ hr rfl d_m_isTable_51 (by decide) (by decide) rfl ?_
        exact Or.inr (Or.inl ⟨rfl, ⟨hx, zB1 h11 h14⟩, fun q => h28 ((isTab_nI hc).mp q), rfl⟩)
    · refine z_iconst Z (nI 1) d_m_isTable_17 zi_1 ?_
      refine z_goto Z 36 d_m_isTable_18 (by decide) ?_
      refine mp_0 Z d_m_isTable_36 ?_
      refine z_aload_n Z 0 d_m_isTable_39 rfl rfl ?_
      refine mn_0 Z d_m_isTable_40 ?_
      refine z_if_ne Z 50 d_m_isTable_43 (by decide) (fun h43 => ?_) (fun hx => absurd hx (show ¬ (nI 1 : Int32) = 0 from by decide))
      refine z_iconst Z (nI 0) d_m_isTable_50 zi_0 ?_
      refine z_ri Z _ hr rfl d_m_isTable_51 (by decide) (by decide) rfl ?_
      exact Or.inr (Or.inr ⟨rfl, fun q => zB0 h11 h14 q.2, rfl⟩)
set_option maxHeartbeats 4000000 in
set_option maxRecDepth 100000 in
theorem c_m_find {l : Launch} {D : va_G} {cI cB cL : ClassId} {h : Nat → Nat} {σ : St} (hw : wf σ) {x k : Int32} : zMet l y_m_find w_m_find rm_m_find D zCl (zTy cI cB cL) (wm h cI cB σ) [.ref (h 0), .int x, .int k] (qi (wm h cI cB) (fun v u => fndM σ x k v u) noXs) 0 0 0 0 := by
  refine z_meth (by decide) rfl (Nat.le_of_ble_eq_true rfl) (fun p e s mm as bl me cd Z hr hnm ht => ?_)
  refine z_aload_n Z 0 d_m_find_0 rfl rfl ?_
  refine z_iload_n Z 1 d_m_find_1 rfl rfl ?_
  refine z_iload_n Z 2 d_m_find_2 rfl rfl ?_
  refine z_Wi Z (c_m_isTable ) (ok_m_isTable _) rfl rfl ⟨by decide, by decide⟩ rfl rfl rfl rfl (Nat.le_of_ble_eq_true rfl) d_m_find_3 ⟨by decide, by decide⟩ (fun E u h => h.elim) (fun v3 u3 h3 => ?_)
  refine z_if_ne Z 11 d_m_find_6 (by decide) (fun h6 => ?_) (fun h6 => ?_)
  · obtain ⟨hx, hk, ⟨c, hc, rfl, h2⟩, rfl⟩ := tab_yes h3 h6
    refine z_aload_n Z 0 d_m_find_11 rfl rfl ?_
    refine z_iload_n Z 1 d_m_find_12 rfl rfl ?_
    refine z_iload_n Z 2 d_m_find_13 rfl rfl ?_
    refine z_Wi0 Z (c_m_entryOf (wf_th hw) hc) (ok_m_entryOf _) rfl rfl ⟨by decide, by decide⟩ rfl rfl rfl rfl (Nat.le_of_ble_eq_true rfl) d_m_find_14 ⟨by decide, by decide⟩ (fun E h => h.elim) (fun v14 h14 => ?_)
    refine z_istore_n Z 3 d_m_find_17 rfl (by decide) rfl ?_
    refine z_iload_n Z 3 d_m_find_18 rfl rfl ?_
    refine z_if_ge Z 26 d_m_find_19 (by decide) (fun h19 => ?_) (fun h19 => ?_)
    · obtain ⟨i, hi, rfl, ek, hl⟩ := eoM_ge h14 h19
      refine z_aload_n Z 0 d_m_find_26 rfl rfl ?_
      refine mg_5 Z d_m_find_27 ?_
      refine z_iload_n Z 3 d_m_find_30 rfl rfl ?_
      refine ml_5 Z (eo_in (wf_cnt hw hc).1 hc hi) d_m_find_31 ?_
      refine z_ri Z _ hr rfl d_m_find_32 (by decide) (by decide) rfl ?_
      exact Or.inl ⟨c, hc, rfl, hx, hk, h2, rfl, Or.inl ⟨i, hi, ek, rfl⟩⟩
    · refine z_iconst Z (-1) d_m_find_22 zi_m1 ?_
      refine z_goto Z 32 d_m_find_23 (by decide) ?_
      refine z_ri Z _ hr rfl d_m_find_32 (by decide) (by decide) rfl ?_
      exact Or.inl ⟨c, hc, rfl, hx, hk, h2, rfl, Or.inr ⟨eoM_lt h14 h19 (wf_cnt hw hc).1 hc, rfl⟩⟩
  · refine z_iconst Z (nI 0) d_m_find_9 zi_0 ?_
    refine z_ri Z _ hr rfl d_m_find_10 (by decide) (by decide) rfl ?_
    exact fnd_no h3 h6
set_option maxHeartbeats 4000000 in
set_option maxRecDepth 100000 in
theorem c_m_remove {l : Launch} {D : va_G} {cI cB cL : ClassId} {h : Nat → Nat} {σ : St} (hw : wf σ) {x k : Int32} : zMet l y_m_remove w_m_remove rm_m_remove D zCl (zTy cI cB cL) (wm h cI cB σ) [.ref (h 0), .int x, .int k] (qi (wm h cI cB) (fun v u => remM σ x k v u) noXs) 0 0 0 0 := by
  refine z_meth (by decide) rfl (Nat.le_of_ble_eq_true rfl) (fun p e s mm as bl me cd Z hr hnm ht => ?_)
  refine z_aload_n Z 0 d_m_remove_0 rfl rfl ?_
  refine z_iload_n Z 1 d_m_remove_1 rfl rfl ?_
  refine z_iload_n Z 2 d_m_remove_2 rfl rfl ?_
  refine z_Wi Z (c_m_isTable ) (ok_m_isTable _) rfl rfl ⟨by decide, by decide⟩ rfl rfl rfl rfl (Nat.le_of_ble_eq_true rfl) d_m_remove_3 ⟨by decide, by decide⟩ (fun E u h => h.elim) (fun v3 u3 h3 => ?_)
  refine z_if_ne Z 11 d_m_remove_6 (by decide) (fun h6 => ?_) (fun h6 => ?_)
  · obtain ⟨hx, hk, ⟨c, hc, rfl, h2⟩, rfl⟩ := tab_yes h3 h6
    refine z_aload_n Z 0 d_m_remove_11 rfl rfl ?_
    refine z_iload_n Z 1 d_m_remove_12 rfl rfl ?_
    refine z_iload_n Z 2 d_m_remove_13 rfl rfl ?_
    refine z_Wi0 Z (c_m_entryOf (wf_th hw) hc) (ok_m_entryOf _) rfl rfl ⟨by decide, by decide⟩ rfl rfl rfl rfl (Nat.le_of_ble_eq_true rfl) d_m_remove_14 ⟨by decide, by decide⟩ (fun E h => h.elim) (fun v14 h14 => ?_)
    refine z_istore_n Z 3 d_m_remove_17 rfl (by decide) rfl ?_
    refine z_iload_n Z 3 d_m_remove_18 rfl rfl ?_
    refine z_if_lt Z 28 d_m_remove_19 (by decide) (fun h19 => ?_) (fun h19 => ?_)
    · refine z_iload_n Z 3 d_m_remove_28 rfl rfl ?_
      refine z_if_lt Z 36 d_m_remove_29 (by decide) (fun h29 => ?_) (fun hx => absurd hx (fun q => q h19))
      refine z_iconst Z (nI 0) d_m_remove_36 zi_0 ?_
      refine z_ri Z _ hr rfl d_m_remove_37 (by decide) (by decide) rfl ?_
      exact Or.inl ⟨c, hc, rfl, hx, hk, h2, Or.inr ⟨eoM_lt h14 (lt0 h19) (wf_cnt hw hc).1 hc, rfl, rfl⟩⟩
    · obtain ⟨i, hi, rfl, ek, hl⟩ := eoM_ge h14 (le0 h19)
      have hi : i < cnt σ c := hi
      refine z_aload_n Z 0 d_m_remove_22 rfl rfl ?_
      refine z_iload_n Z 1 d_m_remove_23 rfl rfl ?_
      refine z_iload_n Z 3 d_m_remove_24 rfl rfl ?_
      refine z_Wv Z (c_m_dropEntry (wf_th hw) hc hi) (ok_m_dropEntry _) rfl rfl ⟨by decide, by decide⟩ rfl rfl rfl rfl (Nat.le_of_ble_eq_true rfl) d_m_remove_25 ⟨by decide, by decide⟩ (fun E u h => h.elim) (fun u25 h25 => ?_)
      subst h25
      refine z_iload_n Z 3 d_m_remove_28 rfl rfl ?_
      refine z_if_lt Z 36 d_m_remove_29 (by decide) (fun hx => absurd hx (nI_pos (by have := (wf_cnt hw hc).1; omega))) (fun h29 => ?_)
      refine z_iconst Z (nI 1) d_m_remove_32 zi_1 ?_
      refine z_goto Z 37 d_m_remove_33 (by decide) ?_
      refine z_ri Z _ hr rfl d_m_remove_37 (by decide) (by decide) rfl ?_
      exact Or.inl ⟨c, hc, rfl, hx, hk, h2, Or.inl ⟨i, hi, ek, rfl, rfl⟩⟩
  · refine z_iconst Z (nI 0) d_m_remove_9 zi_0 ?_
    refine z_ri Z _ hr rfl d_m_remove_10 (by decide) (by decide) rfl ?_
    exact rem_no h3 h6
set_option maxHeartbeats 4000000 in
set_option maxRecDepth 100000 in
theorem c_m_rootAt {l : Launch} {D : va_G} {cI cB cL : ClassId} {h : Nat → Nat} {σ : St} {r : Int32} : zMet l y_m_rootAt w_m_rootAt rm_m_rootAt D zCl (zTy cI cB cL) (wm h cI cB σ) [.ref (h 0), .int r] (qi (wm h cI cB) (fun v u => (¬ isR r ∧ u = th σ 1) ∨ (∃ j, j < 6 ∧ r = nI j ∧ v = σ 10 j ∧ u = th σ 0)) noXs) 0 0 0 0 := by
  refine z_meth (by decide) rfl (Nat.le_of_ble_eq_true rfl) (fun p e s mm as bl me cd Z hr hnm ht => ?_)
  refine z_aload_n Z 0 d_m_rootAt_0 rfl rfl ?_
  refine z_iload_n Z 1 d_m_rootAt_1 rfl rfl ?_
  refine z_S0 Z (c_m_isRoot ) (ok_m_isRoot _) rfl rfl ⟨by decide, by decide⟩ rfl rfl (Nat.le_of_ble_eq_true rfl) d_m_rootAt_2 ⟨by decide, by decide⟩ (fun v2 h2 => ?_)
  refine z_if_eq Z 12 d_m_rootAt_5 (by decide) (fun h5 => ?_) (fun h5 => ?_)
  · refine z_iconst Z (nI 1) d_m_rootAt_12 zi_1 ?_
    refine mp_0 Z d_m_rootAt_13 ?_
    refine z_aload_n Z 0 d_m_rootAt_16 rfl rfl ?_
    refine mn_0 Z d_m_rootAt_17 ?_
    refine z_if_le Z 27 d_m_rootAt_20 (by decide) (fun hx => absurd hx (show ¬ (nI 1 : Int32) ≤ 0 from by decide)) (fun h20 => ?_)
    refine z_iconst Z (nI 0) d_m_rootAt_23 zi_0 ?_
    refine z_goto Z 33 d_m_rootAt_24 (by decide) ?_
    refine z_ri Z _ hr rfl d_m_rootAt_33 (by decide) (by decide) rfl ?_
    exact Or.inl ⟨zB0 h2 h5, rfl⟩
  · obtain ⟨j, hj, rfl⟩ := zB1 h2 h5
    refine z_iconst Z (nI 0) d_m_rootAt_8 zi_0 ?_
    refine z_goto Z 13 d_m_rootAt_9 (by decide) ?_
    refine mp_0 Z d_m_rootAt_13 ?_
    refine z_aload_n Z 0 d_m_rootAt_16 rfl rfl ?_
    refine mn_0 Z d_m_rootAt_17 ?_
    refine z_if_le Z 27 d_m_rootAt_20 (by decide) (fun h20 => ?_) (fun hx => absurd hx (fun q => q (show (nI 0 : Int32) ≤ 0 from by decide)))
    refine z_aload_n Z 0 d_m_rootAt_27 rfl rfl ?_
    refine mg_10 Z d_m_rootAt_28 ?_
    refine z_iload_n Z 1 d_m_rootAt_31 rfl rfl ?_
    refine ml_10 Z (by omega) d_m_rootAt_32 ?_
    refine z_ri Z _ hr rfl d_m_rootAt_33 (by decide) (by decide) rfl ?_
    exact Or.inr ⟨j, hj, rfl, rfl, rfl⟩
set_option maxHeartbeats 4000000 in
set_option maxRecDepth 100000 in
theorem c_m_root {l : Launch} {D : va_G} {cI cB cL : ClassId} {h : Nat → Nat} {σ : St} {r x : Int32} : zMet l y_m_root w_m_root rm_m_root D zCl (zTy cI cB cL) (wm h cI cB σ) [.ref (h 0), .int r, .int x] (qv (wm h cI cB) (fun u => (¬ isR r ∧ u = th σ 1) ∨ (isR r ∧ ¬ (x = -1 ∨ tM σ x) ∧ u = th σ 2) ∨ (∃ j, j < 6 ∧ r = nI j ∧ (x = -1 ∨ tM σ x) ∧ u = va_up (th σ 0) 10 (upd (σ 10) j x))) noXs) 0 0 0 0 := by
  refine z_meth (by decide) rfl (Nat.le_of_ble_eq_true rfl) (fun p e s mm as bl me cd Z hr hnm ht => ?_)
  refine z_aload_n Z 0 d_m_root_0 rfl rfl ?_
  refine z_iload_n Z 1 d_m_root_1 rfl rfl ?_
  refine z_S0 Z (c_m_isRoot ) (ok_m_isRoot _) rfl rfl ⟨by decide, by decide⟩ rfl rfl (Nat.le_of_ble_eq_true rfl) d_m_root_2 ⟨by decide, by decide⟩ (fun v2 h2 => ?_)
  refine z_if_ne Z 12 d_m_root_5 (by decide) (fun h5 => ?_) (fun h5 => ?_)
  · obtain ⟨j, hj, rfl⟩ := zB1 h2 h5
    refine z_iload_n Z 2 d_m_root_12 rfl rfl ?_
    refine z_iconst Z (-1) d_m_root_13 zi_m1 ?_
    refine z_icmp_eq Z 29 d_m_root_14 (by decide) (fun h14 => ?_) (fun h14 => ?_)
    · refine z_iconst Z (nI 0) d_m_root_29 zi_0 ?_
      refine mp_0 Z d_m_root_30 ?_
      refine z_aload_n Z 0 d_m_root_33 rfl rfl ?_
      refine mn_0 Z d_m_root_34 ?_
      refine z_if_ne Z 47 d_m_root_37 (by decide) (fun hx => absurd hx (fun q => q rfl)) (fun h37 => ?_)
      refine z_aload_n Z 0 d_m_root_40 rfl rfl ?_
      refine mg_10 Z d_m_root_41 ?_
      refine z_iload_n Z 1 d_m_root_44 rfl rfl ?_
      refine z_iload_n Z 2 d_m_root_45 rfl rfl ?_
      refine ms_10 Z (by omega) d_m_root_46 ?_
      refine z_rv Z _ hr d_m_root_47 (by decide) (by decide) rfl ?_
      exact Or.inr (Or.inr ⟨j, hj, rfl, Or.inl h14, rfl⟩)
    · refine z_aload_n Z 0 d_m_root_17 rfl rfl ?_
      refine z_iload_n Z 2 d_m_root_18 rfl rfl ?_
      refine z_Wi0 Z (c_m_isThing ) (ok_m_isThing _) rfl rfl ⟨by decide, by decide⟩ rfl rfl rfl rfl (Nat.le_of_ble_eq_true rfl) d_m_root_19 ⟨by decide, by decide⟩ (fun E h => h.elim) (fun v19 h19 => ?_)
      refine z_if_ne Z 29 d_m_root_22 (by decide) (fun h22 => ?_) (fun h22 => ?_)
      · refine z_iconst Z (nI 0) d_m_root_29 zi_0 ?_
        refine mp_0 Z d_m_root_30 ?_
        refine z_aload_n Z 0 d_m_root_33 rfl rfl ?_
        refine mn_0 Z d_m_root_34 ?_
        refine z_if_ne Z 47 d_m_root_37 (by decide) (fun hx => absurd hx (fun q => q rfl)) (fun h37 => ?_)
        refine z_aload_n Z 0 d_m_root_40 rfl rfl ?_
        refine mg_10 Z d_m_root_41 ?_
        refine z_iload_n Z 1 d_m_root_44 rfl rfl ?_
        refine z_iload_n Z 2 d_m_root_45 rfl rfl ?_
        refine ms_10 Z (by omega) d_m_root_46 ?_
        refine z_rv Z _ hr d_m_root_47 (by decide) (by decide) rfl ?_
        exact Or.inr (Or.inr ⟨j, hj, rfl, Or.inr (zB1 h19 h22), rfl⟩)
      · refine z_iconst Z (nI 2) d_m_root_25 zi_2 ?_
        refine z_goto Z 30 d_m_root_26 (by decide) ?_
        refine mp_0 Z d_m_root_30 ?_
        refine z_aload_n Z 0 d_m_root_33 rfl rfl ?_
        refine mn_0 Z d_m_root_34 ?_
        refine z_if_ne Z 47 d_m_root_37 (by decide) (fun h37 => ?_) (fun hx => absurd hx (show ¬ (nI 2 : Int32) = 0 from by decide))
        refine z_rv Z _ hr d_m_root_47 (by decide) (by decide) rfl ?_
        exact Or.inr (Or.inl ⟨⟨j, hj, rfl⟩, fun q => q.elim h14 (zB0 h19 h22), rfl⟩)
  · refine z_iconst Z (nI 1) d_m_root_8 zi_1 ?_
    refine z_goto Z 30 d_m_root_9 (by decide) ?_
    refine mp_0 Z d_m_root_30 ?_
    refine z_aload_n Z 0 d_m_root_33 rfl rfl ?_
    refine mn_0 Z d_m_root_34 ?_
    refine z_if_ne Z 47 d_m_root_37 (by decide) (fun h37 => ?_) (fun hx => absurd hx (show ¬ (nI 1 : Int32) = 0 from by decide))
    refine z_rv Z _ hr d_m_root_47 (by decide) (by decide) rfl ?_
    exact Or.inl ⟨zB0 h2 h5, rfl⟩
set_option maxHeartbeats 4000000 in
set_option maxRecDepth 100000 in
theorem c_m_queued {l : Launch} {D : va_G} {cI cB cL : ClassId} {h : Nat → Nat} {σ : St}  : zMet l y_m_queued w_m_queued rm_m_queued D zCl (zTy cI cB cL) (wm h cI cB σ) [.ref (h 0)] (qi (wm h cI cB) (fun v u => v = σ 0 1 ∧ u = th σ 0) noXs) 0 0 0 0 := by
  refine z_meth (by decide) rfl (Nat.le_of_ble_eq_true rfl) (fun p e s mm as bl me cd Z hr hnm ht => ?_)
  refine z_aload_n Z 0 d_m_queued_0 rfl rfl ?_
  refine z_iconst Z (nI 0) d_m_queued_1 zi_0 ?_
  refine mp_0 Z d_m_queued_2 ?_
  refine z_aload_n Z 0 d_m_queued_5 rfl rfl ?_
  refine mn_1 Z d_m_queued_6 ?_
  refine z_ri Z _ hr rfl d_m_queued_9 (by decide) (by decide) rfl ?_
  exact ⟨rfl, rfl⟩
set_option maxHeartbeats 4000000 in
set_option maxRecDepth 100000 in
theorem c_m_collections {l : Launch} {D : va_G} {cI cB cL : ClassId} {h : Nat → Nat} {σ : St}  : zMet l y_m_collections w_m_collections rm_m_collections D zCl (zTy cI cB cL) (wm h cI cB σ) [.ref (h 0)] (qi (wm h cI cB) (fun v u => v = σ 0 3 ∧ u = th σ 0) noXs) 0 0 0 0 := by
  refine z_meth (by decide) rfl (Nat.le_of_ble_eq_true rfl) (fun p e s mm as bl me cd Z hr hnm ht => ?_)
  refine z_aload_n Z 0 d_m_collections_0 rfl rfl ?_
  refine z_iconst Z (nI 0) d_m_collections_1 zi_0 ?_
  refine mp_0 Z d_m_collections_2 ?_
  refine z_aload_n Z 0 d_m_collections_5 rfl rfl ?_
  refine mn_3 Z d_m_collections_6 ?_
  refine z_ri Z _ hr rfl d_m_collections_9 (by decide) (by decide) rfl ?_
  exact ⟨rfl, rfl⟩
set_option maxHeartbeats 4000000 in
set_option maxRecDepth 100000 in
theorem c_m_serial {l : Launch} {D : va_G} {cI cB cL : ClassId} {h : Nat → Nat} {σ : St} {x : Int32} : zMet l y_m_serial w_m_serial rm_m_serial D zCl (zTy cI cB cL) (wm h cI cB σ) [.ref (h 0), .int x] (qi (wm h cI cB) (fun v u => (¬ tM σ x ∧ u = th σ 1) ∨ (∃ c, c < 24 ∧ x = nI c ∧ tM σ x ∧ v = σ 2 c ∧ u = th σ 0)) noXs) 0 0 0 0 := by
  refine z_meth (by decide) rfl (Nat.le_of_ble_eq_true rfl) (fun p e s mm as bl me cd Z hr hnm ht => ?_)
  refine z_aload_n Z 0 d_m_serial_0 rfl rfl ?_
  refine z_aload_n Z 0 d_m_serial_1 rfl rfl ?_
  refine z_iload_n Z 1 d_m_serial_2 rfl rfl ?_
  refine z_Wi0 Z (c_m_isThing ) (ok_m_isThing _) rfl rfl ⟨by decide, by decide⟩ rfl rfl rfl rfl (Nat.le_of_ble_eq_true rfl) d_m_serial_3 ⟨by decide, by decide⟩ (fun E h => h.elim) (fun v3 h3 => ?_)
  refine z_if_eq Z 13 d_m_serial_6 (by decide) (fun h6 => ?_) (fun h6 => ?_)
  · refine z_iconst Z (nI 1) d_m_serial_13 zi_1 ?_
    refine mp_0 Z d_m_serial_14 ?_
    refine z_aload_n Z 0 d_m_serial_17 rfl rfl ?_
    refine mn_0 Z d_m_serial_18 ?_
    refine z_if_le Z 28 d_m_serial_21 (by decide) (fun hx => absurd hx (show ¬ (nI 1 : Int32) ≤ 0 from by decide)) (fun h21 => ?_)
    refine z_iconst Z (nI 0) d_m_serial_24 zi_0 ?_
    refine z_goto Z 34 d_m_serial_25 (by decide) ?_
    refine z_ri Z _ hr rfl d_m_serial_34 (by decide) (by decide) rfl ?_
    exact Or.inl ⟨zB0 h3 h6, rfl⟩
  · have hx := zB1 h3 h6
    obtain ⟨c, hc, rfl, hk⟩ := id hx
    refine z_iconst Z (nI 0) d_m_serial_9 zi_0 ?_
    refine z_goto Z 14 d_m_serial_10 (by decide) ?_
    refine mp_0 Z d_m_serial_14 ?_
    refine z_aload_n Z 0 d_m_serial_17 rfl rfl ?_
    refine mn_0 Z d_m_serial_18 ?_
    refine z_if_le Z 28 d_m_serial_21 (by decide) (fun h21 => ?_) (fun hx => absurd hx (fun q => q (show (nI 0 : Int32) ≤ 0 from by decide)))
    refine z_aload_n Z 0 d_m_serial_28 rfl rfl ?_
    refine mg_2 Z d_m_serial_29 ?_
    refine z_iload_n Z 1 d_m_serial_32 rfl rfl ?_
    refine ml_2 Z (by omega) d_m_serial_33 ?_
    refine z_ri Z _ hr rfl d_m_serial_34 (by decide) (by decide) rfl ?_
    exact Or.inr ⟨c, hc, rfl, hx, rfl, rfl⟩
set_option maxHeartbeats 4000000 in
set_option maxRecDepth 100000 in
theorem c_m_kind {l : Launch} {D : va_G} {cI cB cL : ClassId} {h : Nat → Nat} {σ : St} {x : Int32} : zMet l y_m_kind w_m_kind rm_m_kind D zCl (zTy cI cB cL) (wm h cI cB σ) [.ref (h 0), .int x] (qi (wm h cI cB) (fun v u => (¬ tM σ x ∧ u = th σ 1) ∨ (∃ c, c < 24 ∧ x = nI c ∧ tM σ x ∧ v = σ 1 c + nI 4 * σ 7 c ∧ u = th σ 0)) noXs) 0 0 0 0 := by
  refine z_meth (by decide) rfl (Nat.le_of_ble_eq_true rfl) (fun p e s mm as bl me cd Z hr hnm ht => ?_)
  refine z_aload_n Z 0 d_m_kind_0 rfl rfl ?_
  refine z_aload_n Z 0 d_m_kind_1 rfl rfl ?_
  refine z_iload_n Z 1 d_m_kind_2 rfl rfl ?_
  refine z_Wi0 Z (c_m_isThing ) (ok_m_isThing _) rfl rfl ⟨by decide, by decide⟩ rfl rfl rfl rfl (Nat.le_of_ble_eq_true rfl) d_m_kind_3 ⟨by decide, by decide⟩ (fun E h => h.elim) (fun v3 h3 => ?_)
  refine z_if_eq Z 13 d_m_kind_6 (by decide) (fun h6 => ?_) (fun h6 => ?_)
  · refine z_iconst Z (nI 1) d_m_kind_13 zi_1 ?_
    refine mp_0 Z d_m_kind_14 ?_
    refine z_aload_n Z 0 d_m_kind_17 rfl rfl ?_
    refine mn_0 Z d_m_kind_18 ?_
    refine z_if_le Z 28 d_m_kind_21 (by decide) (fun hx => absurd hx (show ¬ (nI 1 : Int32) ≤ 0 from by decide)) (fun h21 => ?_)
    refine z_iconst Z (nI 0) d_m_kind_24 zi_0 ?_
    refine z_goto Z 43 d_m_kind_25 (by decide) ?_
    refine z_ri Z _ hr rfl d_m_kind_43 (by decide) (by decide) rfl ?_
    exact Or.inl ⟨zB0 h3 h6, rfl⟩
  · have hx := zB1 h3 h6
    obtain ⟨c, hc, rfl, hk⟩ := id hx
    refine z_iconst Z (nI 0) d_m_kind_9 zi_0 ?_
    refine z_goto Z 14 d_m_kind_10 (by decide) ?_
    refine mp_0 Z d_m_kind_14 ?_
    refine z_aload_n Z 0 d_m_kind_17 rfl rfl ?_
    refine mn_0 Z d_m_kind_18 ?_
    refine z_if_le Z 28 d_m_kind_21 (by decide) (fun h21 => ?_) (fun hx => absurd hx (fun q => q (show (nI 0 : Int32) ≤ 0 from by decide)))
    refine z_aload_n Z 0 d_m_kind_28 rfl rfl ?_
    refine mg_1 Z d_m_kind_29 ?_
    refine z_iload_n Z 1 d_m_kind_32 rfl rfl ?_
    refine ml_1 Z (by omega) d_m_kind_33 ?_
    refine z_iconst Z (nI 4) d_m_kind_34 zi_4 ?_
    refine z_aload_n Z 0 d_m_kind_35 rfl rfl ?_
    refine mg_7 Z d_m_kind_36 ?_
    refine z_iload_n Z 1 d_m_kind_39 rfl rfl ?_
    refine ml_7 Z (by omega) d_m_kind_40 ?_
    refine z_imul Z d_m_kind_41 ?_
    refine z_iadd Z d_m_kind_42 ?_
    refine z_ri Z _ hr rfl d_m_kind_43 (by decide) (by decide) rfl ?_
    exact Or.inr ⟨c, hc, rfl, hx, rfl, rfl⟩
set_option maxHeartbeats 4000000 in
set_option maxRecDepth 100000 in
theorem c_m_get {l : Launch} {D : va_G} {cI cB cL : ClassId} {h : Nat → Nat} {σ : St} {x f : Int32} : zMet l y_m_get w_m_get rm_m_get D zCl (zTy cI cB cL) (wm h cI cB σ) [.ref (h 0), .int x, .int f] (qi (wm h cI cB) (fun v u => (¬ tM σ x ∧ u = th σ 1) ∨ (tM σ x ∧ ¬ isF σ x f ∧ u = th σ 2) ∨ (∃ c j, c < 24 ∧ x = nI c ∧ tM σ x ∧ j < fc (σ 1 c) ∧ f = nI j ∧ v = σ 3 (c * 3 + j) ∧ u = th σ 0)) noXs) 0 0 0 0 := by
  refine z_meth (by decide) rfl (Nat.le_of_ble_eq_true rfl) (fun p e s mm as bl me cd Z hr hnm ht => ?_)
  refine z_aload_n Z 0 d_m_get_0 rfl rfl ?_
  refine z_aload_n Z 0 d_m_get_1 rfl rfl ?_
  refine z_iload_n Z 1 d_m_get_2 rfl rfl ?_
  refine z_Wi0 Z (c_m_isThing ) (ok_m_isThing _) rfl rfl ⟨by decide, by decide⟩ rfl rfl rfl rfl (Nat.le_of_ble_eq_true rfl) d_m_get_3 ⟨by decide, by decide⟩ (fun E h => h.elim) (fun v3 h3 => ?_)
  refine z_if_ne Z 13 d_m_get_6 (by decide) (fun h6 => ?_) (fun h6 => ?_)
  · have hx := zB1 h3 h6
    obtain ⟨c, hc, rfl, hk⟩ := id hx
    refine z_aload_n Z 0 d_m_get_13 rfl rfl ?_
    refine z_iload_n Z 1 d_m_get_14 rfl rfl ?_
    refine z_iload_n Z 2 d_m_get_15 rfl rfl ?_
    refine z_Wi0 Z (c_m_isField hc) (ok_m_isField _) rfl rfl ⟨by decide, by decide⟩ rfl rfl rfl rfl (Nat.le_of_ble_eq_true rfl) d_m_get_16 ⟨by decide, by decide⟩ (fun E h => h.elim) (fun v16 h16 => ?_)
    refine z_if_ne Z 26 d_m_get_19 (by decide) (fun h19 => ?_) (fun h19 => ?_)
    · obtain ⟨j, hj, rfl⟩ := zB1 h16 h19
      have hj3 := fc_le (σ 1 c)
      refine z_iconst Z (nI 0) d_m_get_26 zi_0 ?_
      refine mp_0 Z d_m_get_27 ?_
      refine z_aload_n Z 0 d_m_get_30 rfl rfl ?_
      refine mn_0 Z d_m_get_31 ?_
      refine z_if_le Z 41 d_m_get_34 (by decide) (fun h34 => ?_) (fun hx => absurd hx (fun q => q (show (nI 0 : Int32) ≤ 0 from by decide)))
      refine z_aload_n Z 0 d_m_get_41 rfl rfl ?_
      refine mg_3 Z d_m_get_42 ?_
      refine z_iconst Z (nI 3) d_m_get_45 zi_3 ?_
      refine z_iload_n Z 1 d_m_get_46 rfl rfl ?_
      refine z_imulN Z d_m_get_47 ?_
      refine z_iload_n Z 2 d_m_get_48 rfl rfl ?_
      refine z_iaddN Z d_m_get_49 ?_
      refine z_eqi (y := nI (c * 3 + j)) (by rw [Nat.mul_comm]) ?_
      refine ml_3 Z (by omega) d_m_get_50 ?_
      refine z_ri Z _ hr rfl d_m_get_51 (by decide) (by decide) rfl ?_
      exact Or.inr (Or.inr ⟨c, j, hc, rfl, hx, hj, rfl, rfl, rfl⟩)
    · refine z_iconst Z (nI 2) d_m_get_22 zi_2 ?_
      refine z_goto Z 27 d_m_get_23 (by decide) ?_
      refine mp_0 Z d_m_get_27 ?_
      refine z_aload_n Z 0 d_m_get_30 rfl rfl ?_
      refine mn_0 Z d_m_get_31 ?_
      refine z_if_le Z 41 d_m_get_34 (by decide) (fun hx => absurd hx (show ¬ (nI 2 : Int32) ≤ 0 from by decide)) (fun h34 => ?_)
      refine z_iconst Z (nI 0) d_m_get_37 zi_0 ?_
      refine z_goto Z 51 d_m_get_38 (by decide) ?_
      refine z_ri Z _ hr rfl d_m_get_51 (by decide) (by decide) rfl ?_
      exact Or.inr (Or.inl ⟨hx, fun q => zB0 h16 h19 ((isF_nI hc).mp q), rfl⟩)
  · refine z_iconst Z (nI 1) d_m_get_9 zi_1 ?_
    refine z_goto Z 27 d_m_get_10 (by decide) ?_
    refine mp_0 Z d_m_get_27 ?_
    refine z_aload_n Z 0 d_m_get_30 rfl rfl ?_
    refine mn_0 Z d_m_get_31 ?_
    refine z_if_le Z 41 d_m_get_34 (by decide) (fun hx => absurd hx (show ¬ (nI 1 : Int32) ≤ 0 from by decide)) (fun h34 => ?_)
    refine z_iconst Z (nI 0) d_m_get_37 zi_0 ?_
    refine z_goto Z 51 d_m_get_38 (by decide) ?_
    refine z_ri Z _ hr rfl d_m_get_51 (by decide) (by decide) rfl ?_
    exact Or.inl ⟨zB0 h3 h6, rfl⟩
set_option maxHeartbeats 4000000 in
set_option maxRecDepth 100000 in
theorem c_m_set {l : Launch} {D : va_G} {cI cB cL : ClassId} {h : Nat → Nat} {σ : St} {x f t : Int32} : zMet l y_m_set w_m_set rm_m_set D zCl (zTy cI cB cL) (wm h cI cB σ) [.ref (h 0), .int x, .int f, .int t] (qv (wm h cI cB) (fun u => (¬ (tM σ x ∧ (t = -1 ∨ tM σ t)) ∧ u = th σ 1) ∨ ((tM σ x ∧ (t = -1 ∨ tM σ t)) ∧ ¬ isF σ x f ∧ u = th σ 2) ∨ (∃ c j, c < 24 ∧ x = nI c ∧ tM σ x ∧ (t = -1 ∨ tM σ t) ∧ j < fc (σ 1 c) ∧ f = nI j ∧ u = va_up (th σ 0) 3 (upd (σ 3) (c * 3 + j) t))) noXs) 0 0 0 0 := by
  refine z_meth (by decide) rfl (Nat.le_of_ble_eq_true rfl) (fun p e s mm as bl me cd Z hr hnm ht => ?_)
  refine z_aload_n Z 0 d_m_set_0 rfl rfl ?_
  refine z_aload_n Z 0 d_m_set_1 rfl rfl ?_
  refine z_iload_n Z 1 d_m_set_2 rfl rfl ?_
  refine z_Wi0 Z (c_m_isThing ) (ok_m_isThing _) rfl rfl ⟨by decide, by decide⟩ rfl rfl rfl rfl (Nat.le_of_ble_eq_true rfl) d_m_set_3 ⟨by decide, by decide⟩ (fun E h => h.elim) (fun v3 h3 => ?_)
  refine z_if_eq Z 22 d_m_set_6 (by decide) (fun h6 => ?_) (fun h6 => ?_)
  · refine z_iconst Z (nI 1) d_m_set_22 zi_1 ?_
    refine z_goto Z 40 d_m_set_23 (by decide) ?_
    refine mp_0 Z d_m_set_40 ?_
    refine z_aload_n Z 0 d_m_set_43 rfl rfl ?_
    refine mn_0 Z d_m_set_44 ?_
    refine z_if_ne Z 61 d_m_set_47 (by decide) (fun h47 => ?_) (fun hx => absurd hx (show ¬ (nI 1 : Int32) = 0 from by decide))
    refine z_rv Z _ hr d_m_set_61 (by decide) (by decide) rfl ?_
    exact Or.inl ⟨fun q => zB0 h3 h6 q.1, rfl⟩
  · have hx := zB1 h3 h6
    obtain ⟨c, hc, rfl, hk⟩ := id hx
    refine z_iload_n Z 3 d_m_set_9 rfl rfl ?_
    refine z_iconst Z (-1) d_m_set_10 zi_m1 ?_
    refine z_icmp_eq Z 26 d_m_set_11 (by decide) (fun h11 => ?_) (fun h11 => ?_)
    · have ht1 : t = -1 ∨ tM σ t := Or.inl h11
      refine z_aload_n Z 0 d_m_set_26 rfl rfl ?_
      refine z_iload_n Z 1 d_m_set_27 rfl rfl ?_
      refine z_iload_n Z 2 d_m_set_28 rfl rfl ?_
      refine z_Wi0 Z (c_m_isField hc) (ok_m_isField _) rfl rfl ⟨by decide, by decide⟩ rfl rfl rfl rfl (Nat.le_of_ble_eq_true rfl) d_m_set_29 ⟨by decide, by decide⟩ (fun E h => h.elim) (fun v29 h29 => ?_)
      refine z_if_ne Z 39 d_m_set_32 (by decide) (fun h32 => ?_) (fun h32 => ?_)
      · obtain ⟨j, hj, rfl⟩ := zB1 h29 h32
        have hj3 := fc_le (σ 1 c)
        refine z_iconst Z (nI 0) d_m_set_39 zi_0 ?_
        refine mp_0 Z d_m_set_40 ?_
        refine z_aload_n Z 0 d_m_set_43 rfl rfl ?_
        refine mn_0 Z d_m_set_44 ?_
        refine z_if_ne Z 61 d_m_set_47 (by decide) (fun hx => absurd hx (fun q => q rfl)) (fun h47 => ?_)
        refine z_aload_n Z 0 d_m_set_50 rfl rfl ?_
        refine mg_3 Z d_m_set_51 ?_
        refine z_iconst Z (nI 3) d_m_set_54 zi_3 ?_
        refine z_iload_n Z 1 d_m_set_55 rfl rfl ?_
        refine z_imulN Z d_m_set_56 ?_
        refine z_iload_n Z 2 d_m_set_57 rfl rfl ?_
        refine z_iaddN Z d_m_set_58 ?_
        refine z_eqi (y := nI (c * 3 + j)) (by rw [Nat.mul_comm]) ?_
        refine z_iload_n Z 3 d_m_set_59 rfl rfl ?_
        refine ms_3 Z (by omega) d_m_set_60 ?_
        refine z_rv Z _ hr d_m_set_61 (by decide) (by decide) rfl ?_
        exact Or.inr (Or.inr ⟨c, j, hc, rfl, hx, ht1, hj, rfl, rfl⟩)
      · refine z_iconst Z (nI 2) d_m_set_35 zi_2 ?_
        refine z_goto Z 40 d_m_set_36 (by decide) ?_
        refine mp_0 Z d_m_set_40 ?_
        refine z_aload_n Z 0 d_m_set_43 rfl rfl ?_
        refine mn_0 Z d_m_set_44 ?_
        refine z_if_ne Z 61 d_m_set_47 (by decide) (fun h47 => ?_) (fun hx => absurd hx (show ¬ (nI 2 : Int32) = 0 from by decide))
        refine z_rv Z _ hr d_m_set_61 (by decide) (by decide) rfl ?_
        exact Or.inr (Or.inl ⟨⟨hx, ht1⟩, fun q => zB0 h29 h32 ((isF_nI hc).mp q), rfl⟩)
    · refine z_aload_n Z 0 d_m_set_14 rfl rfl ?_
      refine z_iload_n Z 3 d_m_set_15 rfl rfl ?_
      refine z_Wi0 Z (c_m_isThing ) (ok_m_isThing _) rfl rfl ⟨by decide, by decide⟩ rfl rfl rfl rfl (Nat.le_of_ble_eq_true rfl) d_m_set_16 ⟨by decide, by decide⟩ (fun E h => h.elim) (fun v16 h16 => ?_)
      refine z_if_ne Z 26 d_m_set_19 (by decide) (fun h19 => ?_) (fun h19 => ?_)
      · have ht1 : t = -1 ∨ tM σ t := Or.inr (zB1 h16 h19)
        refine z_aload_n Z 0 d_m_set_26 rfl rfl ?_
        refine z_iload_n Z 1 d_m_set_27 rfl rfl ?_
        refine z_iload_n Z 2 d_m_set_28 rfl rfl ?_
        refine z_Wi0 Z (c_m_isField hc) (ok_m_isField _) rfl rfl ⟨by decide, by decide⟩ rfl rfl rfl rfl (Nat.le_of_ble_eq_true rfl) d_m_set_29 ⟨by decide, by decide⟩ (fun E h => h.elim) (fun v29 h29 => ?_)
        refine z_if_ne Z 39 d_m_set_32 (by decide) (fun h32 => ?_) (fun h32 => ?_)
        · obtain ⟨j, hj, rfl⟩ := zB1 h29 h32
          have hj3 := fc_le (σ 1 c)
          refine z_iconst Z (nI 0) d_m_set_39 zi_0 ?_
          refine mp_0 Z d_m_set_40 ?_
          refine z_aload_n Z 0 d_m_set_43 rfl rfl ?_
          refine mn_0 Z d_m_set_44 ?_
          refine z_if_ne Z 61 d_m_set_47 (by decide) (fun hx => absurd hx (fun q => q rfl)) (fun h47 => ?_)
          refine z_aload_n Z 0 d_m_set_50 rfl rfl ?_
          refine mg_3 Z d_m_set_51 ?_
          refine z_iconst Z (nI 3) d_m_set_54 zi_3 ?_
          refine z_iload_n Z 1 d_m_set_55 rfl rfl ?_
          refine z_imulN Z d_m_set_56 ?_
          refine z_iload_n Z 2 d_m_set_57 rfl rfl ?_
          refine z_iaddN Z d_m_set_58 ?_
          refine z_eqi (y := nI (c * 3 + j)) (by rw [Nat.mul_comm]) ?_
          refine z_iload_n Z 3 d_m_set_59 rfl rfl ?_
          refine ms_3 Z (by omega) d_m_set_60 ?_
          refine z_rv Z _ hr d_m_set_61 (by decide) (by decide) rfl ?_
          exact Or.inr (Or.inr ⟨c, j, hc, rfl, hx, ht1, hj, rfl, rfl⟩)
        · refine z_iconst Z (nI 2) d_m_set_35 zi_2 ?_
          refine z_goto Z 40 d_m_set_36 (by decide) ?_
          refine mp_0 Z d_m_set_40 ?_
          refine z_aload_n Z 0 d_m_set_43 rfl rfl ?_
          refine mn_0 Z d_m_set_44 ?_
          refine z_if_ne Z 61 d_m_set_47 (by decide) (fun h47 => ?_) (fun hx => absurd hx (show ¬ (nI 2 : Int32) = 0 from by decide))
          refine z_rv Z _ hr d_m_set_61 (by decide) (by decide) rfl ?_
          exact Or.inr (Or.inl ⟨⟨hx, ht1⟩, fun q => zB0 h29 h32 ((isF_nI hc).mp q), rfl⟩)
      · refine z_iconst Z (nI 1) d_m_set_22 zi_1 ?_
        refine z_goto Z 40 d_m_set_23 (by decide) ?_
        refine mp_0 Z d_m_set_40 ?_
        refine z_aload_n Z 0 d_m_set_43 rfl rfl ?_
        refine mn_0 Z d_m_set_44 ?_
        refine z_if_ne Z 61 d_m_set_47 (by decide) (fun h47 => ?_) (fun hx => absurd hx (show ¬ (nI 1 : Int32) = 0 from by decide))
        refine z_rv Z _ hr d_m_set_61 (by decide) (by decide) rfl ?_
        exact Or.inl ⟨fun q => q.2.elim h11 (zB0 h16 h19), rfl⟩
set_option maxHeartbeats 4000000 in
set_option maxRecDepth 100000 in
theorem c_m_key {l : Launch} {D : va_G} {cI cB cL : ClassId} {h : Nat → Nat} {σ : St} (hw : wf σ) {x i : Int32} : zMet l y_m_key w_m_key rm_m_key D zCl (zTy cI cB cL) (wm h cI cB σ) [.ref (h 0), .int x, .int i] (qi (wm h cI cB) (fun v u => (¬ tM σ x ∧ u = th σ 1) ∨ (tM σ x ∧ ¬ isTab σ x ∧ u = th σ 2) ∨ (∃ c, c < 24 ∧ x = nI c ∧ tM σ x ∧ σ 1 c = nI 2 ∧ ((¬ (∃ j, j < cnt σ c ∧ i = nI j) ∧ u = th σ 3) ∨ (∃ j, j < cnt σ c ∧ i = nI j ∧ v = σ 4 (c * 4 + j) ∧ u = th σ 0)))) noXs) 0 0 0 0 := by
  refine z_meth (by decide) rfl (Nat.le_of_ble_eq_true rfl) (fun p e s mm as bl me cd Z hr hnm ht => ?_)
  refine z_aload_n Z 0 d_m_key_0 rfl rfl ?_
  refine z_aload_n Z 0 d_m_key_1 rfl rfl ?_
  refine z_iload_n Z 1 d_m_key_2 rfl rfl ?_
  refine z_Wi0 Z (c_m_isThing ) (ok_m_isThing _) rfl rfl ⟨by decide, by decide⟩ rfl rfl rfl rfl (Nat.le_of_ble_eq_true rfl) d_m_key_3 ⟨by decide, by decide⟩ (fun E h => h.elim) (fun v3 h3 => ?_)
  refine z_if_ne Z 13 d_m_key_6 (by decide) (fun h6 => ?_) (fun h6 => ?_)
  · have hx := zB1 h3 h6
    obtain ⟨c, hc, rfl, hk⟩ := id hx
    have e6 : σ 6 c = nI (cnt σ c) := (wf_cnt hw hc).2
    have n6 : cnt σ c ≤ 4 := (wf_cnt hw hc).1
    refine z_aload_n Z 0 d_m_key_13 rfl rfl ?_
    refine mg_1 Z d_m_key_14 ?_
    refine z_iload_n Z 1 d_m_key_17 rfl rfl ?_
    refine ml_1 Z (by omega) d_m_key_18 ?_
    refine z_iconst Z (nI 2) d_m_key_19 zi_2 ?_
    refine z_icmp_eq Z 27 d_m_key_20 (by decide) (fun h20 => ?_) (fun h20 => ?_)
    · refine z_iload_n Z 2 d_m_key_27 rfl rfl ?_
      refine z_if_lt Z 41 d_m_key_28 (by decide) (fun h28 => ?_) (fun h28 => ?_)
      · refine z_iconst Z (nI 3) d_m_key_41 zi_3 ?_
        refine z_goto Z 46 d_m_key_42 (by decide) ?_
        refine mp_0 Z d_m_key_46 ?_
        refine z_aload_n Z 0 d_m_key_49 rfl rfl ?_
        refine mn_0 Z d_m_key_50 ?_
        refine z_if_le Z 60 d_m_key_53 (by decide) (fun hx => absurd hx (show ¬ (nI 3 : Int32) ≤ 0 from by decide)) (fun h53 => ?_)
        refine z_iconst Z (nI 0) d_m_key_56 zi_0 ?_
        refine z_goto Z 70 d_m_key_57 (by decide) ?_
        refine z_ri Z _ hr rfl d_m_key_70 (by decide) (by decide) rfl ?_
        exact Or.inr (Or.inr ⟨c, hc, rfl, hx, h20, Or.inl ⟨fun ⟨j, hj, q⟩ => nI_pos (by omega) (q ▸ h28), rfl⟩⟩)
      · refine z_iload_n Z 2 d_m_key_31 rfl rfl ?_
        refine z_aload_n Z 0 d_m_key_32 rfl rfl ?_
        refine mg_6 Z d_m_key_33 ?_
        refine z_iload_n Z 1 d_m_key_36 rfl rfl ?_
        refine ml_6 Z (by omega) d_m_key_37 ?_
        refine z_eqi e6 ?_
        refine z_icmp_lt Z 45 d_m_key_38 (by decide) (fun h38 => ?_) (fun h38 => ?_)
        · obtain ⟨j, hj, rfl⟩ := inN h28 h38 (by omega)
          refine z_iconst Z (nI 0) d_m_key_45 zi_0 ?_
          refine mp_0 Z d_m_key_46 ?_
          refine z_aload_n Z 0 d_m_key_49 rfl rfl ?_
          refine mn_0 Z d_m_key_50 ?_
          refine z_if_le Z 60 d_m_key_53 (by decide) (fun h53 => ?_) (fun hx => absurd hx (fun q => q (show (nI 0 : Int32) ≤ 0 from by decide)))
          refine z_aload_n Z 0 d_m_key_60 rfl rfl ?_
          refine mg_4 Z d_m_key_61 ?_
          refine z_iconst Z (nI 4) d_m_key_64 zi_4 ?_
          refine z_iload_n Z 1 d_m_key_65 rfl rfl ?_
          refine z_imulN Z d_m_key_66 ?_
          refine z_iload_n Z 2 d_m_key_67 rfl rfl ?_
          refine z_iaddN Z d_m_key_68 ?_
          refine z_eqi (y := nI (c * 4 + j)) (by rw [Nat.mul_comm]) ?_
          refine ml_4 Z (by omega) d_m_key_69 ?_
          refine z_ri Z _ hr rfl d_m_key_70 (by decide) (by decide) rfl ?_
          exact Or.inr (Or.inr ⟨c, hc, rfl, hx, h20, Or.inr ⟨j, hj, rfl, rfl, rfl⟩⟩)
        · refine z_iconst Z (nI 3) d_m_key_41 zi_3 ?_
          refine z_goto Z 46 d_m_key_42 (by decide) ?_
          refine mp_0 Z d_m_key_46 ?_
          refine z_aload_n Z 0 d_m_key_49 rfl rfl ?_
          refine mn_0 Z d_m_key_50 ?_
          refine z_if_le Z 60 d_m_key_53 (by decide) (fun hx => absurd hx (show ¬ (nI 3 : Int32) ≤ 0 from by decide)) (fun h53 => ?_)
          refine z_iconst Z (nI 0) d_m_key_56 zi_0 ?_
          refine z_goto Z 70 d_m_key_57 (by decide) ?_
          refine z_ri Z _ hr rfl d_m_key_70 (by decide) (by decide) rfl ?_
          exact Or.inr (Or.inr ⟨c, hc, rfl, hx, h20, Or.inl ⟨fun ⟨j, hj, q⟩ => h38 (by rw [q]; exact nI_lt hj (by omega)), rfl⟩⟩)
    · refine z_iconst Z (nI 2) d_m_key_23 zi_2 ?_
      refine z_goto Z 46 d_m_key_24 (by decide) ?_
      refine mp_0 Z d_m_key_46 ?_
      refine z_aload_n Z 0 d_m_key_49 rfl rfl ?_
      refine mn_0 Z d_m_key_50 ?_
      refine z_if_le Z 60 d_m_key_53 (by decide) (fun hx => absurd hx (show ¬ (nI 2 : Int32) ≤ 0 from by decide)) (fun h53 => ?_)
      refine z_iconst Z (nI 0) d_m_key_56 zi_0 ?_
      refine z_goto Z 70 d_m_key_57 (by decide) ?_
      refine z_ri Z _ hr rfl d_m_key_70 (by decide) (by decide) rfl ?_
      exact Or.inr (Or.inl ⟨hx, fun q => h20 ((isTab_nI hc).mp q), rfl⟩)
  · refine z_iconst Z (nI 1) d_m_key_9 zi_1 ?_
    refine z_goto Z 46 d_m_key_10 (by decide) ?_
    refine mp_0 Z d_m_key_46 ?_
    refine z_aload_n Z 0 d_m_key_49 rfl rfl ?_
    refine mn_0 Z d_m_key_50 ?_
    refine z_if_le Z 60 d_m_key_53 (by decide) (fun hx => absurd hx (show ¬ (nI 1 : Int32) ≤ 0 from by decide)) (fun h53 => ?_)
    refine z_iconst Z (nI 0) d_m_key_56 zi_0 ?_
    refine z_goto Z 70 d_m_key_57 (by decide) ?_
    refine z_ri Z _ hr rfl d_m_key_70 (by decide) (by decide) rfl ?_
    exact Or.inl ⟨zB0 h3 h6, rfl⟩
set_option maxHeartbeats 4000000 in
set_option maxRecDepth 100000 in
theorem c_m_guard {l : Launch} {D : va_G} {cI cB cL : ClassId} {h : Nat → Nat} {σ : St} {x a r : Int32} : zMet l y_m_guard w_m_guard rm_m_guard D zCl (zTy cI cB cL) (wm h cI cB σ) [.ref (h 0), .int x, .int a, .int r] (qv (wm h cI cB) (fun u => (¬ tM σ x ∧ u = th σ 1) ∨ (tM σ x ∧ ¬ isA a ∧ u = th σ 2) ∨ (tM σ x ∧ isA a ∧ ¬ isR r ∧ u = th σ 3) ∨ (∃ c, c < 24 ∧ x = nI c ∧ tM σ x ∧ isA a ∧ isR r ∧ ((¬ σ 7 c ≤ 0 ∧ u = th σ 4) ∨ (σ 7 c ≤ 0 ∧ u = grd (th σ 0) c a r)))) noXs) 0 0 0 0 := by
  refine z_meth (by decide) rfl (Nat.le_of_ble_eq_true rfl) (fun p e s mm as bl me cd Z hr hnm ht => ?_)
  refine z_aload_n Z 0 d_m_guard_0 rfl rfl ?_
  refine z_aload_n Z 0 d_m_guard_1 rfl rfl ?_
  refine z_iload_n Z 1 d_m_guard_2 rfl rfl ?_
  refine z_Wi0 Z (c_m_isThing ) (ok_m_isThing _) rfl rfl ⟨by decide, by decide⟩ rfl rfl rfl rfl (Nat.le_of_ble_eq_true rfl) d_m_guard_3 ⟨by decide, by decide⟩ (fun E h => h.elim) (fun v3 h3 => ?_)
  refine z_if_ne Z 13 d_m_guard_6 (by decide) (fun h6 => ?_) (fun h6 => ?_)
  · have hx := zB1 h3 h6
    obtain ⟨c, hc, rfl, hk⟩ := id hx
    refine z_iload_n Z 2 d_m_guard_13 rfl rfl ?_
    refine z_if_lt Z 22 d_m_guard_14 (by decide) (fun h14 => ?_) (fun h14 => ?_)
    · refine z_iconst Z (nI 2) d_m_guard_22 zi_2 ?_
      refine z_goto Z 51 d_m_guard_23 (by decide) ?_
      refine mp_0 Z d_m_guard_51 ?_
      refine z_aload_n Z 0 d_m_guard_54 rfl rfl ?_
      refine mn_0 Z d_m_guard_55 ?_
      refine z_if_le Z 62 d_m_guard_58 (by decide) (fun hx => absurd hx (show ¬ (nI 2 : Int32) ≤ 0 from by decide)) (fun h58 => ?_)
      refine z_rv Z _ hr d_m_guard_61 (by decide) (by decide) rfl ?_
      exact Or.inr (Or.inl ⟨hx, fun ⟨i, hi, q⟩ => nI_pos (by omega) (q ▸ h14), rfl⟩)
    · refine z_iload_n Z 2 d_m_guard_17 rfl rfl ?_
      refine z_iconst Z (nI 3) d_m_guard_18 zi_3 ?_
      refine z_icmp_le Z 26 d_m_guard_19 (by decide) (fun h19 => ?_) (fun h19 => ?_)
      · have ha : isA a := by obtain ⟨i, hi, e⟩ := inLe h14 h19; exact ⟨i, by omega, e⟩
        refine z_iload_n Z 3 d_m_guard_26 rfl rfl ?_
        refine z_S0 Z (c_m_isRoot ) (ok_m_isRoot _) rfl rfl ⟨by decide, by decide⟩ rfl rfl (Nat.le_of_ble_eq_true rfl) d_m_guard_27 ⟨by decide, by decide⟩ (fun v27 h27 => ?_)
        refine z_if_ne Z 37 d_m_guard_30 (by decide) (fun h30 => ?_) (fun h30 => ?_)
        · refine z_aload_n Z 0 d_m_guard_37 rfl rfl ?_
          refine mg_7 Z d_m_guard_38 ?_
          refine z_iload_n Z 1 d_m_guard_41 rfl rfl ?_
          refine ml_7 Z (by omega) d_m_guard_42 ?_
          refine z_if_le Z 50 d_m_guard_43 (by decide) (fun h43 => ?_) (fun h43 => ?_)
          · refine z_iconst Z (nI 0) d_m_guard_50 zi_0 ?_
            refine mp_0 Z d_m_guard_51 ?_
            refine z_aload_n Z 0 d_m_guard_54 rfl rfl ?_
            refine mn_0 Z d_m_guard_55 ?_
            refine z_if_le Z 62 d_m_guard_58 (by decide) (fun h58 => ?_) (fun hx => absurd hx (fun q => q (show (nI 0 : Int32) ≤ 0 from by decide)))
            refine z_aload_n Z 0 d_m_guard_62 rfl rfl ?_
            refine mg_7 Z d_m_guard_63 ?_
            refine z_iload_n Z 1 d_m_guard_66 rfl rfl ?_
            refine z_iconst Z (nI 1) d_m_guard_67 zi_1 ?_
            refine ms_7 Z (by omega) d_m_guard_68 ?_
            refine z_aload_n Z 0 d_m_guard_69 rfl rfl ?_
            refine mg_8 Z d_m_guard_70 ?_
            refine z_iload_n Z 1 d_m_guard_73 rfl rfl ?_
            refine z_iload_n Z 2 d_m_guard_74 rfl rfl ?_
            refine ms_8 Z (by omega) d_m_guard_75 ?_
            refine z_aload_n Z 0 d_m_guard_76 rfl rfl ?_
            refine mg_9 Z d_m_guard_77 ?_
            refine z_iload_n Z 1 d_m_guard_80 rfl rfl ?_
            refine z_iload_n Z 3 d_m_guard_81 rfl rfl ?_
            refine ms_9 Z (by omega) d_m_guard_82 ?_
            refine z_rv Z _ hr d_m_guard_83 (by decide) (by decide) rfl ?_
            exact Or.inr (Or.inr (Or.inr ⟨c, hc, rfl, hx, ha, zB1 h27 h30, Or.inr ⟨h43, rfl⟩⟩))
          · refine z_iconst Z (nI 4) d_m_guard_46 zi_4 ?_
            refine z_goto Z 51 d_m_guard_47 (by decide) ?_
            refine mp_0 Z d_m_guard_51 ?_
            refine z_aload_n Z 0 d_m_guard_54 rfl rfl ?_
            refine mn_0 Z d_m_guard_55 ?_
            refine z_if_le Z 62 d_m_guard_58 (by decide) (fun hx => absurd hx (show ¬ (nI 4 : Int32) ≤ 0 from by decide)) (fun h58 => ?_)
            refine z_rv Z _ hr d_m_guard_61 (by decide) (by decide) rfl ?_
            exact Or.inr (Or.inr (Or.inr ⟨c, hc, rfl, hx, ha, zB1 h27 h30, Or.inl ⟨h43, rfl⟩⟩))
        · refine z_iconst Z (nI 3) d_m_guard_33 zi_3 ?_
          refine z_goto Z 51 d_m_guard_34 (by decide) ?_
          refine mp_0 Z d_m_guard_51 ?_
          refine z_aload_n Z 0 d_m_guard_54 rfl rfl ?_
          refine mn_0 Z d_m_guard_55 ?_
          refine z_if_le Z 62 d_m_guard_58 (by decide) (fun hx => absurd hx (show ¬ (nI 3 : Int32) ≤ 0 from by decide)) (fun h58 => ?_)
          refine z_rv Z _ hr d_m_guard_61 (by decide) (by decide) rfl ?_
          exact Or.inr (Or.inr (Or.inl ⟨hx, ha, zB0 h27 h30, rfl⟩))
      · refine z_iconst Z (nI 2) d_m_guard_22 zi_2 ?_
        refine z_goto Z 51 d_m_guard_23 (by decide) ?_
        refine mp_0 Z d_m_guard_51 ?_
        refine z_aload_n Z 0 d_m_guard_54 rfl rfl ?_
        refine mn_0 Z d_m_guard_55 ?_
        refine z_if_le Z 62 d_m_guard_58 (by decide) (fun hx => absurd hx (show ¬ (nI 2 : Int32) ≤ 0 from by decide)) (fun h58 => ?_)
        refine z_rv Z _ hr d_m_guard_61 (by decide) (by decide) rfl ?_
        exact Or.inr (Or.inl ⟨hx, fun ⟨i, hi, q⟩ => h19 (by rw [q]; exact nI_le (by omega) (by decide)), rfl⟩)
  · refine z_iconst Z (nI 1) d_m_guard_9 zi_1 ?_
    refine z_goto Z 51 d_m_guard_10 (by decide) ?_
    refine mp_0 Z d_m_guard_51 ?_
    refine z_aload_n Z 0 d_m_guard_54 rfl rfl ?_
    refine mn_0 Z d_m_guard_55 ?_
    refine z_if_le Z 62 d_m_guard_58 (by decide) (fun hx => absurd hx (show ¬ (nI 1 : Int32) ≤ 0 from by decide)) (fun h58 => ?_)
    refine z_rv Z _ hr d_m_guard_61 (by decide) (by decide) rfl ?_
    exact Or.inl ⟨zB0 h3 h6, rfl⟩
end
section
/-! the reference: its free cell, its set 'in', its closing -/
def dn : Nat → Int32
  | 0 => -1
  | n + 1 => nI n
theorem dn_neg {n : Nat} (hn : n ≤ 24) (h : dn n < 0) : n = 0 := by
  rcases n with _ | n
  · rfl
  · exact absurd h (nI_pos (by omega))
theorem dn_pos {n : Nat} (h : ¬ dn n < 0) : ∃ k, n = k + 1 := by
  rcases n with _ | n
  · exact absurd (show (-1 : Int32) < 0 by decide) h
  · exact ⟨n, rfl⟩
theorem dn_dec (k : Nat) : nI k + Int32.ofInt (-1) = dn k := by
  rcases k with _ | k
  · decide
  · rw [show Int32.ofInt (-1) = -1 from by decide]; exact pk_m1 k
theorem dn_sub (n : Nat) : nI n - nI 1 = dn n := by
  rcases n with _ | n
  · decide
  · exact pk_sub (by omega)
def lfM (σ : St) (c : Nat) : Prop := c < 24 ∧ σ 1 c < 0 ∧ ∀ d, d < c → ¬ σ 1 d < 0
def fullM (σ : St) : Prop := ∀ d, d < 24 → ¬ σ 1 d < 0
def fcI (σ : St) (n : Nat) (y : Int32) : Prop := (∃ c, n ≤ c ∧ c < 24 ∧ y = nI c ∧ σ 1 c < 0 ∧ ∀ d, n ≤ d → d < c → ¬ σ 1 d < 0) ∨ (y = -1 ∧ ∀ d, n ≤ d → d < 24 → ¬ σ 1 d < 0)
theorem fcI_end {σ : St} {y : Int32} (h : fcI σ 0 y) : (∃ c, lfM σ c ∧ y = nI c) ∨ (y = -1 ∧ fullM σ) := by
  rcases h with ⟨c, -, h1, h2, h3, h4⟩ | ⟨h1, h2⟩
  · exact Or.inl ⟨c, ⟨h1, h3, fun d hd => h4 d (Nat.zero_le _) hd⟩, h2⟩
  · exact Or.inr ⟨h1, fun d hd => h2 d (Nat.zero_le _) hd⟩
theorem fcI_no {σ : St} {k : Nat} {y : Int32} (h : fcI σ (k + 1) y) (hk : 0 ≤ σ 1 k) : fcI σ k y := by
  have hk' : ¬ σ 1 k < 0 := Int32.not_lt.mpr hk
  rcases h with ⟨c, h0, h1, h2, h3, h4⟩ | ⟨h1, h2⟩
  · refine Or.inl ⟨c, by omega, h1, h2, h3, fun d ha hb => ?_⟩
    by_cases e : d = k
    · rw [e]; exact hk'
    · exact h4 d (by omega) hb
  · refine Or.inr ⟨h1, fun d ha hb => ?_⟩
    by_cases e : d = k
    · rw [e]; exact hk'
    · exact h2 d (by omega) hb
theorem fcI_yes {σ : St} {k : Nat} (h24 : k < 24) (hk : ¬ 0 ≤ σ 1 k) : fcI σ k (nI k) := Or.inl ⟨k, Nat.le_refl _, h24, rfl, Int32.not_le.mp hk, fun d h1 h2 => by omega⟩
theorem us_yes {y : Int32} {i : Nat} {f : Nat → Int32} (hi : i < 24) (h : ∀ c, c < 24 → (bt y c = true ↔ (c < i ∧ ¬ f c < 0))) (hf : ¬ f i < 0) : ∀ c, c < 24 → (bt (y ||| ((1 : Int32) <<< (nI i &&& 31))) c = true ↔ (c < i + 1 ∧ ¬ f c < 0)) := fun c hc => by
  rw [zb_orc y hi hc, h c hc]
  constructor
  · rintro (⟨h1, h2⟩ | rfl)
    · exact ⟨by omega, h2⟩
    · exact ⟨by omega, hf⟩
  · rintro ⟨h1, h2⟩
    by_cases e : c = i
    · exact Or.inr e
    · exact Or.inl ⟨by omega, h2⟩
theorem us_no {y : Int32} {i : Nat} {f : Nat → Int32} (h : ∀ c, c < 24 → (bt y c = true ↔ (c < i ∧ ¬ f c < 0))) (hf : f i < 0) : ∀ c, c < 24 → (bt y c = true ↔ (c < i + 1 ∧ ¬ f c < 0)) := fun c hc => by
  rw [h c hc]
  constructor
  · rintro ⟨h1, h2⟩; exact ⟨by omega, h2⟩
  · rintro ⟨h1, h2⟩
    by_cases e : c = i
    · rw [e] at h2; exact absurd hf h2
    · exact ⟨by omega, h2⟩
def bl (g : Nat → Int32) : Prop := ∀ c, c < 24 → g c = nI 0 ∨ g c = nI 1
def gB (g : Nat → Int32) : Nat → Bool := fun c => decide (g c = nI 1)
def adG (g : Nat → Int32) (x v : Int32) (g' : Nat → Int32) : Prop := (v = nI 1 ∧ ∃ d, d < 24 ∧ x = nI d ∧ g d = nI 0 ∧ g' = upd g d (nI 1)) ∨ (v = nI 0 ∧ g' = g ∧ (x = -1 ∨ ∃ d, d < 24 ∧ x = nI d ∧ g d = nI 1))
theorem nc_neg {x : Int32} (h : nc x) (h0 : x < 0) : x = -1 := by
  rcases h with h | ⟨d, hd, e⟩
  · exact h
  · rw [e] at h0; exact absurd h0 (nI_pos (by omega))
theorem adG_bl {g g' : Nat → Int32} {x v : Int32} (hb : bl g) (h : adG g x v g') : bl g' := by
  rcases h with ⟨-, d, hd, -, -, e⟩ | ⟨-, e, -⟩
  · rw [e]; intro c hc
    by_cases q : c = d
    · rw [q, pk_us]; exact Or.inr rfl
    · rw [pk_un q]; exact hb c hc
  · rw [e]; exact hb
theorem adG_iff {g g' : Nat → Int32} {x v : Int32} (h : adG g x v g') {c : Nat} (hc : c < 24) : g' c = nI 1 ↔ (g c = nI 1 ∨ x = nI c) := by
  rcases h with ⟨-, d, hd, ex, e0, e⟩ | ⟨-, e, hx⟩
  · rw [e, ex]
    by_cases q : c = d
    · rw [q, pk_us]; simp
    · rw [pk_un q]
      constructor
      · intro z; exact Or.inl z
      · rintro (z | z)
        · exact z
        · exact absurd ((nI_eq (by omega) (by omega)).mp z).symm q
  · rw [e]
    constructor
    · intro z; exact Or.inl z
    · rintro (z | z)
      · exact z
      · rcases hx with hx | ⟨d, hd, ex, ed⟩
        · exact absurd (z.symm.trans hx) (nI_m1 (by omega))
        · rw [← (nI_eq (by omega) (by omega)).mp (ex.symm.trans z)]; exact ed
/-- between passes -/
def oI (σ : St) (A : Nat → Prop) (m : Int32) (g : Nat → Int32) : Prop := bl g ∧ (∀ d, d < 24 → A d → g d = nI 1) ∧ (∀ d, d < 24 → g d = nI 1 → rch σ A d) ∧ (m = nI 1 ∨ (m = nI 0 ∧ clo σ (fun d => g d = nI 1)))
theorem oI_0 {σ : St} {g : Nat → Int32} (hb : bl g) : oI σ (fun d => g d = nI 1) (nI 1) g := ⟨hb, fun _ _ h => h, fun d hd h => rch_base hd h, Or.inl rfl⟩
theorem oI_end {σ : St} {A : Nat → Prop} {m : Int32} {g : Nat → Int32} (h : oI σ A m g) (hm : m = 0) : bl g ∧ ∀ c, c < 24 → (g c = nI 1 ↔ rch σ A c) := by
  obtain ⟨h1, h2, h3, h4⟩ := h
  have h5 := h4.resolve_left (fun q => by rw [q] at hm; exact absurd hm (by decide))
  exact ⟨h1, rch_iff (S := fun d => g d = nI 1) h2 h5.2 h3⟩
theorem oI_1 {σ : St} {A : Nat → Prop} {m : Int32} {g : Nat → Int32} (h : oI σ A m g) (hm : ¬ m = 0) : nI 1 = m := (h.2.2.2.resolve_right (fun q => hm q.1)).symm
/-- within a pass that began with g0 -/
def kI (σ : St) (A : Nat → Prop) (g0 : Nat → Int32) (P : Prop) (m : Int32) (g : Nat → Int32) : Prop := bl g ∧ (∀ d, d < 24 → g0 d = nI 1 → g d = nI 1) ∧ (∀ d, d < 24 → g d = nI 1 → rch σ A d) ∧ ((m = nI 1 ∧ num (gB g0) 24 < num (gB g) 24) ∨ (m = nI 0 ∧ (∀ d, d < 24 → g d = g0 d) ∧ P))
theorem kI_0 {σ : St} {A : Nat → Prop} {m : Int32} {g : Nat → Int32} {Q : Nat → Prop} (h : oI σ A m g) : kI σ A g (∀ c', c' < 0 → Q c') (nI 0) g := ⟨h.1, fun _ _ q => q, h.2.2.1, Or.inr ⟨rfl, fun _ _ => rfl, fun c' hc' => absurd hc' (Nat.not_lt_zero _)⟩⟩
theorem kI_w {σ : St} {A : Nat → Prop} {g0 g : Nat → Int32} {P P' : Prop} {m : Int32} (h : kI σ A g0 P m g) (hP : (∀ d, d < 24 → g d = g0 d) → P → P') : kI σ A g0 P' m g := ⟨h.1, h.2.1, h.2.2.1, h.2.2.2.imp id (fun q => ⟨q.1, q.2.1, hP q.2.1 q.2.2⟩)⟩
theorem kI_oI {σ : St} {A : Nat → Prop} {g0 g : Nat → Int32} {m0 m : Int32} (h0 : oI σ A m0 g0) (h : kI σ A g0 (∀ c', c' < 24 → ∀ d, d < 24 → g0 c' = nI 1 → hld σ (fun k => g0 k = nI 1) c' d → g0 d = nI 1) m g) : oI σ A m g := by
  refine ⟨h.1, fun d hd q => h.2.1 d hd (h0.2.1 d hd q), h.2.2.1, h.2.2.2.imp (fun q => q.1) (fun q => ⟨q.1, fun c d hc hd h1 h2 => ?_⟩)⟩
  show g d = nI 1
  have e := q.2.1
  rw [e d hd]
  exact q.2.2 c hc d hd (by rw [← e c hc]; exact h1) (hld_mono (fun k hk hg => by show g0 k = nI 1; rw [← e k hk]; exact hg) h2)
theorem num_gB {g g0 : Nat → Int32} (h : ∀ d, d < 24 → g d = g0 d) : num (gB g) 24 = num (gB g0) 24 := num_congr (fun c hc => by unfold gB; rw [h c hc])
theorem kI_mu {σ : St} {A : Nat → Prop} {g0 g : Nat → Int32} {P : Prop} {m : Int32} (h : kI σ A g0 P m g) : 2 * (24 - num (gB g) 24) + (if m = nI 1 then 1 else 0) < 2 * (24 - num (gB g0) 24) + (if (nI 1 : Int32) = nI 1 then 1 else 0) := by
  have h1 := num_le (gB g) 24
  have h2 := num_le (gB g0) 24
  rw [if_pos rfl]
  rcases h.2.2.2 with q | q
  · rw [if_pos q.1]; omega
  · rw [q.1, if_neg (by decide), num_gB q.2.1]; omega
theorem kI_add1 {σ : St} {A : Nat → Prop} {g0 g g' : Nat → Int32} {P P' : Prop} {m x v : Int32} (h : kI σ A g0 P m g) (hr : ∀ d, d < 24 → x = nI d → rch σ A d) (ha : adG g x v g') (hv : ¬ v = 0) : kI σ A g0 P' (nI 1) g' := by
  have hi := @adG_iff g g' x v ha
  refine ⟨adG_bl h.1 ha, fun d hd q => (hi hd).mpr (Or.inl (h.2.1 d hd q)), fun d hd q => ?_, Or.inl ⟨rfl, ?_⟩⟩
  · rcases (hi hd).mp q with z | z
    · exact h.2.2.1 d hd z
    · exact hr d hd z
  · have h1 : num (gB g0) 24 ≤ num (gB g) 24 := num_mono (fun c hc q => decide_eq_true (h.2.1 c hc (of_decide_eq_true q)))
    obtain ⟨-, d, hd, ex, e0, e⟩ := ha.resolve_right (fun q => hv q.1)
    have h2 : num (gB g) 24 < num (gB g') 24 := num_lt (fun c hc q => decide_eq_true ((hi hc).mpr (Or.inl (of_decide_eq_true q)))) hd (by unfold gB; rw [e0]; decide) (decide_eq_true ((hi hd).mpr (Or.inr ex)))
    omega
theorem kI_add2 {σ : St} {A : Nat → Prop} {g0 g g' : Nat → Int32} {P P' : Prop} {m x v : Int32} (h : kI σ A g0 P m g) (ha : adG g x v g') (hv : v = 0) (hm : ¬ m = 0) : kI σ A g0 P' (nI 1) g' := by
  obtain ⟨-, e, -⟩ := ha.resolve_left (fun q => by rw [q.1] at hv; exact absurd hv (by decide))
  rw [e]
  exact ⟨h.1, h.2.1, h.2.2.1, Or.inl ⟨rfl, (h.2.2.2.resolve_right (fun q => hm q.1)).2⟩⟩
theorem kI_add3 {σ : St} {A : Nat → Prop} {g0 g g' : Nat → Int32} {P : Prop} {m x v : Int32} (h : kI σ A g0 P m g) (ha : adG g x v g') (hv : v = 0) (hm : m = 0) : kI σ A g0 (P ∧ ∀ d, d < 24 → x = nI d → g0 d = nI 1) (nI 0) g' := by
  have hx := ha
  obtain ⟨-, e, -⟩ := ha.resolve_left (fun q => by rw [q.1] at hv; exact absurd hv (by decide))
  subst e
  have q := h.2.2.2.resolve_left (fun q => by rw [q.1] at hm; exact absurd hm (by decide))
  exact ⟨h.1, h.2.1, h.2.2.1, Or.inr ⟨rfl, q.2.1, q.2.2, fun d hd ex => by rw [← q.2.1 d hd]; exact (adG_iff hx hd).mpr (Or.inr ex)⟩⟩
theorem kI_out {σ : St} {A : Nat → Prop} {g0 g : Nat → Int32} {P X : Prop} {m : Int32} {c : Nat} (h : kI σ A g0 P m g) (hc : c < 24) (hg : g c = 0) : kI σ A g0 (P ∧ (g0 c = nI 1 → X)) m g := kI_w h (fun e q => ⟨q, fun a => by
  rw [← e c hc, hg] at a; exact absurd a (by decide)⟩)
theorem rr_s {σ : St} {g0 : Nat → Int32} {c n : Nat} (h : g0 c = nI 1 → σ 1 c = 0 → ∀ f, f < n → ∀ d, d < 24 → σ 3 (c * 3 + f) = nI d → g0 d = nI 1) (hn : ∀ d, d < 24 → σ 3 (c * 3 + n) = nI d → g0 d = nI 1) : g0 c = nI 1 → σ 1 c = 0 → ∀ f, f < n + 1 → ∀ d, d < 24 → σ 3 (c * 3 + f) = nI d → g0 d = nI 1 := fun a b f hf d hd e => by
  by_cases q : f = n
  · subst q; exact hn d hd e
  · exact h a b f (by omega) d hd e
theorem tt_s {σ : St} {g0 : Nat → Int32} {c n : Nat} (h : g0 c = nI 1 → σ 1 c = nI 2 → ∀ i, i < n → ∀ k d, k < 24 → d < 24 → σ 4 (c * 4 + i) = nI k → g0 k = nI 1 → σ 5 (c * 4 + i) = nI d → g0 d = nI 1) (hn : ∀ k d, k < 24 → d < 24 → σ 4 (c * 4 + n) = nI k → g0 k = nI 1 → σ 5 (c * 4 + n) = nI d → g0 d = nI 1) : g0 c = nI 1 → σ 1 c = nI 2 → ∀ i, i < n + 1 → ∀ k d, k < 24 → d < 24 → σ 4 (c * 4 + i) = nI k → g0 k = nI 1 → σ 5 (c * 4 + i) = nI d → g0 d = nI 1 := fun a b i hi k d hk hd e4 gk e5 => by
  by_cases q : i = n
  · subst q; exact hn k d hk hd e4 gk e5
  · exact h a b i (by omega) k d hk hd e4 gk e5
theorem tt_no {g g0 : Nat → Int32} {k k2 : Nat} (e : ∀ d, d < 24 → g d = g0 d) (hk : k < 24) (hg : g k = 0) (q : nI k = nI k2) (hk2 : k2 < 24) (h : g0 k2 = nI 1) : False := by
  rw [← (nI_eq (by omega) (by omega)).mp q, ← e k hk, hg] at h
  exact absurd h (by decide)
theorem pc_x {σ : St} {g0 : Nat → Int32} {c : Nat} (h : ∀ c', c' < c → ∀ d, d < 24 → g0 c' = nI 1 → hld σ (fun k => g0 k = nI 1) c' d → g0 d = nI 1) (hn : ∀ d, d < 24 → g0 c = nI 1 → hld σ (fun k => g0 k = nI 1) c d → g0 d = nI 1) : ∀ c', c' < c + 1 → ∀ d, d < 24 → g0 c' = nI 1 → hld σ (fun k => g0 k = nI 1) c' d → g0 d = nI 1 := fun c' hc' d hd a b => by
  by_cases q : c' = c
  · subst q; exact hn d hd a b
  · exact h c' (by omega) d hd a b
theorem pc_s {σ : St} {g0 : Nat → Int32} {c : Nat} (h : ∀ c', c' < c → ∀ d, d < 24 → g0 c' = nI 1 → hld σ (fun k => g0 k = nI 1) c' d → g0 d = nI 1) (hr : g0 c = nI 1 → σ 1 c = 0 → ∀ f, f < 3 → ∀ d, d < 24 → σ 3 (c * 3 + f) = nI d → g0 d = nI 1) (ht : g0 c = nI 1 → σ 1 c = nI 2 → ∀ i, i < cnt σ c → ∀ k d, k < 24 → d < 24 → σ 4 (c * 4 + i) = nI k → g0 k = nI 1 → σ 5 (c * 4 + i) = nI d → g0 d = nI 1) : ∀ c', c' < c + 1 → ∀ d, d < 24 → g0 c' = nI 1 → hld σ (fun k => g0 k = nI 1) c' d → g0 d = nI 1 := pc_x h (fun d hd a b => by
  rcases b with ⟨b1, f, hf, e⟩ | ⟨b1, i, hi, ⟨k, hk, ek, gk⟩, e⟩
  · exact hr a b1 f hf d hd e
  · exact ht a b1 i hi k d hk hd ek gk e)
theorem pc_out {σ : St} {g0 : Nat → Int32} {c : Nat} (h : ∀ c', c' < c → ∀ d, d < 24 → g0 c' = nI 1 → hld σ (fun k => g0 k = nI 1) c' d → g0 d = nI 1) (hn : g0 c = nI 1 → False) : ∀ c', c' < c + 1 → ∀ d, d < 24 → g0 c' = nI 1 → hld σ (fun k => g0 k = nI 1) c' d → g0 d = nI 1 := pc_x h (fun d hd a b => (hn a).elim)
theorem pc_n {σ : St} {g0 : Nat → Int32} {c : Nat} (h : ∀ c', c' < c → ∀ d, d < 24 → g0 c' = nI 1 → hld σ (fun k => g0 k = nI 1) c' d → g0 d = nI 1) (hr : g0 c = nI 1 → σ 1 c = 0 → ∀ f, f < 3 → ∀ d, d < 24 → σ 3 (c * 3 + f) = nI d → g0 d = nI 1) (hk : ¬ σ 1 c = nI 2) : ∀ c', c' < c + 1 → ∀ d, d < 24 → g0 c' = nI 1 → hld σ (fun k => g0 k = nI 1) c' d → g0 d = nI 1 := pc_x h (fun d hd a b => by
  rcases b with ⟨b1, f, hf, e⟩ | ⟨b1, -⟩
  · exact hr a b1 f hf d hd e
  · exact absurd b1 hk)
set_option maxHeartbeats 4000000 in
set_option maxRecDepth 100000 in
theorem c_m_freeCell {l : Launch} {D : va_G} {cI cB cL : ClassId} {h : Nat → Nat} {σ : St}  : zMet l y_m_freeCell w_m_freeCell rm_m_freeCell D zCl (zTy cI cB cL) (wm h cI cB σ) [.ref (h 0)] (qi0 (wm h cI cB σ) (fun v => (∃ c, lfM σ c ∧ v = nI c) ∨ (v = -1 ∧ fullM σ)) noX) 0 0 0 0 := by
  refine z_meth (by decide) rfl (Nat.le_of_ble_eq_true rfl) (fun p e s mm as bl me cd Z hr hnm ht => ?_)
  refine z_iconst Z (-1) d_m_freeCell_0 zi_m1 ?_
  refine z_istore_n Z 1 d_m_freeCell_1 rfl (by decide) rfl ?_
  refine z_bipush Z (nI 23) d_m_freeCell_2 zb_23 ?_
  refine z_istore_n Z 2 d_m_freeCell_4 rfl (by decide) rfl ?_
  refine z_lv (lv' := [(0, .ref (h 0)), (1, .int (-1)), (2, .int (dn 24))]) rfl ?_
  refine z_loop (fun q : Nat × Int32 => q.1 ≤ 24 ∧ fcI σ q.1 q.2) (fun q : Nat × Int32 => q.1) (fun q : Nat × Int32 => wm h cI cB σ) (fun q : Nat × Int32 => [(0, .ref (h 0)), (1, .int q.2), (2, .int (dn q.1))]) (fun q hi ih => ?_) (24, -1) ⟨by omega, Or.inr ⟨rfl, fun d h1 h2 => by omega⟩⟩
  obtain ⟨n, y⟩ := q
  dsimp only at hi ih ⊢
  refine z_iload_n Z 2 d_m_freeCell_5 rfl rfl ?_
  refine z_if_lt Z 30 d_m_freeCell_6 (by decide) (fun h6 => ?_) (fun h6 => ?_)
  · obtain rfl := dn_neg hi.1 h6
    refine z_iload_n Z 1 d_m_freeCell_30 rfl rfl ?_
    refine z_ri0 Z hr rfl d_m_freeCell_31 (by decide) (by decide) ?_
    exact fcI_end hi.2
  · obtain ⟨k, rfl⟩ := dn_pos h6
    refine z_aload_n Z 0 d_m_freeCell_9 rfl rfl ?_
    refine mg_1 Z d_m_freeCell_10 ?_
    refine z_iload_n Z 2 d_m_freeCell_13 rfl rfl ?_
    refine z_eqi (y := nI k) rfl ?_
    refine ml_1 Z (by omega) d_m_freeCell_14 ?_
    refine z_if_ge Z 22 d_m_freeCell_15 (by decide) (fun h15 => ?_) (fun h15 => ?_)
    · refine z_iload_n Z 1 d_m_freeCell_22 rfl rfl ?_
      refine z_istore_n Z 1 d_m_freeCell_23 rfl (by decide) rfl ?_
      refine z_iinc Z 2 (dn k) d_m_freeCell_24 rfl (dn_dec k) (by decide) rfl ?_
      refine z_goto Z 5 d_m_freeCell_27 (by decide) ?_
      exact z_lv rfl (ih (k, y) ⟨by omega, fcI_no hi.2 h15⟩ (by dsimp only; omega))
    · refine z_iload_n Z 2 d_m_freeCell_18 rfl rfl ?_
      refine z_goto Z 23 d_m_freeCell_19 (by decide) ?_
      refine z_istore_n Z 1 d_m_freeCell_23 rfl (by decide) rfl ?_
      refine z_iinc Z 2 (dn k) d_m_freeCell_24 rfl (dn_dec k) (by decide) rfl ?_
      refine z_goto Z 5 d_m_freeCell_27 (by decide) ?_
      exact z_lv rfl (ih (k, nI k) ⟨by omega, fcI_yes (by omega) h15⟩ (by dsimp only; omega))
set_option maxHeartbeats 4000000 in
set_option maxRecDepth 100000 in
theorem c_m_used {l : Launch} {D : va_G} {cI cB cL : ClassId} {h : Nat → Nat} {σ : St}  : zMet l y_m_used w_m_used rm_m_used D zCl (zTy cI cB cL) (wm h cI cB σ) [.ref (h 0)] (qi (wm h cI cB) (fun v u => (lo24 v ∧ ∀ c, c < 24 → (bt v c = true ↔ ¬ σ 1 c < 0)) ∧ u = th σ 0) noXs) 0 0 0 0 := by
  refine z_meth (by decide) rfl (Nat.le_of_ble_eq_true rfl) (fun p e s mm as bl me cd Z hr hnm ht => ?_)
  refine z_aload_n Z 0 d_m_used_0 rfl rfl ?_
  refine z_iconst Z (nI 0) d_m_used_1 zi_0 ?_
  refine mp_0 Z d_m_used_2 ?_
  refine z_iconst Z (nI 0) d_m_used_5 zi_0 ?_
  refine z_istore_n Z 1 d_m_used_6 rfl (by decide) rfl ?_
  refine z_iconst Z (nI 0) d_m_used_7 zi_0 ?_
  refine z_istore_n Z 2 d_m_used_8 rfl (by decide) rfl ?_
  refine z_lv (lv' := [(0, .ref (h 0)), (1, .int 0), (2, .int (nI 0))]) rfl ?_
  refine z_ws (ws' := wm h cI cB (th σ 0)) rfl ?_
  refine z_loop (fun q : Nat × Int32 => q.1 ≤ 24 ∧ lo24 q.2 ∧ ∀ c, c < 24 → (bt q.2 c = true ↔ (c < q.1 ∧ ¬ σ 1 c < 0))) (fun q : Nat × Int32 => 24 - q.1) (fun q : Nat × Int32 => wm h cI cB (th σ 0)) (fun q : Nat × Int32 => [(0, .ref (h 0)), (1, .int q.2), (2, .int (nI q.1))]) (fun q hi ih => ?_) (0, 0) ⟨by omega, lo24_0, fun c hc => ⟨fun q => (by rw [b_0] at q; cases q), fun q => absurd q.1 (Nat.not_lt_zero _)⟩⟩
  obtain ⟨i, y⟩ := q
  dsimp only at hi ih ⊢
  refine z_iload_n Z 2 d_m_used_9 rfl rfl ?_
  refine z_bipush Z (nI 24) d_m_used_10 zb_24 ?_
  refine z_icmpN_ge Z 40 d_m_used_12 (by decide) (by omega) (by omega) (fun h12 => ?_) (fun h12 => ?_)
  · refine z_iload_n Z 1 d_m_used_40 rfl rfl ?_
    refine z_ri Z _ hr rfl d_m_used_41 (by decide) (by decide) rfl ?_
    obtain rfl : i = 24 := by omega
    exact ⟨⟨hi.2.1, fun c hc => (hi.2.2 c hc).trans ⟨fun q => q.2, fun q => ⟨hc, q⟩⟩⟩, rfl⟩
  · refine z_aload_n Z 0 d_m_used_15 rfl rfl ?_
    refine mg_1 Z d_m_used_16 ?_
    refine z_iload_n Z 2 d_m_used_19 rfl rfl ?_
    refine ml_1 Z (by omega) d_m_used_20 ?_
    refine z_if_lt Z 32 d_m_used_21 (by decide) (fun h21 => ?_) (fun h21 => ?_)
    · refine z_iload_n Z 1 d_m_used_32 rfl rfl ?_
      refine z_istore_n Z 1 d_m_used_33 rfl (by decide) rfl ?_
      refine z_iincN Z 2 d_m_used_34 rfl (by decide) rfl ?_
      refine z_goto Z 9 d_m_used_37 (by decide) ?_
      exact z_lv rfl (ih (i + 1, y) ⟨by omega, hi.2.1, us_no hi.2.2 h21⟩ (by dsimp only; omega))
    · refine z_iload_n Z 1 d_m_used_24 rfl rfl ?_
      refine z_iconst Z (nI 1) d_m_used_25 zi_1 ?_
      refine z_iload_n Z 2 d_m_used_26 rfl rfl ?_
      refine z_ishl Z d_m_used_27 ?_
      refine z_ior Z d_m_used_28 ?_
      refine z_goto Z 33 d_m_used_29 (by decide) ?_
      refine z_istore_n Z 1 d_m_used_33 rfl (by decide) rfl ?_
      refine z_iincN Z 2 d_m_used_34 rfl (by decide) rfl ?_
      refine z_goto Z 9 d_m_used_37 (by decide) ?_
      exact z_lv rfl (ih (i + 1, _) ⟨by omega, lo24_or hi.2.1 (lo24_one (by omega)), us_yes (by omega) hi.2.2 h21⟩ (by dsimp only; omega))
set_option maxHeartbeats 4000000 in
set_option maxRecDepth 100000 in
theorem c_m_add {l : Launch} {D : va_G} {cI cB cL : ClassId} {h : Nat → Nat} {σ : St} {g : Nat → Int32} (hb : bl g) {x : Int32} (hx : nc x) : zMet l y_m_add w_m_add rm_m_add D zCl (zTy cI cB cL) (wm h cI cB (va_up σ 12 g)) [.ref (h 0), .int x] (qi (fun g' => wm h cI cB (va_up σ 12 g')) (fun v g' => adG g x v g') noXs) 0 0 0 0 := by
  refine z_meth (by decide) rfl (Nat.le_of_ble_eq_true rfl) (fun p e s mm as bl me cd Z hr hnm ht => ?_)
  refine z_iload_n Z 1 d_m_add_0 rfl rfl ?_
  refine z_if_lt Z 13 d_m_add_1 (by decide) (fun h1 => ?_) (fun h1 => ?_)
  · refine z_iconst Z (nI 0) d_m_add_13 zi_0 ?_
    refine z_ri Z g hr rfl d_m_add_14 (by decide) (by decide) rfl ?_
    exact Or.inr ⟨rfl, rfl, Or.inl (nc_neg hx h1)⟩
  · obtain ⟨d, hd, rfl⟩ := nc_cl hx (fun e => h1 (by rw [e]; decide))
    refine z_aload_n Z 0 d_m_add_4 rfl rfl ?_
    refine mg_12 Z d_m_add_5 ?_
    refine z_iload_n Z 1 d_m_add_8 rfl rfl ?_
    refine ml_12 Z (by omega) d_m_add_9 ?_
    refine z_if_eq Z 15 d_m_add_10 (by decide) (fun h10 => ?_) (fun h10 => ?_)
    · refine z_aload_n Z 0 d_m_add_15 rfl rfl ?_
      refine mg_12 Z d_m_add_16 ?_
      refine z_iload_n Z 1 d_m_add_19 rfl rfl ?_
      refine z_iconst Z (nI 1) d_m_add_20 zi_1 ?_
      refine ms_12 Z (by omega) d_m_add_21 rfl ?_
      refine z_iconst Z (nI 1) d_m_add_22 zi_1 ?_
      refine z_ri Z (upd g d (nI 1)) hr rfl d_m_add_23 (by decide) (by decide) rfl ?_
      exact Or.inl ⟨rfl, d, hd, rfl, h10, rfl⟩
    · refine z_iconst Z (nI 0) d_m_add_13 zi_0 ?_
      refine z_ri Z g hr rfl d_m_add_14 (by decide) (by decide) rfl ?_
      exact Or.inr ⟨rfl, rfl, Or.inr ⟨d, hd, rfl, (hb d hd).resolve_left h10⟩⟩
set_option maxHeartbeats 4000000 in
set_option maxRecDepth 100000 in
theorem c_m_close {l : Launch} {D : va_G} {cI cB cL : ClassId} {h : Nat → Nat} {σ : St} (hw : wf σ) {g : Nat → Int32} (hb : bl g) : zMet l y_m_close w_m_close rm_m_close D zCl (zTy cI cB cL) (wm h cI cB (va_up σ 12 g)) [.ref (h 0)] (qv (fun g' => wm h cI cB (va_up σ 12 g')) (fun g' => bl g' ∧ ∀ c, c < 24 → (g' c = nI 1 ↔ rch σ (fun d => g d = nI 1) c)) noXs) 0 0 0 0 := by
  refine z_meth (by decide) rfl (Nat.le_of_ble_eq_true rfl) (fun p e s mm as bl me cd Z hr hnm ht => ?_)
  refine z_iconst Z (nI 1) d_m_close_0 zi_1 ?_
  refine z_istore_n Z 1 d_m_close_1 rfl (by decide) rfl ?_
  refine z_lv (lv' := [(0, .ref (h 0)), (1, .int (nI 1))]) rfl ?_
  refine z_loop (fun q : Int32 × (Nat → Int32) => oI σ (fun d => g d = nI 1) q.1 q.2) (fun q : Int32 × (Nat → Int32) => 2 * (24 - num (gB q.2) 24) + (if q.1 = nI 1 then 1 else 0)) (fun q : Int32 × (Nat → Int32) => wm h cI cB (va_up σ 12 q.2)) (fun q : Int32 × (Nat → Int32) => [(0, .ref (h 0)), (1, .int q.1)]) (fun q hi0 ih0 => ?_) (nI 1, g) (oI_0 hb)
  obtain ⟨m0, g0⟩ := q
  dsimp only at hi0 ih0 ⊢
  refine z_iload_n Z 1 d_m_close_2 rfl rfl ?_
  refine z_if_eq Z 165 d_m_close_3 (by decide) (fun h3 => ?_) (fun h3 => ?_)
  · refine z_rv Z g0 hr d_m_close_165 (by decide) (by decide) rfl ?_
    exact oI_end hi0 h3
  · obtain rfl := oI_1 hi0 h3
    refine z_iconst Z (nI 0) d_m_close_6 zi_0 ?_
    refine z_istore_n Z 1 d_m_close_7 rfl (by decide) rfl ?_
    refine z_iconst Z (nI 0) d_m_close_8 zi_0 ?_
    refine z_istore_n Z 2 d_m_close_9 rfl (by decide) rfl ?_
    refine z_lv (lv' := [(0, .ref (h 0)), (1, .int (nI 0)), (2, .int (nI 0))]) rfl ?_
    refine z_loop (fun q : Nat × Int32 × (Nat → Int32) => q.1 ≤ 24 ∧ kI σ (fun d => g d = nI 1) g0 ((∀ c', c' < q.1 → ∀ d, d < 24 → g0 c' = nI 1 → hld σ (fun k => g0 k = nI 1) c' d → g0 d = nI 1)) q.2.1 q.2.2) (fun q : Nat × Int32 × (Nat → Int32) => 24 - q.1) (fun q : Nat × Int32 × (Nat → Int32) => wm h cI cB (va_up σ 12 q.2.2)) (fun q : Nat × Int32 × (Nat → Int32) => [(0, .ref (h 0)), (1, .int q.2.1), (2, .int (nI q.1))]) (fun q hi1 ih1 => ?_) (0, nI 0, g0) ⟨by omega, kI_0 hi0⟩
    obtain ⟨c, m1, g1⟩ := q
    dsimp only at hi1 ih1 ⊢
    refine z_iload_n Z 2 d_m_close_10 rfl rfl ?_
    refine z_bipush Z (nI 24) d_m_close_11 zb_24 ?_
    refine z_icmpN_ge Z 162 d_m_close_13 (by decide) (by omega) (by omega) (fun h13 => ?_) (fun h13 => ?_)
    · obtain rfl : c = 24 := by omega
      refine z_goto Z 2 d_m_close_162 (by decide) ?_
      exact z_lv rfl (ih0 (m1, g1) (kI_oI hi0 hi1.2) (kI_mu hi1.2))
    · have hc : c < 24 := h13
      have e6 : σ 6 c = nI (cnt σ c) := (wf_cnt hw hc).2
      have n6 : cnt σ c ≤ 4 := (wf_cnt hw hc).1
      refine z_cut (fun q : Int32 × (Nat → Int32) => kI σ (fun d => g d = nI 1) g0 ((∀ c', c' < c → ∀ d, d < 24 → g0 c' = nI 1 → hld σ (fun k => g0 k = nI 1) c' d → g0 d = nI 1) ∧ (g0 c = nI 1 → σ 1 c = 0 → ∀ f, f < 3 → ∀ d, d < 24 → σ 3 (c * 3 + f) = nI d → g0 d = nI 1)) q.1 q.2) 74 (fun q => wm h cI cB (va_up σ 12 q.2)) (fun q => [(0, .ref (h 0)), (1, .int q.1), (2, .int (nI c))]) (fun _ => []) (fun q hi2 => ?_) (fun J => ?_)
      · obtain ⟨m2, g2⟩ := q
        dsimp only at hi2 ⊢
        refine z_iconst Z (nI 0) d_m_close_74 zi_0 ?_
        refine z_istore_n Z 3 d_m_close_75 rfl (by decide) rfl ?_
        refine z_lv (lv' := [(0, .ref (h 0)), (1, .int m2), (2, .int (nI c)), (3, .int (nI 0))]) rfl ?_
        refine z_loop (fun q : Nat × Int32 × (Nat → Int32) => q.1 ≤ cnt σ c ∧ kI σ (fun d => g d = nI 1) g0 ((∀ c', c' < c → ∀ d, d < 24 → g0 c' = nI 1 → hld σ (fun k => g0 k = nI 1) c' d → g0 d = nI 1) ∧ (g0 c = nI 1 → σ 1 c = 0 → ∀ f, f < 3 → ∀ d, d < 24 → σ 3 (c * 3 + f) = nI d → g0 d = nI 1) ∧ (g0 c = nI 1 → σ 1 c = nI 2 → ∀ i, i < q.1 → ∀ k d, k < 24 → d < 24 → σ 4 (c * 4 + i) = nI k → g0 k = nI 1 → σ 5 (c * 4 + i) = nI d → g0 d = nI 1)) q.2.1 q.2.2) (fun q : Nat × Int32 × (Nat → Int32) => cnt σ c - q.1) (fun q : Nat × Int32 × (Nat → Int32) => wm h cI cB (va_up σ 12 q.2.2)) (fun q : Nat × Int32 × (Nat → Int32) => [(0, .ref (h 0)), (1, .int q.2.1), (2, .int (nI c)), (3, .int (nI q.1))]) (fun q hi ih => ?_) (0, m2, g2) ⟨by omega, kI_w hi2 (fun _ q => ⟨q.1, q.2, fun _ _ i hi => absurd hi (Nat.not_lt_zero _)⟩)⟩
        obtain ⟨i, m4, g4⟩ := q
        dsimp only at hi ih ⊢
        refine z_iload_n Z 3 d_m_close_76 rfl rfl ?_
        refine z_aload_n Z 0 d_m_close_77 rfl rfl ?_
        refine mg_6 Z d_m_close_78 ?_
        refine z_iload_n Z 2 d_m_close_81 rfl rfl ?_
        refine ml_6 Z (by omega) d_m_close_82 ?_
        refine z_eqi (y := nI (cnt σ c)) e6 ?_
        refine z_icmpN_ge Z 156 d_m_close_83 (by decide) (by omega) (by omega) (fun h83 => ?_) (fun h83 => ?_)
        · obtain rfl : i = cnt σ c := by omega
          refine z_iincN Z 2 d_m_close_156 rfl (by decide) rfl ?_
          refine z_goto Z 10 d_m_close_159 (by decide) ?_
          exact z_lv rfl (ih1 (c + 1, m4, g4) ⟨by omega, kI_w hi.2 (fun _ q => pc_s q.1 q.2.1 q.2.2)⟩ (by dsimp only; omega))
        · refine z_aload_n Z 0 d_m_close_86 rfl rfl ?_
          refine mg_12 Z d_m_close_87 ?_
          refine z_iload_n Z 2 d_m_close_90 rfl rfl ?_
          refine ml_12 Z (by omega) d_m_close_91 ?_
          refine z_if_eq Z 156 d_m_close_92 (by decide) (fun h92 => ?_) (fun h92 => ?_)
          · refine z_iincN Z 2 d_m_close_156 rfl (by decide) rfl ?_
            refine z_goto Z 10 d_m_close_159 (by decide) ?_
            exact z_lv rfl (ih1 (c + 1, m4, g4) ⟨by omega, kI_w (kI_out (X := False) hi.2 hc h92) (fun _ q => pc_out q.1.1 q.2)⟩ (by dsimp only; omega))
          · refine z_aload_n Z 0 d_m_close_95 rfl rfl ?_
            refine mg_1 Z d_m_close_96 ?_
            refine z_iload_n Z 2 d_m_close_99 rfl rfl ?_
            refine ml_1 Z (by omega) d_m_close_100 ?_
            refine z_iconst Z (nI 2) d_m_close_101 zi_2 ?_
            refine z_icmp_ne Z 156 d_m_close_102 (by decide) (fun h102 => ?_) (fun h102 => ?_)
            · refine z_iincN Z 2 d_m_close_156 rfl (by decide) rfl ?_
              refine z_goto Z 10 d_m_close_159 (by decide) ?_
              exact z_lv rfl (ih1 (c + 1, m4, g4) ⟨by omega, kI_w hi.2 (fun _ q => pc_n q.1 q.2.1 h102)⟩ (by dsimp only; omega))
            · refine z_aload_n Z 0 d_m_close_105 rfl rfl ?_
              refine mg_12 Z d_m_close_106 ?_
              refine z_aload_n Z 0 d_m_close_109 rfl rfl ?_
              refine mg_4 Z d_m_close_110 ?_
              refine z_iconst Z (nI 4) d_m_close_113 zi_4 ?_
              refine z_iload_n Z 2 d_m_close_114 rfl rfl ?_
              refine z_imulN Z d_m_close_115 ?_
              refine z_iload_n Z 3 d_m_close_116 rfl rfl ?_
              refine z_iaddN Z d_m_close_117 ?_
              refine z_eqi (y := nI (c * 4 + i)) (by rw [Nat.mul_comm]) ?_
              refine ml_4 Z (by omega) d_m_close_118 ?_
              obtain ⟨k, hk, ek⟩ := hw.2.2.1 (c * 4 + i) (by omega)
              refine z_eqi (y := nI k) ek ?_
              refine ml_12 Z (by omega) d_m_close_119 ?_
              refine z_if_eq Z 150 d_m_close_120 (by decide) (fun h120 => ?_) (fun h120 => ?_)
              · refine z_iincN Z 3 d_m_close_150 rfl (by decide) rfl ?_
                refine z_goto Z 76 d_m_close_153 (by decide) ?_
                exact z_lv rfl (ih (i + 1, m4, g4) ⟨by omega, kI_w hi.2 (fun e q => ⟨q.1, q.2.1, tt_s q.2.2 (fun k2 d hk2 hd e4 g1 _ => (tt_no e hk h120 (ek.symm.trans e4) hk2 g1).elim)⟩)⟩ (by dsimp only; omega))
              · refine z_aload_n Z 0 d_m_close_123 rfl rfl ?_
                refine z_aload_n Z 0 d_m_close_124 rfl rfl ?_
                refine mg_5 Z d_m_close_125 ?_
                refine z_iconst Z (nI 4) d_m_close_128 zi_4 ?_
                refine z_iload_n Z 2 d_m_close_129 rfl rfl ?_
                refine z_imulN Z d_m_close_130 ?_
                refine z_iload_n Z 3 d_m_close_131 rfl rfl ?_
                refine z_iaddN Z d_m_close_132 ?_
                refine z_eqi (y := nI (c * 4 + i)) (by rw [Nat.mul_comm]) ?_
                refine ml_5 Z (by omega) d_m_close_133 ?_
                refine z_Wi Z (c_m_add (σ := σ) (g := g4) hi.2.1 (cl24_nc (hw.2.2.2.1 (c * 4 + i) (by omega)))) (ok_m_add _) rfl rfl ⟨by decide, by decide⟩ rfl rfl rfl rfl (Nat.le_of_ble_eq_true rfl) d_m_close_134 ⟨by decide, by decide⟩ (fun E u h => h.elim) (fun v134 u134 h134 => ?_)
                refine z_if_ne Z 144 d_m_close_137 (by decide) (fun h137 => ?_) (fun h137 => ?_)
                · refine z_iconst Z (nI 1) d_m_close_144 zi_1 ?_
                  refine z_goto Z 149 d_m_close_145 (by decide) ?_
                  refine z_istore_n Z 1 d_m_close_149 rfl (by decide) rfl ?_
                  refine z_iincN Z 3 d_m_close_150 rfl (by decide) rfl ?_
                  refine z_goto Z 76 d_m_close_153 (by decide) ?_
                  exact z_lv rfl (ih (i + 1, nI 1, u134) ⟨by omega, kI_add1 hi.2 (fun d hd e => rch_clo σ _ c d hc hd (hi.2.2.2.1 c hc ((hi.2.1 c hc).resolve_left h92)) (Or.inr ⟨h102, i, by omega, ⟨k, hk, ek, hi.2.2.2.1 k hk ((hi.2.1 k hk).resolve_left h120)⟩, e⟩)) h134 h137⟩ (by dsimp only; omega))
                · refine z_iload_n Z 1 d_m_close_140 rfl rfl ?_
                  refine z_if_eq Z 148 d_m_close_141 (by decide) (fun h141 => ?_) (fun h141 => ?_)
                  · refine z_iconst Z (nI 0) d_m_close_148 zi_0 ?_
                    refine z_istore_n Z 1 d_m_close_149 rfl (by decide) rfl ?_
                    refine z_iincN Z 3 d_m_close_150 rfl (by decide) rfl ?_
                    refine z_goto Z 76 d_m_close_153 (by decide) ?_
                    exact z_lv rfl (ih (i + 1, nI 0, u134) ⟨by omega, kI_w (kI_add3 hi.2 h134 h137 h141) (fun _ q => ⟨q.1.1, q.1.2.1, tt_s q.1.2.2 (fun k2 d hk2 hd e4 g1 e5 => q.2 d hd e5)⟩)⟩ (by dsimp only; omega))
                  · refine z_iconst Z (nI 1) d_m_close_144 zi_1 ?_
                    refine z_goto Z 149 d_m_close_145 (by decide) ?_
                    refine z_istore_n Z 1 d_m_close_149 rfl (by decide) rfl ?_
                    refine z_iincN Z 3 d_m_close_150 rfl (by decide) rfl ?_
                    refine z_goto Z 76 d_m_close_153 (by decide) ?_
                    exact z_lv rfl (ih (i + 1, nI 1, u134) ⟨by omega, kI_add2 hi.2 h134 h137 h141⟩ (by dsimp only; omega))
      · refine z_aload_n Z 0 d_m_close_16 rfl rfl ?_
        refine mg_12 Z d_m_close_17 ?_
        refine z_iload_n Z 2 d_m_close_20 rfl rfl ?_
        refine ml_12 Z (by omega) d_m_close_21 ?_
        refine z_if_eq Z 74 d_m_close_22 (by decide) (fun h22 => ?_) (fun h22 => ?_)
        · exact z_lv rfl (J (m1, g1) (kI_out hi1.2 hc h22))
        · refine z_aload_n Z 0 d_m_close_25 rfl rfl ?_
          refine mg_1 Z d_m_close_26 ?_
          refine z_iload_n Z 2 d_m_close_29 rfl rfl ?_
          refine ml_1 Z (by omega) d_m_close_30 ?_
          refine z_if_ne Z 74 d_m_close_31 (by decide) (fun h31 => ?_) (fun h31 => ?_)
          · exact z_lv rfl (J (m1, g1) (kI_w hi1.2 (fun _ q => ⟨q, fun _ b => absurd b h31⟩)))
          · refine z_iconst Z (nI 0) d_m_close_34 zi_0 ?_
            refine z_istore_n Z 3 d_m_close_35 rfl (by decide) rfl ?_
            refine z_lv (lv' := [(0, .ref (h 0)), (1, .int m1), (2, .int (nI c)), (3, .int (nI 0))]) rfl ?_
            refine z_loop (fun q : Nat × Int32 × (Nat → Int32) => q.1 ≤ 3 ∧ kI σ (fun d => g d = nI 1) g0 ((∀ c', c' < c → ∀ d, d < 24 → g0 c' = nI 1 → hld σ (fun k => g0 k = nI 1) c' d → g0 d = nI 1) ∧ (g0 c = nI 1 → σ 1 c = 0 → ∀ f, f < q.1 → ∀ d, d < 24 → σ 3 (c * 3 + f) = nI d → g0 d = nI 1)) q.2.1 q.2.2 ∧ q.2.2 c = nI 1) (fun q : Nat × Int32 × (Nat → Int32) => 3 - q.1) (fun q : Nat × Int32 × (Nat → Int32) => wm h cI cB (va_up σ 12 q.2.2)) (fun q : Nat × Int32 × (Nat → Int32) => [(0, .ref (h 0)), (1, .int q.2.1), (2, .int (nI c)), (3, .int (nI q.1))]) (fun q hi ih => ?_) (0, m1, g1) ⟨by omega, kI_w hi1.2 (fun _ q => ⟨q, fun _ _ f hf => absurd hf (Nat.not_lt_zero _)⟩), (hi1.2.1 c hc).resolve_left h22⟩
            obtain ⟨f, m3, g3⟩ := q
            dsimp only at hi ih ⊢
            refine z_iload_n Z 3 d_m_close_36 rfl rfl ?_
            refine z_iconst Z (nI 3) d_m_close_37 zi_3 ?_
            refine z_icmpN_ge Z 74 d_m_close_38 (by decide) (by omega) (by omega) (fun h38 => ?_) (fun h38 => ?_)
            · obtain rfl : f = 3 := by omega
              exact z_lv rfl (J (m3, g3) hi.2.1)
            · refine z_aload_n Z 0 d_m_close_41 rfl rfl ?_
              refine z_aload_n Z 0 d_m_close_42 rfl rfl ?_
              refine mg_3 Z d_m_close_43 ?_
              refine z_iconst Z (nI 3) d_m_close_46 zi_3 ?_
              refine z_iload_n Z 2 d_m_close_47 rfl rfl ?_
              refine z_imulN Z d_m_close_48 ?_
              refine z_iload_n Z 3 d_m_close_49 rfl rfl ?_
              refine z_iaddN Z d_m_close_50 ?_
              refine z_eqi (y := nI (c * 3 + f)) (by rw [Nat.mul_comm]) ?_
              refine ml_3 Z (by omega) d_m_close_51 ?_
              refine z_Wi Z (c_m_add (σ := σ) (g := g3) hi.2.1.1 (hw.2.1 (c * 3 + f) (by omega))) (ok_m_add _) rfl rfl ⟨by decide, by decide⟩ rfl rfl rfl rfl (Nat.le_of_ble_eq_true rfl) d_m_close_52 ⟨by decide, by decide⟩ (fun E u h => h.elim) (fun v52 u52 h52 => ?_)
              refine z_if_ne Z 62 d_m_close_55 (by decide) (fun h55 => ?_) (fun h55 => ?_)
              · refine z_iconst Z (nI 1) d_m_close_62 zi_1 ?_
                refine z_goto Z 67 d_m_close_63 (by decide) ?_
                refine z_istore_n Z 1 d_m_close_67 rfl (by decide) rfl ?_
                refine z_iincN Z 3 d_m_close_68 rfl (by decide) rfl ?_
                refine z_goto Z 36 d_m_close_71 (by decide) ?_
                exact z_lv rfl (ih (f + 1, nI 1, u52) ⟨by omega, kI_add1 hi.2.1 (fun d hd e => rch_clo σ _ c d hc hd (hi.2.1.2.2.1 c hc hi.2.2) (Or.inl ⟨h31, f, by omega, e⟩)) h52 h55, (adG_iff h52 hc).mpr (Or.inl hi.2.2)⟩ (by dsimp only; omega))
              · refine z_iload_n Z 1 d_m_close_58 rfl rfl ?_
                refine z_if_eq Z 66 d_m_close_59 (by decide) (fun h59 => ?_) (fun h59 => ?_)
                · refine z_iconst Z (nI 0) d_m_close_66 zi_0 ?_
                  refine z_istore_n Z 1 d_m_close_67 rfl (by decide) rfl ?_
                  refine z_iincN Z 3 d_m_close_68 rfl (by decide) rfl ?_
                  refine z_goto Z 36 d_m_close_71 (by decide) ?_
                  exact z_lv rfl (ih (f + 1, nI 0, u52) ⟨by omega, kI_w (kI_add3 hi.2.1 h52 h55 h59) (fun _ q => ⟨q.1.1, rr_s q.1.2 (fun d hd e => q.2 d hd e)⟩), (adG_iff h52 hc).mpr (Or.inl hi.2.2)⟩ (by dsimp only; omega))
                · refine z_iconst Z (nI 1) d_m_close_62 zi_1 ?_
                  refine z_goto Z 67 d_m_close_63 (by decide) ?_
                  refine z_istore_n Z 1 d_m_close_67 rfl (by decide) rfl ?_
                  refine z_iincN Z 3 d_m_close_68 rfl (by decide) rfl ?_
                  refine z_goto Z 36 d_m_close_71 (by decide) ?_
                  exact z_lv rfl (ih (f + 1, nI 1, u52) ⟨by omega, kI_add2 hi.2.1 h52 h55 h59, (adG_iff h52 hc).mpr (Or.inl hi.2.2)⟩ (by dsimp only; omega))
end
section
/-! the reference: what it forgets, its run, its gathering -/
theorem wf_drp {τ : St} {c d : Nat} (hw : wf τ) (hc : c < 24) : wf (drp τ c d) := by
  have hn := (wf_cnt hw hc).1
  obtain ⟨h1, h2, h3, h4, h5⟩ := hw
  refine ⟨fun c' hc' => ?_, h2, fun j hj => ?_, fun j hj => ?_, h5⟩
  · show ∃ n, n ≤ 4 ∧ upd (τ 6) c (nI (cnt τ c - 1)) c' = nI n
    by_cases e : c' = c
    · rw [e, pk_us]; exact ⟨_, by omega, rfl⟩
    · rw [pk_un e]; exact h1 c' hc'
  · show cl24 (shf (τ 4) c d (cnt τ c - 1) j)
    unfold shf
    split
    · exact h3 (j + 1) (by omega)
    · exact h3 j hj
  · show cl24 (shf (τ 5) c d (cnt τ c - 1) j)
    unfold shf
    split
    · exact h4 (j + 1) (by omega)
    · exact h4 j hj
theorem cnt_drp {τ : St} {c d : Nat} (hn : cnt τ c ≤ 4) : cnt (drp τ c d) c = cnt τ c - 1 := by
  show (upd (τ 6) c (nI (cnt τ c - 1)) c).toNatClampNeg = _
  rw [pk_us, nI_clamp (by omega)]
theorem rws_get (σ : St) (c n j : Nat) : (rws σ c n)[j]? = if j < n then some (σ 4 (c * 4 + j), σ 5 (c * 4 + j)) else none := by
  unfold rws
  by_cases h : j < n
  · rw [if_pos h]; simp [h]
  · rw [if_neg h]; simp [h]
theorem ent_drp {τ : St} {c d : Nat} (hn : cnt τ c ≤ 4) (hd : d < cnt τ c) : ent (drp τ c d) c = (ent τ c).eraseIdx d := by
  refine List.ext_getElem? (fun j => ?_)
  rw [ent_rws, cnt_drp hn, rws_get, List.getElem?_eraseIdx, ent_rws, rws_get, rws_get]
  have e4 : (drp τ c d) 4 = shf (τ 4) c d (cnt τ c - 1) := rfl
  have e5 : (drp τ c d) 5 = shf (τ 5) c d (cnt τ c - 1) := rfl
  rw [e4, e5]
  unfold shf
  by_cases h1 : j < d
  · have q1 : j < cnt τ c - 1 := by omega
    have q2 : j < cnt τ c := by omega
    have q3 : ¬ (c * 4 + d ≤ c * 4 + j ∧ c * 4 + j < c * 4 + (cnt τ c - 1)) := by omega
    simp only [if_pos h1, if_pos q1, if_pos q2, if_neg q3]
  · rw [if_neg h1]
    by_cases h2 : j < cnt τ c - 1
    · have q2 : j + 1 < cnt τ c := by omega
      have q3 : c * 4 + d ≤ c * 4 + j ∧ c * 4 + j < c * 4 + (cnt τ c - 1) := by omega
      simp only [if_pos h2, if_pos q2, if_pos q3]; rfl
    · have q2 : ¬ j + 1 < cnt τ c := by omega
      simp only [if_neg h2, if_neg q2]
/-- a table's entries are forgotten from the last one on; i of them are still to be seen -/
def fgD (ρ : St) (c : Nat) (S : Nat → Bool) (i : Nat) (τ : St) : Prop := i ≤ cnt ρ c ∧ (∀ k, k ≠ 4 → k ≠ 5 → k ≠ 6 → τ k = ρ k) ∧ (∀ j, (j < c * 4 ∨ c * 4 + 4 ≤ j) → τ 4 j = ρ 4 j ∧ τ 5 j = ρ 5 j) ∧ (∀ c', c' ≠ c → τ 6 c' = ρ 6 c') ∧ wf τ ∧ ent τ c = (ent ρ c).take i ++ ((ent ρ c).drop i).filter (fun q => S q.1.toNatClampNeg)
theorem fgD_0 {ρ : St} {c : Nat} {S : Nat → Bool} (hw : wf ρ) : fgD ρ c S (cnt ρ c) ρ := ⟨Nat.le_refl _, fun _ _ _ _ => rfl, fun _ _ => ⟨rfl, rfl⟩, fun _ _ => rfl, hw, by
  rw [List.take_of_length_le (by rw [ent_len]; exact Nat.le_refl _), List.drop_of_length_le (by rw [ent_len]; exact Nat.le_refl _)]; simp⟩
theorem fgD_end {ρ τ : St} {c : Nat} {S : Nat → Bool} (h : fgD ρ c S 0 τ) : fge ρ c S τ := by
  obtain ⟨h1, h2, h3, h4, h5, h6⟩ := h
  exact ⟨h2, h3, h4, by simpa using h6, h5⟩
theorem fgD_lt {ρ τ : St} {c i : Nat} {S : Nat → Bool} (h : fgD ρ c S (i + 1) τ) : i < cnt τ c := by
  obtain ⟨h1, h2, h3, h4, h5, h6⟩ := h
  have e := congrArg List.length h6
  rw [ent_len, List.length_append, List.length_take, ent_len] at e
  omega
theorem fgD_row {ρ τ : St} {c i : Nat} {S : Nat → Bool} (h : fgD ρ c S (i + 1) τ) : (ent ρ c)[i]? = some (τ 4 (c * 4 + i), τ 5 (c * 4 + i)) := by
  have hl := fgD_lt h
  obtain ⟨h1, h2, h3, h4, h5, h6⟩ := h
  rw [← ent_get hl, h6, List.getElem?_append_left (by rw [List.length_take, ent_len]; omega), List.getElem?_take, if_pos (by omega)]
theorem fgD_split {A : List (Int32 × Int32)} {i : Nat} {a : Int32 × Int32} (h : A[i]? = some a) : A.take (i + 1) = A.take i ++ [a] ∧ A.drop i = a :: A.drop (i + 1) := by
  obtain ⟨hl, e⟩ := List.getElem?_eq_some_iff.mp h
  refine ⟨?_, ?_⟩
  · rw [List.take_add_one, h]; rfl
  · rw [List.drop_eq_getElem_cons hl, e]
theorem fgD_yes {ρ τ : St} {c i k : Nat} {S : Nat → Bool} (h : fgD ρ c S (i + 1) τ) (hk : k < 24) (ek : τ 4 (c * 4 + i) = nI k) (hs : S k = true) : fgD ρ c S i τ := by
  obtain ⟨t1, t2⟩ := fgD_split (fgD_row h)
  obtain ⟨h1, h2, h3, h4, h5, h6⟩ := h
  refine ⟨by omega, h2, h3, h4, h5, ?_⟩
  rw [h6, t1, t2, List.filter_cons, if_pos (by show S _ = true; rw [ek, nI_clamp (by omega)]; exact hs)]
  simp
theorem fgD_no {ρ τ : St} {c i k : Nat} {S : Nat → Bool} (hc : c < 24) (h : fgD ρ c S (i + 1) τ) (hk : k < 24) (ek : τ 4 (c * 4 + i) = nI k) (hs : S k = false) : fgD ρ c S i (drp τ c i) := by
  have hl := fgD_lt h
  obtain ⟨t1, t2⟩ := fgD_split (fgD_row h)
  obtain ⟨h1, h2, h3, h4, h5, h6⟩ := h
  have hn := (wf_cnt h5 hc).1
  refine ⟨by omega, fun k a b d => ?_, fun j hj => ?_, fun c' hc' => ?_, wf_drp h5 hc, ?_⟩
  · rw [← h2 k a b d]
    show va_up (va_up (va_up τ 4 _) 5 _) 6 _ k = _
    rw [va_up_ne _ _ d, va_up_ne _ _ b, va_up_ne _ _ a]
  · obtain ⟨a, b⟩ := h3 j hj
    have e4 : (drp τ c i) 4 = shf (τ 4) c i (cnt τ c - 1) := rfl
    have e5 : (drp τ c i) 5 = shf (τ 5) c i (cnt τ c - 1) := rfl
    rw [e4, e5]
    unfold shf
    rw [if_neg (by omega), if_neg (by omega)]
    exact ⟨a, b⟩
  · show upd (τ 6) c _ c' = _
    rw [pk_un hc']; exact h4 c' hc'
  · have hL : ((ent ρ c).take i).length = i := by rw [List.length_take, ent_len]; omega
    rw [ent_drp hn hl, h6, t1, t2, List.filter_cons, if_neg (by show ¬ S _ = true; rw [ek, nI_clamp (by omega), hs]; decide), List.append_assoc, List.eraseIdx_append_of_length_le (by omega), hL, Nat.sub_self]
    rfl
/-- a weak thing within S forgets -/
def fgw (τ : St) (c : Nat) (S : Nat → Bool) : St := if S c = true ∧ τ 1 c = nI 1 then fgr τ c S else τ
theorem fgw_n {τ : St} {c : Nat} {S : Nat → Bool} (h : ¬ (S c = true ∧ τ 1 c = nI 1)) : fgw τ c S = τ := by unfold fgw; rw [if_neg h]
theorem fgw_y {τ : St} {c : Nat} {S : Nat → Bool} (h : S c = true ∧ τ 1 c = nI 1) : fgw τ c S = fgr τ c S := by unfold fgw; rw [if_pos h]
theorem fgr_k (τ : St) (c : Nat) (S : Nat → Bool) {k : Nat} (h : k ≠ 3) : fgr τ c S k = τ k := by
  unfold fgr; split
  · exact va_up_ne _ _ h
  · rfl
theorem fgw_k (τ : St) (c : Nat) (S : Nat → Bool) {k : Nat} (h : k ≠ 3) : fgw τ c S k = τ k := by
  unfold fgw; split
  · exact fgr_k τ c S h
  · rfl
theorem wf_fgw {τ : St} {c : Nat} {S : Nat → Bool} (hw : wf τ) : wf (fgw τ c S) := by
  unfold fgw; split
  · unfold fgr; split
    · exact wf_3 hw (Or.inl rfl)
    · exact hw
  · exact hw
theorem fgo_fw {σ τ : St} {S : Nat → Bool} {i : Nat} (h24 : i < 24) (h : fgo σ S i τ) (hn : ¬ (S i = true ∧ σ 1 i = nI 2)) : fgo σ S (i + 1) (fgw τ i S) := by
  have e1 : τ 1 = σ 1 := h.1 1 (by decide) (by decide) (by decide) (by decide)
  by_cases q : S i = true ∧ τ 1 i = nI 1
  · rw [fgw_y q]; exact fgo_weak h24 h q.1 (e1 ▸ q.2)
  · rw [fgw_n q]
    refine fgo_no h24 h ?_
    cases hs : S i
    · exact Or.inl rfl
    · exact Or.inr ⟨fun z => q ⟨hs, e1 ▸ z⟩, fun z => hn ⟨hs, z⟩⟩
theorem fgo_ft {σ τ u : St} {S : Nat → Bool} {i : Nat} (h24 : i < 24) (h : fgo σ S i τ) (hs : S i = true ∧ σ 1 i = nI 2) (hu : fge (fgw τ i S) i S u) : fgo σ S (i + 1) u := by
  have e1 : τ 1 = σ 1 := h.1 1 (by decide) (by decide) (by decide) (by decide)
  rw [fgw_n (fun z => by have z2 := z.2; rw [e1, hs.2] at z2; exact absurd z2 (by decide))] at hu
  exact fgo_tab h24 h hs.1 hs.2 hu
theorem gB_t {g : Nat → Int32} {c : Nat} (hb : bl g) (hc : c < 24) (h : ¬ g c = 0) : gB g c = true := decide_eq_true ((hb c hc).resolve_left h)
theorem gB_f {g : Nat → Int32} {c : Nat} (h : g c = 0) : gB g c = false := by unfold gB; rw [h]; decide
theorem fgw_in {τ : St} {c : Nat} {S : Nat → Bool} {d : Nat} (h1 : S c = true ∧ τ 1 c = nI 1) (hd : d < 24) (ed : τ 3 (c * 3 + 0) = nI d) (hs : S d = true) : fgw τ c S = τ := by
  rw [fgw_y h1]; unfold fgr; rw [if_neg]
  rintro ⟨-, q⟩
  rw [ed, nI_clamp (by omega), hs] at q; cases q
theorem fgw_m1 {τ : St} {c : Nat} {S : Nat → Bool} (hn : nc (τ 3 (c * 3 + 0))) (hm : τ 3 (c * 3 + 0) < 0) : fgw τ c S = τ := by
  by_cases q : S c = true ∧ τ 1 c = nI 1
  · rw [fgw_y q]; unfold fgr; rw [if_neg (fun z => z.1 (nc_neg hn hm))]
  · exact fgw_n q
theorem fgw_out {τ : St} {c : Nat} {S : Nat → Bool} {d : Nat} (h1 : S c = true ∧ τ 1 c = nI 1) (hd : d < 24) (ed : τ 3 (c * 3 + 0) = nI d) (hs : S d = false) : fgw τ c S = va_up τ 3 (upd (τ 3) (c * 3 + 0) (-1)) := by
  rw [fgw_y h1]; unfold fgr; rw [if_pos]
  exact ⟨by rw [ed]; exact nI_m1 (by omega), by rw [ed, nI_clamp (by omega)]; exact hs⟩
theorem nc_ge {x : Int32} (h : nc x) (h0 : ¬ x < 0) : ∃ d, d < 24 ∧ x = nI d := nc_cl h (fun e => h0 (by rw [e]; decide))
/-- the reference's put -/
def puR (σ : St) (c i : Nat) (k v : Int32) : St := va_up (va_up (va_up σ 4 (upd (σ 4) (c * 4 + i) k)) 5 (upd (σ 5) (c * 4 + i) v)) 6 (upd (σ 6) c (nI (cnt σ c + 0)))
def putM (σ : St) (x k v r : Int32) (u : St) : Prop := (¬ (tM σ x ∧ tM σ k ∧ tM σ v) ∧ u = th σ 1) ∨ ((tM σ x ∧ tM σ k ∧ tM σ v) ∧ ((¬ isTab σ x ∧ u = th σ 2) ∨ ∃ c, c < 24 ∧ x = nI c ∧ σ 1 c = nI 2 ∧ ((cnt σ c = 4 ∧ (∀ j, j < cnt σ c → σ 4 (c * 4 + j) ≠ k) ∧ u = th σ 3) ∨ (∃ i, i < cnt σ c ∧ σ 4 (c * 4 + i) = k ∧ r = nI 0 ∧ u = puR (th σ 0) c i k v) ∨ ((∀ j, j < cnt σ c → σ 4 (c * 4 + j) ≠ k) ∧ cnt σ c < 4 ∧ r = nI 1 ∧ u = apd (th σ 0) c k v))))
/-- the reference's free cells -/
theorem fcM_s {σ : St} {v : Int32} (h : (∃ c, lfM σ c ∧ v = nI c) ∨ (v = -1 ∧ fullM σ)) (h0 : 0 ≤ v) : ∃ c, lfM σ c ∧ v = nI c := h.resolve_right (fun q => by rw [q.1] at h0; exact absurd h0 (by decide))
theorem fcM_f {σ : St} {v : Int32} (h : (∃ c, lfM σ c ∧ v = nI c) ∨ (v = -1 ∧ fullM σ)) (h0 : ¬ 0 ≤ v) : fullM σ := by
  rcases h with ⟨c, hl, e⟩ | h
  · exact absurd (by rw [e]; exact nI_pos' (by have := hl.1; omega)) h0
  · exact h.2
theorem fcM_a {σ : St} {v : Int32} {c : Nat} (h : (∃ c, lfM σ c ∧ v = nI c) ∨ (v = -1 ∧ fullM σ)) (hl : lfM σ c) : ∃ c, lfM σ c ∧ v = nI c := h.resolve_right (fun q => q.2 c hl.1 hl.2.1)
def plM (τ : St) (c : Nat) (k : Int32) : St := emp (pl5 (pl4 (pl3 (pl1 τ) c k) c) c) c
/-- what isn't in and waits -/
def qM (σ : St) (g : Nat → Int32) : Nat → Bool := fun c => decide (¬ σ 1 c < 0 ∧ g c = nI 0)
theorem qst_k (σ : St) (S : Nat → Bool) (i : Nat) {k : Nat} (h0 : k ≠ 0) (h7 : k ≠ 7) (h11 : k ≠ 11) : qst σ S i k = σ k := by
  induction i with
  | zero => rfl
  | succ i ih =>
    by_cases h : S i = true ∧ (qst σ S i) 7 i = nI 1
    · rw [qst_yes h, enq, enqW, va_up_ne _ _ h0, va_up_ne _ _ h11, va_up_ne _ _ h7]; exact ih
    · rw [← qst_no h]; exact ih
def fr1 (ρ : St) (i : Nat) : St := va_up (va_up (va_up (va_up ρ 1 (upd (ρ 1) i (-1))) 6 (upd (ρ 6) i (nI 0))) 3 (upd (ρ 3) (i * 3 + 0) (-1))) 7 (upd (ρ 7) i (nI 0))
def frS (σ : St) (D : Nat → Bool) : Nat → St
  | 0 => σ
  | i + 1 => if D i = true then fr1 (frS σ D i) i else frS σ D i
theorem frS_y {σ : St} {D : Nat → Bool} {i : Nat} (h : D i = true) : frS σ D (i + 1) = fr1 (frS σ D i) i := by
  show (if _ then _ else _) = _
  rw [if_pos h]
theorem frS_n {σ : St} {D : Nat → Bool} {i : Nat} (h : D i = false) : frS σ D (i + 1) = frS σ D i := by
  show (if _ then _ else _) = _
  rw [if_neg (by rw [h]; decide)]
theorem num_y {D : Nat → Bool} {i : Nat} (h : D i = true) : num D (i + 1) = num D i + 1 := by
  show num D i + _ = _
  rw [if_pos h]
theorem num_n {D : Nat → Bool} {i : Nat} (h : D i = false) : num D (i + 1) = num D i := by
  show num D i + _ = _
  rw [if_neg (by rw [h]; decide)]; rfl
theorem fr1_1 (ρ : St) (i : Nat) : (fr1 ρ i) 1 = upd (ρ 1) i (-1) := rfl
theorem frS_1 (σ : St) (D : Nat → Bool) {i j : Nat} (h : i ≤ j) : frS σ D i 1 j = σ 1 j := by
  induction i with
  | zero => rfl
  | succ i ih =>
    cases hd : D i
    · rw [frS_n hd]; exact ih (by omega)
    · rw [frS_y hd, fr1_1, pk_un (by omega)]; exact ih (by omega)
theorem frS_12 (σ : St) (D : Nat → Bool) (i : Nat) : frS σ D i 12 = σ 12 := by
  induction i with
  | zero => rfl
  | succ i ih =>
    cases hd : D i
    · rw [frS_n hd]; exact ih
    · rw [frS_y hd]; exact ih
/-- what the reference's gathering does -/
def gatM (σ : St) (v : Int32) (u : St) : Prop := ∃ (g0 g1 : Nat → Int32) (σ2 : St) (w : Nat) (g2 g3 : Nat → Int32) (σ4 : St),
  (∀ c, c < 24 → (g0 c = nI 1 ↔ ∃ r, r < 6 ∧ (col1 σ) 10 r = nI c)) ∧ (bl g1 ∧ ∀ c, c < 24 → (g1 c = nI 1 ↔ rch (col1 σ) (fun d => g0 d = nI 1) c)) ∧ fgo (va_up (col1 σ) 12 g1) (gB g1) 24 σ2 ∧
  w ≤ 24 ∧ (qst σ2 (qM σ2 g1) 24) 0 1 = nI w ∧ (∀ c, c < 24 → (g2 c = nI 1 ↔ (g1 c = nI 1 ∨ ∃ r, r < w ∧ (qst σ2 (qM σ2 g1) 24) 11 r = nI c))) ∧
  (bl g3 ∧ ∀ c, c < 24 → (g3 c = nI 1 ↔ rch (qst σ2 (qM σ2 g1) 24) (fun d => g2 d = nI 1) c)) ∧ fgo (va_up (qst σ2 (qM σ2 g1) 24) 12 g3) (gB g3) 24 σ4 ∧
  v = nI (num (qM σ4 g3) 24) ∧ u = frS σ4 (qM σ4 g3) 24
theorem wf_12 {σ : St} {g : Nat → Int32} (h : wf σ) : wf (va_up σ 12 g) := h
theorem qI_12 {σ : St} {g : Nat → Int32} (h : qI σ) : qI (va_up σ 12 g) := h
theorem fgo_12 {σ u : St} {S : Nat → Bool} {i : Nat} (h : fgo σ S i u) : u 12 = σ 12 := h.1 12 (by decide) (by decide) (by decide) (by decide)
theorem fgo_1 {σ u : St} {S : Nat → Bool} {i : Nat} (h : fgo σ S i u) : u 1 = σ 1 := h.1 1 (by decide) (by decide) (by decide) (by decide)
/-- the first i are out -/
def clG (g : Nat → Int32) : Nat → Nat → Int32
  | 0 => g
  | i + 1 => upd (clG g i) i (nI 0)
theorem clG_0 (g : Nat → Int32) {i c : Nat} (h : c < i) : clG g i c = nI 0 := by
  induction i with
  | zero => omega
  | succ i ih =>
    show upd (clG g i) i (nI 0) c = _
    by_cases e : c = i
    · rw [e, pk_us]
    · rw [pk_un e]; exact ih (by omega)
theorem adS {g g' : Nat → Int32} {x v : Int32} {A : Nat → Prop} {f : Nat → Int32} {i : Nat} (h : ∀ c, c < 24 → (g c = nI 1 ↔ (A c ∨ ∃ r, r < i ∧ f r = nI c))) (ha : adG g x v g') (ex : x = f i) : ∀ c, c < 24 → (g' c = nI 1 ↔ (A c ∨ ∃ r, r < i + 1 ∧ f r = nI c)) := fun c hc => by
  rw [adG_iff ha hc, h c hc, ex]
  constructor
  · rintro ((q | ⟨r, hr, q⟩) | q)
    · exact Or.inl q
    · exact Or.inr ⟨r, by omega, q⟩
    · exact Or.inr ⟨i, by omega, q⟩
  · rintro (q | ⟨r, hr, q⟩)
    · exact Or.inl (Or.inl q)
    · by_cases e : r = i
      · rw [e] at q; exact Or.inr q
      · exact Or.inl (Or.inr ⟨r, by omega, q⟩)
abbrev gOk (g : Nat → Int32) : Prop := bl g
theorem up_eq {σ : St} {k : Nat} {g : Nat → Int32} (h : σ k = g) : va_up σ k g = σ := by rw [← h, va_up_same]
def mkM (σ : St) (k v : Int32) (u : St) : Prop := (¬ isK k ∧ u = th σ 1) ∨ (isK k ∧ ((∃ c, lfM σ c ∧ v = nI c ∧ u = plM (th (th σ 0) 0) c k) ∨ (fullM σ ∧ ∃ v1 σ1, gatM (th σ 0) v1 σ1 ∧ ((∃ c, lfM σ1 c ∧ v = nI c ∧ u = plM (th σ1 0) c k) ∨ (fullM σ1 ∧ u = th σ1 2)))))
set_option maxHeartbeats 4000000 in
set_option maxRecDepth 100000 in
theorem c_m_forget {l : Launch} {D : va_G} {cI cB cL : ClassId} {h : Nat → Nat} {σ : St} (hw : wf σ) (hb : bl (σ 12)) : zMet l y_m_forget w_m_forget rm_m_forget D zCl (zTy cI cB cL) (wm h cI cB σ) [.ref (h 0)] (qv (wm h cI cB) (fun u => fgo σ (gB (σ 12)) 24 u) noXs) 0 0 0 0 := by
  refine z_meth (by decide) rfl (Nat.le_of_ble_eq_true rfl) (fun p e s mm as bl me cd Z hr hnm ht => ?_)
  refine z_iconst Z (nI 0) d_m_forget_0 zi_0 ?_
  refine z_istore_n Z 1 d_m_forget_1 rfl (by decide) rfl ?_
  refine z_lv (lv' := [(0, .ref (h 0)), (1, .int (nI 0))]) rfl ?_
  refine z_loop (fun q : Nat × St => q.1 ≤ 24 ∧ fgo σ (gB (σ 12)) q.1 q.2) (fun q : Nat × St => 24 - q.1) (fun q : Nat × St => wm h cI cB q.2) (fun q : Nat × St => [(0, .ref (h 0)), (1, .int (nI q.1))]) (fun q hi ih => ?_) (0, σ) ⟨by omega, fgo_0 hw⟩
  obtain ⟨c, τ⟩ := q
  dsimp only at hi ih ⊢
  have e1 : τ 1 = σ 1 := fgo_1 hi.2
  have e12 : τ 12 = σ 12 := fgo_12 hi.2
  have hwt : wf τ := fgo_wf hi.2
  refine z_iload_n Z 1 d_m_forget_2 rfl rfl ?_
  refine z_bipush Z (nI 24) d_m_forget_3 zb_24 ?_
  refine z_icmpN_ge Z 130 d_m_forget_5 (by decide) (by omega) (by omega) (fun h5 => ?_) (fun h5 => ?_)
  · obtain rfl : c = 24 := by omega
    refine z_rv Z _ hr d_m_forget_130 (by decide) (by decide) rfl ?_
    exact hi.2
  · have hc : c < 24 := h5
    refine z_aload_n Z 0 d_m_forget_8 rfl rfl ?_
    refine mg_3 Z d_m_forget_9 ?_
    refine z_iconst Z (nI 3) d_m_forget_12 zi_3 ?_
    refine z_iload_n Z 1 d_m_forget_13 rfl rfl ?_
    refine z_imulN Z d_m_forget_14 ?_
    refine z_eqi (y := nI (c * 3 + 0)) (congrArg nI (Nat.mul_comm 3 c)) ?_
    refine ml_3 Z (by omega) d_m_forget_15 ?_
    refine z_istore_n Z 2 d_m_forget_16 rfl (by decide) rfl ?_
    refine z_cut (fun q : Unit => True) 58 (fun q => wm h cI cB (fgw τ c (gB (σ 12)))) (fun q => [(0, .ref (h 0)), (1, .int (nI c))]) (fun _ => []) (fun q hi2 => ?_) (fun J => ?_)
    · have r1 : (fgw τ c (gB (σ 12))) 1 = σ 1 := (fgw_k τ c _ (by decide)).trans e1
      have r12 : (fgw τ c (gB (σ 12))) 12 = σ 12 := (fgw_k τ c _ (by decide)).trans e12
      have hwr : wf (fgw τ c (gB (σ 12))) := wf_fgw hwt
      have e6 : (fgw τ c (gB (σ 12))) 6 c = nI (cnt (fgw τ c (gB (σ 12))) c) := (wf_cnt hwr hc).2
      have n6 : cnt (fgw τ c (gB (σ 12))) c ≤ 4 := (wf_cnt hwr hc).1
      refine z_aload_n Z 0 d_m_forget_58 rfl rfl ?_
      refine mg_6 Z d_m_forget_59 ?_
      refine z_iload_n Z 1 d_m_forget_62 rfl rfl ?_
      refine ml_6 Z (by omega) d_m_forget_63 ?_
      refine z_eqi e6 ?_
      refine z_iconst Z (nI 1) d_m_forget_64 zi_1 ?_
      refine z_isub Z d_m_forget_65 ?_
      refine z_eqi (dn_sub _) ?_
      refine z_istore_n Z 3 d_m_forget_66 rfl (by decide) rfl ?_
      by_cases hT : (gB (σ 12)) c = true ∧ σ 1 c = nI 2
      · refine z_lv (lv' := [(0, .ref (h 0)), (1, .int (nI c)), (3, .int (dn (cnt (fgw τ c (gB (σ 12))) c)))]) rfl ?_
        refine z_loop (fun q : Nat × St => fgD (fgw τ c (gB (σ 12))) c (gB (σ 12)) q.1 q.2) (fun q : Nat × St => q.1) (fun q : Nat × St => wm h cI cB q.2) (fun q : Nat × St => [(0, .ref (h 0)), (1, .int (nI c)), (3, .int (dn q.1))]) (fun q hd ihd => ?_) (cnt (fgw τ c (gB (σ 12))) c, (fgw τ c (gB (σ 12)))) (fgD_0 hwr)
        obtain ⟨n, ρ⟩ := q
        dsimp only at hd ihd ⊢
        have f1 : ρ 1 = σ 1 := (hd.2.1 1 (by decide) (by decide) (by decide)).trans r1
        have f12 : ρ 12 = σ 12 := (hd.2.1 12 (by decide) (by decide) (by decide)).trans r12
        refine z_iload_n Z 3 d_m_forget_67 rfl rfl ?_
        refine z_if_lt Z 124 d_m_forget_68 (by decide) (fun h68 => ?_) (fun h68 => ?_)
        · obtain rfl := dn_neg (by have := hd.1; omega) h68
          refine z_iincN Z 1 d_m_forget_124 rfl (by decide) rfl ?_
          refine z_goto Z 2 d_m_forget_127 (by decide) ?_
          exact z_lv rfl (ih (c + 1, ρ) ⟨by omega, fgo_ft hc hi.2 hT (fgD_end hd)⟩ (by dsimp only; omega))
        · obtain ⟨i, rfl⟩ := dn_pos h68
          have hl := fgD_lt hd
          have n6r := (wf_cnt hd.2.2.2.2.1 hc).1
          refine z_aload_n Z 0 d_m_forget_71 rfl rfl ?_
          refine mg_12 Z d_m_forget_72 ?_
          refine z_iload_n Z 1 d_m_forget_75 rfl rfl ?_
          refine ml_12 Z (by omega) d_m_forget_76 ?_
          refine z_if_eq Z 124 d_m_forget_77 (by decide) (fun hx => absurd hx (fun q => by have z := of_decide_eq_true hT.1; rw [← f12, q] at z; exact absurd z (by decide))) (fun h77 => ?_)
          refine z_aload_n Z 0 d_m_forget_80 rfl rfl ?_
          refine mg_1 Z d_m_forget_81 ?_
          refine z_iload_n Z 1 d_m_forget_84 rfl rfl ?_
          refine ml_1 Z (by omega) d_m_forget_85 ?_
          refine z_iconst Z (nI 2) d_m_forget_86 zi_2 ?_
          refine z_icmp_ne Z 124 d_m_forget_87 (by decide) (fun hx => absurd hx (fun q => q (by rw [f1]; exact hT.2))) (fun h87 => ?_)
          refine z_aload_n Z 0 d_m_forget_90 rfl rfl ?_
          refine mg_12 Z d_m_forget_91 ?_
          refine z_aload_n Z 0 d_m_forget_94 rfl rfl ?_
          refine mg_4 Z d_m_forget_95 ?_
          refine z_iconst Z (nI 4) d_m_forget_98 zi_4 ?_
          refine z_iload_n Z 1 d_m_forget_99 rfl rfl ?_
          refine z_imulN Z d_m_forget_100 ?_
          refine z_iload_n Z 3 d_m_forget_101 rfl rfl ?_
          refine z_eqi (y := nI i) rfl ?_
          refine z_iaddN Z d_m_forget_102 ?_
          refine z_eqi (y := nI (c * 4 + i)) (by rw [Nat.mul_comm]) ?_
          refine ml_4 Z (by omega) d_m_forget_103 ?_
          obtain ⟨k, hk, ek⟩ := hd.2.2.2.2.1.2.2.1 (c * 4 + i) (by omega)
          refine z_eqi (y := nI k) ek ?_
          refine ml_12 Z (by omega) d_m_forget_104 ?_
          refine z_if_ne Z 118 d_m_forget_105 (by decide) (fun h105 => ?_) (fun h105 => ?_)
          · refine z_iinc Z 3 (dn i) d_m_forget_118 rfl (dn_dec i) (by decide) rfl ?_
            refine z_goto Z 67 d_m_forget_121 (by decide) ?_
            exact z_lv rfl (ihd (i, ρ) (fgD_yes hd hk ek (gB_t hb hk (by rw [← f12]; exact h105))) (by dsimp only; omega))
          · refine z_aload_n Z 0 d_m_forget_108 rfl rfl ?_
            refine z_iload_n Z 1 d_m_forget_109 rfl rfl ?_
            refine z_iconst Z (nI 4) d_m_forget_110 zi_4 ?_
            refine z_iload_n Z 1 d_m_forget_111 rfl rfl ?_
            refine z_imulN Z d_m_forget_112 ?_
            refine z_iload_n Z 3 d_m_forget_113 rfl rfl ?_
            refine z_eqi (y := nI i) rfl ?_
            refine z_iaddN Z d_m_forget_114 ?_
            refine z_eqi (y := nI (c * 4 + i)) (by rw [Nat.mul_comm]) ?_
            refine z_Wv Z (c_m_dropEntry hd.2.2.2.2.1 hc hl) (ok_m_dropEntry _) rfl rfl ⟨by decide, by decide⟩ rfl rfl rfl rfl (Nat.le_of_ble_eq_true rfl) d_m_forget_115 ⟨by decide, by decide⟩ (fun E u h => h.elim) (fun u115 h115 => ?_)
            subst h115
            refine z_iinc Z 3 (dn i) d_m_forget_118 rfl (dn_dec i) (by decide) rfl ?_
            refine z_goto Z 67 d_m_forget_121 (by decide) ?_
            exact z_lv rfl (ihd (i, _) (fgD_no hc hd hk ek (gB_f (by rw [← f12]; exact h105))) (by dsimp only; omega))
      · refine z_iload_n Z 3 d_m_forget_67 rfl rfl ?_
        refine z_if_lt Z 124 d_m_forget_68 (by decide) (fun h68 => ?_) (fun h68 => ?_)
        · refine z_iincN Z 1 d_m_forget_124 rfl (by decide) rfl ?_
          refine z_goto Z 2 d_m_forget_127 (by decide) ?_
          exact z_lv rfl (ih (c + 1, _) ⟨by omega, fgo_fw hc hi.2 hT⟩ (by dsimp only; omega))
        · refine z_aload_n Z 0 d_m_forget_71 rfl rfl ?_
          refine mg_12 Z d_m_forget_72 ?_
          refine z_iload_n Z 1 d_m_forget_75 rfl rfl ?_
          refine ml_12 Z (by omega) d_m_forget_76 ?_
          refine z_if_eq Z 124 d_m_forget_77 (by decide) (fun h77 => ?_) (fun h77 => ?_)
          · refine z_iincN Z 1 d_m_forget_124 rfl (by decide) rfl ?_
            refine z_goto Z 2 d_m_forget_127 (by decide) ?_
            exact z_lv rfl (ih (c + 1, _) ⟨by omega, fgo_fw hc hi.2 hT⟩ (by dsimp only; omega))
          · refine z_aload_n Z 0 d_m_forget_80 rfl rfl ?_
            refine mg_1 Z d_m_forget_81 ?_
            refine z_iload_n Z 1 d_m_forget_84 rfl rfl ?_
            refine ml_1 Z (by omega) d_m_forget_85 ?_
            refine z_iconst Z (nI 2) d_m_forget_86 zi_2 ?_
            refine z_icmp_ne Z 124 d_m_forget_87 (by decide) (fun h87 => ?_) (fun hx => absurd hx (fun q => hT ⟨gB_t hb hc (by rw [← r12]; exact h77), by rw [← r1]; exact q⟩))
            refine z_iincN Z 1 d_m_forget_124 rfl (by decide) rfl ?_
            refine z_goto Z 2 d_m_forget_127 (by decide) ?_
            exact z_lv rfl (ih (c + 1, _) ⟨by omega, fgo_fw hc hi.2 hT⟩ (by dsimp only; omega))
    · refine z_aload_n Z 0 d_m_forget_17 rfl rfl ?_
      refine mg_12 Z d_m_forget_18 ?_
      refine z_iload_n Z 1 d_m_forget_21 rfl rfl ?_
      refine ml_12 Z (by omega) d_m_forget_22 ?_
      refine z_if_eq Z 58 d_m_forget_23 (by decide) (fun h23 => ?_) (fun h23 => ?_)
      · exact z_ws (by rw [fgw_n (fun q => by have z := q.1; rw [gB_f (by rw [← e12]; exact h23)] at z; cases z)]) (z_lv rfl (J () trivial))
      · refine z_aload_n Z 0 d_m_forget_26 rfl rfl ?_
        refine mg_1 Z d_m_forget_27 ?_
        refine z_iload_n Z 1 d_m_forget_30 rfl rfl ?_
        refine ml_1 Z (by omega) d_m_forget_31 ?_
        refine z_iconst Z (nI 1) d_m_forget_32 zi_1 ?_
        refine z_icmp_ne Z 58 d_m_forget_33 (by decide) (fun h33 => ?_) (fun h33 => ?_)
        · exact z_ws (by rw [fgw_n (fun q => h33 q.2)]) (z_lv rfl (J () trivial))
        · refine z_iload_n Z 2 d_m_forget_36 rfl rfl ?_
          refine z_if_lt Z 58 d_m_forget_37 (by decide) (fun h37 => ?_) (fun h37 => ?_)
          · exact z_ws (by rw [fgw_m1 (hwt.2.1 (c * 3 + 0) (by omega)) h37]) (z_lv rfl (J () trivial))
          · obtain ⟨d, hd, ed⟩ := nc_ge (hwt.2.1 (c * 3 + 0) (by omega)) h37
            have hw1 : (gB (σ 12)) c = true ∧ τ 1 c = nI 1 := ⟨gB_t hb hc (by rw [← e12]; exact h23), h33⟩
            refine z_aload_n Z 0 d_m_forget_40 rfl rfl ?_
            refine mg_12 Z d_m_forget_41 ?_
            refine z_iload_n Z 2 d_m_forget_44 rfl rfl ?_
            refine z_eqi ed ?_
            refine ml_12 Z (by omega) d_m_forget_45 ?_
            refine z_if_ne Z 58 d_m_forget_46 (by decide) (fun h46 => ?_) (fun h46 => ?_)
            · exact z_ws (by rw [fgw_in hw1 hd ed (gB_t hb hd (by rw [← e12]; exact h46))]) (z_lv rfl (J () trivial))
            · refine z_aload_n Z 0 d_m_forget_49 rfl rfl ?_
              refine mg_3 Z d_m_forget_50 ?_
              refine z_iconst Z (nI 3) d_m_forget_53 zi_3 ?_
              refine z_iload_n Z 1 d_m_forget_54 rfl rfl ?_
              refine z_imulN Z d_m_forget_55 ?_
              refine z_iconst Z (-1) d_m_forget_56 zi_m1 ?_
              refine z_eqi2 (y := nI (c * 3 + 0)) (congrArg nI (Nat.mul_comm 3 c)) ?_
              refine ms_3 Z (by omega) d_m_forget_57 ?_
              exact z_ws (by rw [fgw_out hw1 hd ed (gB_f (by rw [← e12]; exact h46))]) (z_lv rfl (J () trivial))
set_option maxHeartbeats 4000000 in
set_option maxRecDepth 100000 in
theorem c_m_put {l : Launch} {D : va_G} {cI cB cL : ClassId} {h : Nat → Nat} {σ : St} (hw : wf σ) {x k v : Int32} : zMet l y_m_put w_m_put rm_m_put D zCl (zTy cI cB cL) (wm h cI cB σ) [.ref (h 0), .int x, .int k, .int v] (qi (wm h cI cB) (fun r u => putM σ x k v r u) noXs) 0 0 0 0 := by
  refine z_meth (by decide) rfl (Nat.le_of_ble_eq_true rfl) (fun p e s mm as bl me cd Z hr hnm ht => ?_)
  refine z_aload_n Z 0 d_m_put_0 rfl rfl ?_
  refine z_aload_n Z 0 d_m_put_1 rfl rfl ?_
  refine z_iload_n Z 1 d_m_put_2 rfl rfl ?_
  refine z_Wi0 Z (c_m_isThing ) (ok_m_isThing _) rfl rfl ⟨by decide, by decide⟩ rfl rfl rfl rfl (Nat.le_of_ble_eq_true rfl) d_m_put_3 ⟨by decide, by decide⟩ (fun E h => h.elim) (fun v3 h3 => ?_)
  refine z_if_eq Z 25 d_m_put_6 (by decide) (fun h6 => ?_) (fun h6 => ?_)
  · refine z_iconst Z (nI 1) d_m_put_25 zi_1 ?_
    refine z_goto Z 67 d_m_put_26 (by decide) ?_
    refine mp_0 Z d_m_put_67 ?_
    refine z_aload_n Z 0 d_m_put_70 rfl rfl ?_
    refine mn_0 Z d_m_put_71 ?_
    refine z_if_le Z 79 d_m_put_74 (by decide) (fun hx => absurd hx (show ¬ (nI 1 : Int32) ≤ 0 from by decide)) (fun h74 => ?_)
    refine z_iconst Z (nI 0) d_m_put_77 zi_0 ?_
    refine z_ri Z _ hr rfl d_m_put_78 (by decide) (by decide) rfl ?_
    exact Or.inl ⟨fun q => zB0 h3 h6 q.1, rfl⟩
  · have hx := zB1 h3 h6
    obtain ⟨c, hc, rfl, hxx⟩ := id hx
    have e6 : σ 6 c = nI (cnt σ c) := (wf_cnt hw hc).2
    have n6 : cnt σ c ≤ 4 := (wf_cnt hw hc).1
    refine z_aload_n Z 0 d_m_put_9 rfl rfl ?_
    refine z_iload_n Z 2 d_m_put_10 rfl rfl ?_
    refine z_Wi0 Z (c_m_isThing ) (ok_m_isThing _) rfl rfl ⟨by decide, by decide⟩ rfl rfl rfl rfl (Nat.le_of_ble_eq_true rfl) d_m_put_11 ⟨by decide, by decide⟩ (fun E h => h.elim) (fun v11 h11 => ?_)
    refine z_if_eq Z 25 d_m_put_14 (by decide) (fun h14 => ?_) (fun h14 => ?_)
    · refine z_iconst Z (nI 1) d_m_put_25 zi_1 ?_
      refine z_goto Z 67 d_m_put_26 (by decide) ?_
      refine mp_0 Z d_m_put_67 ?_
      refine z_aload_n Z 0 d_m_put_70 rfl rfl ?_
      refine mn_0 Z d_m_put_71 ?_
      refine z_if_le Z 79 d_m_put_74 (by decide) (fun hx => absurd hx (show ¬ (nI 1 : Int32) ≤ 0 from by decide)) (fun h74 => ?_)
      refine z_iconst Z (nI 0) d_m_put_77 zi_0 ?_
      refine z_ri Z _ hr rfl d_m_put_78 (by decide) (by decide) rfl ?_
      exact Or.inl ⟨fun q => zB0 h11 h14 q.2.1, rfl⟩
    · have hk := zB1 h11 h14
      refine z_aload_n Z 0 d_m_put_17 rfl rfl ?_
      refine z_iload_n Z 3 d_m_put_18 rfl rfl ?_
      refine z_Wi0 Z (c_m_isThing ) (ok_m_isThing _) rfl rfl ⟨by decide, by decide⟩ rfl rfl rfl rfl (Nat.le_of_ble_eq_true rfl) d_m_put_19 ⟨by decide, by decide⟩ (fun E h => h.elim) (fun v19 h19 => ?_)
      refine z_if_ne Z 29 d_m_put_22 (by decide) (fun h22 => ?_) (fun h22 => ?_)
      · have hv := zB1 h19 h22
        refine z_aload_n Z 0 d_m_put_29 rfl rfl ?_
        refine mg_1 Z d_m_put_30 ?_
        refine z_iload_n Z 1 d_m_put_33 rfl rfl ?_
        refine ml_1 Z (by omega) d_m_put_34 ?_
        refine z_iconst Z (nI 2) d_m_put_35 zi_2 ?_
        refine z_icmp_eq Z 43 d_m_put_36 (by decide) (fun h36 => ?_) (fun h36 => ?_)
        · refine z_aload_n Z 0 d_m_put_43 rfl rfl ?_
          refine mg_6 Z d_m_put_44 ?_
          refine z_iload_n Z 1 d_m_put_47 rfl rfl ?_
          refine ml_6 Z (by omega) d_m_put_48 ?_
          refine z_iconst Z (nI 4) d_m_put_49 zi_4 ?_
          refine z_eqi2 (y := nI (cnt σ c)) e6 ?_
          refine z_icmpN_ne Z 66 d_m_put_50 (by decide) (by omega) (by omega) (fun h50 => ?_) (fun h50 => ?_)
          · have hz : cnt σ c < 4 ∨ ∃ i, i < cnt σ c ∧ σ 4 (c * 4 + i) = k := Or.inl (by omega)
            refine z_iconst Z (nI 0) d_m_put_66 zi_0 ?_
            refine mp_0 Z d_m_put_67 ?_
            refine z_aload_n Z 0 d_m_put_70 rfl rfl ?_
            refine mn_0 Z d_m_put_71 ?_
            refine z_if_le Z 79 d_m_put_74 (by decide) (fun h74 => ?_) (fun hx => absurd hx (fun q => q (show (nI 0 : Int32) ≤ 0 from by decide)))
            refine z_aload_n Z 0 d_m_put_79 rfl rfl ?_
            refine z_iload_n Z 1 d_m_put_80 rfl rfl ?_
            refine z_iload_n Z 2 d_m_put_81 rfl rfl ?_
            refine z_Wi0 Z (c_m_entryOf (wf_th hw) hc) (ok_m_entryOf _) rfl rfl ⟨by decide, by decide⟩ rfl rfl rfl rfl (Nat.le_of_ble_eq_true rfl) d_m_put_82 ⟨by decide, by decide⟩ (fun E h => h.elim) (fun v82 h82 => ?_)
            refine z_istore Z 4 d_m_put_85 (by decide) rfl ?_
            refine z_iload Z 4 d_m_put_87 rfl ?_
            refine z_if_ge Z 96 d_m_put_89 (by decide) (fun h89 => ?_) (fun h89 => ?_)
            · obtain ⟨i, hi, rfl, ek, -⟩ := eoM_ge h82 h89
              have hi : i < cnt σ c := hi
              refine z_iconst Z (nI 0) d_m_put_96 zi_0 ?_
              refine z_istore Z 5 d_m_put_97 (by decide) rfl ?_
              refine z_iload Z 5 d_m_put_99 rfl ?_
              refine z_if_eq Z 117 d_m_put_101 (by decide) (fun h101 => ?_) (fun hx => absurd hx (fun q => q rfl))
              refine z_iload Z 4 d_m_put_117 rfl ?_
              refine z_istore Z 4 d_m_put_119 (by decide) rfl ?_
              refine z_aload_n Z 0 d_m_put_121 rfl rfl ?_
              refine mg_4 Z d_m_put_122 ?_
              refine z_iload Z 4 d_m_put_125 rfl ?_
              refine z_iload_n Z 2 d_m_put_127 rfl rfl ?_
              refine ms_4 Z (by omega) d_m_put_128 ?_
              refine z_aload_n Z 0 d_m_put_129 rfl rfl ?_
              refine mg_5 Z d_m_put_130 ?_
              refine z_iload Z 4 d_m_put_133 rfl ?_
              refine z_iload_n Z 3 d_m_put_135 rfl rfl ?_
              refine ms_5 Z (by omega) d_m_put_136 ?_
              refine z_aload_n Z 0 d_m_put_137 rfl rfl ?_
              refine mg_6 Z d_m_put_138 ?_
              refine z_iload_n Z 1 d_m_put_141 rfl rfl ?_
              refine z_dup2 Z d_m_put_142 ?_
              refine ml_6 Z (by omega) d_m_put_143 ?_
              refine z_eqi (y := nI (cnt σ c)) e6 ?_
              refine z_iload Z 5 d_m_put_144 rfl ?_
              refine z_if_eq Z 153 d_m_put_146 (by decide) (fun h146 => ?_) (fun hx => absurd hx (fun q => q rfl))
              refine z_iconst Z (nI 0) d_m_put_153 zi_0 ?_
              refine z_iaddN Z d_m_put_154 ?_
              refine ms_6 Z (by omega) d_m_put_155 ?_
              refine z_iload Z 5 d_m_put_156 rfl ?_
              refine z_ri Z _ hr rfl d_m_put_158 (by decide) (by decide) rfl ?_
              exact Or.inr ⟨⟨hx, hk, hv⟩, Or.inr ⟨c, hc, rfl, h36, Or.inr (Or.inl ⟨i, hi, ek, rfl, rfl⟩)⟩⟩
            · have hno : ∀ j, j < cnt σ c → σ 4 (c * 4 + j) ≠ k := eoM_lt h82 h89 (wf_cnt hw hc).1 hc
              have h4 : cnt σ c < 4 := hz.resolve_right (fun ⟨i, hi, e⟩ => hno i hi e)
              refine z_iconst Z (nI 1) d_m_put_92 zi_1 ?_
              refine z_goto Z 97 d_m_put_93 (by decide) ?_
              refine z_istore Z 5 d_m_put_97 (by decide) rfl ?_
              refine z_iload Z 5 d_m_put_99 rfl ?_
              refine z_if_eq Z 117 d_m_put_101 (by decide) (fun hx => absurd hx (show ¬ (nI 1 : Int32) = 0 from by decide)) (fun h101 => ?_)
              refine z_iconst Z (nI 4) d_m_put_104 zi_4 ?_
              refine z_iload_n Z 1 d_m_put_105 rfl rfl ?_
              refine z_imulN Z d_m_put_106 ?_
              refine z_aload_n Z 0 d_m_put_107 rfl rfl ?_
              refine mg_6 Z d_m_put_108 ?_
              refine z_iload_n Z 1 d_m_put_111 rfl rfl ?_
              refine ml_6 Z (by omega) d_m_put_112 ?_
              refine z_eqi (y := nI (cnt σ c)) e6 ?_
              refine z_iaddN Z d_m_put_113 ?_
              refine z_goto Z 119 d_m_put_114 (by decide) ?_
              refine z_eqi (y := nI (c * 4 + cnt σ c)) (by rw [Nat.mul_comm]) ?_
              refine z_istore Z 4 d_m_put_119 (by decide) rfl ?_
              refine z_aload_n Z 0 d_m_put_121 rfl rfl ?_
              refine mg_4 Z d_m_put_122 ?_
              refine z_iload Z 4 d_m_put_125 rfl ?_
              refine z_iload_n Z 2 d_m_put_127 rfl rfl ?_
              refine ms_4 Z (by omega) d_m_put_128 ?_
              refine z_aload_n Z 0 d_m_put_129 rfl rfl ?_
              refine mg_5 Z d_m_put_130 ?_
              refine z_iload Z 4 d_m_put_133 rfl ?_
              refine z_iload_n Z 3 d_m_put_135 rfl rfl ?_
              refine ms_5 Z (by omega) d_m_put_136 ?_
              refine z_aload_n Z 0 d_m_put_137 rfl rfl ?_
              refine mg_6 Z d_m_put_138 ?_
              refine z_iload_n Z 1 d_m_put_141 rfl rfl ?_
              refine z_dup2 Z d_m_put_142 ?_
              refine ml_6 Z (by omega) d_m_put_143 ?_
              refine z_eqi (y := nI (cnt σ c)) e6 ?_
              refine z_iload Z 5 d_m_put_144 rfl ?_
              refine z_if_eq Z 153 d_m_put_146 (by decide) (fun hx => absurd hx (show ¬ (nI 1 : Int32) = 0 from by decide)) (fun h146 => ?_)
              refine z_iconst Z (nI 1) d_m_put_149 zi_1 ?_
              refine z_goto Z 154 d_m_put_150 (by decide) ?_
              refine z_iaddN Z d_m_put_154 ?_
              refine ms_6 Z (by omega) d_m_put_155 ?_
              refine z_iload Z 5 d_m_put_156 rfl ?_
              refine z_ri Z _ hr rfl d_m_put_158 (by decide) (by decide) rfl ?_
              exact Or.inr ⟨⟨hx, hk, hv⟩, Or.inr ⟨c, hc, rfl, h36, Or.inr (Or.inr ⟨hno, h4, rfl, rfl⟩)⟩⟩
          · refine z_aload_n Z 0 d_m_put_53 rfl rfl ?_
            refine z_iload_n Z 1 d_m_put_54 rfl rfl ?_
            refine z_iload_n Z 2 d_m_put_55 rfl rfl ?_
            refine z_Wi0 Z (c_m_entryOf hw hc) (ok_m_entryOf _) rfl rfl ⟨by decide, by decide⟩ rfl rfl rfl rfl (Nat.le_of_ble_eq_true rfl) d_m_put_56 ⟨by decide, by decide⟩ (fun E h => h.elim) (fun v56 h56 => ?_)
            refine z_if_ge Z 66 d_m_put_59 (by decide) (fun h59 => ?_) (fun h59 => ?_)
            · have hz : cnt σ c < 4 ∨ ∃ i, i < cnt σ c ∧ σ 4 (c * 4 + i) = k := by obtain ⟨i, hi, -, e, -⟩ := eoM_ge h56 h59; exact Or.inr ⟨i, hi, e⟩
              refine z_iconst Z (nI 0) d_m_put_66 zi_0 ?_
              refine mp_0 Z d_m_put_67 ?_
              refine z_aload_n Z 0 d_m_put_70 rfl rfl ?_
              refine mn_0 Z d_m_put_71 ?_
              refine z_if_le Z 79 d_m_put_74 (by decide) (fun h74 => ?_) (fun hx => absurd hx (fun q => q (show (nI 0 : Int32) ≤ 0 from by decide)))
              refine z_aload_n Z 0 d_m_put_79 rfl rfl ?_
              refine z_iload_n Z 1 d_m_put_80 rfl rfl ?_
              refine z_iload_n Z 2 d_m_put_81 rfl rfl ?_
              refine z_Wi0 Z (c_m_entryOf (wf_th hw) hc) (ok_m_entryOf _) rfl rfl ⟨by decide, by decide⟩ rfl rfl rfl rfl (Nat.le_of_ble_eq_true rfl) d_m_put_82 ⟨by decide, by decide⟩ (fun E h => h.elim) (fun v82 h82 => ?_)
              refine z_istore Z 4 d_m_put_85 (by decide) rfl ?_
              refine z_iload Z 4 d_m_put_87 rfl ?_
              refine z_if_ge Z 96 d_m_put_89 (by decide) (fun h89 => ?_) (fun h89 => ?_)
              · obtain ⟨i, hi, rfl, ek, -⟩ := eoM_ge h82 h89
                have hi : i < cnt σ c := hi
                refine z_iconst Z (nI 0) d_m_put_96 zi_0 ?_
                refine z_istore Z 5 d_m_put_97 (by decide) rfl ?_
                refine z_iload Z 5 d_m_put_99 rfl ?_
                refine z_if_eq Z 117 d_m_put_101 (by decide) (fun h101 => ?_) (fun hx => absurd hx (fun q => q rfl))
                refine z_iload Z 4 d_m_put_117 rfl ?_
                refine z_istore Z 4 d_m_put_119 (by decide) rfl ?_
                refine z_aload_n Z 0 d_m_put_121 rfl rfl ?_
                refine mg_4 Z d_m_put_122 ?_
                refine z_iload Z 4 d_m_put_125 rfl ?_
                refine z_iload_n Z 2 d_m_put_127 rfl rfl ?_
                refine ms_4 Z (by omega) d_m_put_128 ?_
                refine z_aload_n Z 0 d_m_put_129 rfl rfl ?_
                refine mg_5 Z d_m_put_130 ?_
                refine z_iload Z 4 d_m_put_133 rfl ?_
                refine z_iload_n Z 3 d_m_put_135 rfl rfl ?_
                refine ms_5 Z (by omega) d_m_put_136 ?_
                refine z_aload_n Z 0 d_m_put_137 rfl rfl ?_
                refine mg_6 Z d_m_put_138 ?_
                refine z_iload_n Z 1 d_m_put_141 rfl rfl ?_
                refine z_dup2 Z d_m_put_142 ?_
                refine ml_6 Z (by omega) d_m_put_143 ?_
                refine z_eqi (y := nI (cnt σ c)) e6 ?_
                refine z_iload Z 5 d_m_put_144 rfl ?_
                refine z_if_eq Z 153 d_m_put_146 (by decide) (fun h146 => ?_) (fun hx => absurd hx (fun q => q rfl))
                refine z_iconst Z (nI 0) d_m_put_153 zi_0 ?_
                refine z_iaddN Z d_m_put_154 ?_
                refine ms_6 Z (by omega) d_m_put_155 ?_
                refine z_iload Z 5 d_m_put_156 rfl ?_
                refine z_ri Z _ hr rfl d_m_put_158 (by decide) (by decide) rfl ?_
                exact Or.inr ⟨⟨hx, hk, hv⟩, Or.inr ⟨c, hc, rfl, h36, Or.inr (Or.inl ⟨i, hi, ek, rfl, rfl⟩)⟩⟩
              · have hno : ∀ j, j < cnt σ c → σ 4 (c * 4 + j) ≠ k := eoM_lt h82 h89 (wf_cnt hw hc).1 hc
                have h4 : cnt σ c < 4 := hz.resolve_right (fun ⟨i, hi, e⟩ => hno i hi e)
                refine z_iconst Z (nI 1) d_m_put_92 zi_1 ?_
                refine z_goto Z 97 d_m_put_93 (by decide) ?_
                refine z_istore Z 5 d_m_put_97 (by decide) rfl ?_
                refine z_iload Z 5 d_m_put_99 rfl ?_
                refine z_if_eq Z 117 d_m_put_101 (by decide) (fun hx => absurd hx (show ¬ (nI 1 : Int32) = 0 from by decide)) (fun h101 => ?_)
                refine z_iconst Z (nI 4) d_m_put_104 zi_4 ?_
                refine z_iload_n Z 1 d_m_put_105 rfl rfl ?_
                refine z_imulN Z d_m_put_106 ?_
                refine z_aload_n Z 0 d_m_put_107 rfl rfl ?_
                refine mg_6 Z d_m_put_108 ?_
                refine z_iload_n Z 1 d_m_put_111 rfl rfl ?_
                refine ml_6 Z (by omega) d_m_put_112 ?_
                refine z_eqi (y := nI (cnt σ c)) e6 ?_
                refine z_iaddN Z d_m_put_113 ?_
                refine z_goto Z 119 d_m_put_114 (by decide) ?_
                refine z_eqi (y := nI (c * 4 + cnt σ c)) (by rw [Nat.mul_comm]) ?_
                refine z_istore Z 4 d_m_put_119 (by decide) rfl ?_
                refine z_aload_n Z 0 d_m_put_121 rfl rfl ?_
                refine mg_4 Z d_m_put_122 ?_
                refine z_iload Z 4 d_m_put_125 rfl ?_
                refine z_iload_n Z 2 d_m_put_127 rfl rfl ?_
                refine ms_4 Z (by omega) d_m_put_128 ?_
                refine z_aload_n Z 0 d_m_put_129 rfl rfl ?_
                refine mg_5 Z d_m_put_130 ?_
                refine z_iload Z 4 d_m_put_133 rfl ?_
                refine z_iload_n Z 3 d_m_put_135 rfl rfl ?_
                refine ms_5 Z (by omega) d_m_put_136 ?_
                refine z_aload_n Z 0 d_m_put_137 rfl rfl ?_
                refine mg_6 Z d_m_put_138 ?_
                refine z_iload_n Z 1 d_m_put_141 rfl rfl ?_
                refine z_dup2 Z d_m_put_142 ?_
                refine ml_6 Z (by omega) d_m_put_143 ?_
                refine z_eqi (y := nI (cnt σ c)) e6 ?_
                refine z_iload Z 5 d_m_put_144 rfl ?_
                refine z_if_eq Z 153 d_m_put_146 (by decide) (fun hx => absurd hx (show ¬ (nI 1 : Int32) = 0 from by decide)) (fun h146 => ?_)
                refine z_iconst Z (nI 1) d_m_put_149 zi_1 ?_
                refine z_goto Z 154 d_m_put_150 (by decide) ?_
                refine z_iaddN Z d_m_put_154 ?_
                refine ms_6 Z (by omega) d_m_put_155 ?_
                refine z_iload Z 5 d_m_put_156 rfl ?_
                refine z_ri Z _ hr rfl d_m_put_158 (by decide) (by decide) rfl ?_
                exact Or.inr ⟨⟨hx, hk, hv⟩, Or.inr ⟨c, hc, rfl, h36, Or.inr (Or.inr ⟨hno, h4, rfl, rfl⟩)⟩⟩
            · refine z_iconst Z (nI 3) d_m_put_62 zi_3 ?_
              refine z_goto Z 67 d_m_put_63 (by decide) ?_
              refine mp_0 Z d_m_put_67 ?_
              refine z_aload_n Z 0 d_m_put_70 rfl rfl ?_
              refine mn_0 Z d_m_put_71 ?_
              refine z_if_le Z 79 d_m_put_74 (by decide) (fun hx => absurd hx (show ¬ (nI 3 : Int32) ≤ 0 from by decide)) (fun h74 => ?_)
              refine z_iconst Z (nI 0) d_m_put_77 zi_0 ?_
              refine z_ri Z _ hr rfl d_m_put_78 (by decide) (by decide) rfl ?_
              exact Or.inr ⟨⟨hx, hk, hv⟩, Or.inr ⟨c, hc, rfl, h36, Or.inl ⟨h50, eoM_lt h56 h59 n6 hc, rfl⟩⟩⟩
        · refine z_iconst Z (nI 2) d_m_put_39 zi_2 ?_
          refine z_goto Z 67 d_m_put_40 (by decide) ?_
          refine mp_0 Z d_m_put_67 ?_
          refine z_aload_n Z 0 d_m_put_70 rfl rfl ?_
          refine mn_0 Z d_m_put_71 ?_
          refine z_if_le Z 79 d_m_put_74 (by decide) (fun hx => absurd hx (show ¬ (nI 2 : Int32) ≤ 0 from by decide)) (fun h74 => ?_)
          refine z_iconst Z (nI 0) d_m_put_77 zi_0 ?_
          refine z_ri Z _ hr rfl d_m_put_78 (by decide) (by decide) rfl ?_
          exact Or.inr ⟨⟨hx, hk, hv⟩, Or.inl ⟨fun q => h36 ((isTab_nI hc).mp q), rfl⟩⟩
      · refine z_iconst Z (nI 1) d_m_put_25 zi_1 ?_
        refine z_goto Z 67 d_m_put_26 (by decide) ?_
        refine mp_0 Z d_m_put_67 ?_
        refine z_aload_n Z 0 d_m_put_70 rfl rfl ?_
        refine mn_0 Z d_m_put_71 ?_
        refine z_if_le Z 79 d_m_put_74 (by decide) (fun hx => absurd hx (show ¬ (nI 1 : Int32) ≤ 0 from by decide)) (fun h74 => ?_)
        refine z_iconst Z (nI 0) d_m_put_77 zi_0 ?_
        refine z_ri Z _ hr rfl d_m_put_78 (by decide) (by decide) rfl ?_
        exact Or.inl ⟨fun q => zB0 h19 h22 q.2.2, rfl⟩
set_option maxHeartbeats 4000000 in
set_option maxRecDepth 100000 in
theorem c_m_run {l : Launch} {D : va_G} {cI cB cL : ClassId} {h : Nat → Nat} {σ : St} (hw : wf σ) (h8 : ∀ c, c < 24 → ∃ a, a < 4 ∧ σ 8 c = nI a) {w : Nat} (hw24 : w ≤ 24) (ew : σ 0 1 = nI w) : zMet l y_m_run w_m_run rm_m_run D zCl (zTy cI cB cL) (wm h cI cB σ) [.ref (h 0)] (qi (wm h cI cB) (fun v u => (w = 0 ∧ u = th σ 1) ∨ ∃ w0 c a, w = w0 + 1 ∧ c < 24 ∧ σ 11 0 = nI c ∧ a < 4 ∧ σ 8 c = nI a ∧ v = nI c ∧ u = act (va_up (deq (th σ 0) w0) 7 (upd (σ 7) c (nI 3))) c a) noXs) 0 0 0 0 := by
  refine z_meth (by decide) rfl (Nat.le_of_ble_eq_true rfl) (fun p e s mm as bl me cd Z hr hnm ht => ?_)
  refine z_aload_n Z 0 d_m_run_0 rfl rfl ?_
  refine z_aload_n Z 0 d_m_run_1 rfl rfl ?_
  refine mn_1 Z d_m_run_2 ?_
  refine z_eqi ew ?_
  refine z_if_ne Z 12 d_m_run_5 (by decide) (fun h5 => ?_) (fun h5 => ?_)
  · obtain ⟨w0, rfl⟩ : ∃ w0, w = w0 + 1 := ⟨w - 1, by rcases Nat.eq_zero_or_pos w with q | q; exact absurd (by rw [q]; rfl) h5; omega⟩
    obtain ⟨c, hc, ec⟩ := hw.2.2.2.2.2.2.1 0 (by decide)
    obtain ⟨a, ha, ea⟩ := h8 c hc
    obtain ⟨t, ht6, et⟩ := hw.2.2.2.2.1 c hc
    have ect : (σ 9 c).toNatClampNeg = t := by rw [et, nI_clamp (by omega)]
    refine z_iconst Z (nI 0) d_m_run_12 zi_0 ?_
    refine mp_0 Z d_m_run_13 ?_
    refine z_aload_n Z 0 d_m_run_16 rfl rfl ?_
    refine mn_0 Z d_m_run_17 ?_
    refine z_if_le Z 25 d_m_run_20 (by decide) (fun h20 => ?_) (fun hx => absurd hx (fun q => q (show (nI 0 : Int32) ≤ 0 from by decide)))
    refine z_aload_n Z 0 d_m_run_25 rfl rfl ?_
    refine mg_11 Z d_m_run_26 ?_
    refine z_iconst Z (nI 0) d_m_run_29 zi_0 ?_
    refine ml_11 Z (by omega) d_m_run_30 ?_
    refine z_eqi (y := nI c) ec ?_
    refine z_istore_n Z 1 d_m_run_31 rfl (by decide) rfl ?_
    refine z_aload_n Z 0 d_m_run_32 rfl rfl ?_
    refine z_dup Z d_m_run_33 ?_
    refine mn_1 Z d_m_run_34 ?_
    refine z_eqi (y := nI (w0 + 1)) ew ?_
    refine z_iconst Z (nI 1) d_m_run_37 zi_1 ?_
    refine z_isubN Z d_m_run_38 (by omega) ?_
    refine mp_1 Z d_m_run_39 ?_
    refine z_iconst Z (nI 0) d_m_run_42 zi_0 ?_
    refine z_istore_n Z 2 d_m_run_43 rfl (by decide) rfl ?_
    refine z_lv (lv' := [(0, .ref (h 0)), (1, .int (nI c)), (2, .int (nI 0))]) rfl ?_
    refine z_ws (ws' := wm h cI cB (deqN (th σ 0) w0 0)) rfl ?_
    refine z_loop (fun i : Nat => i ≤ w0) (fun i : Nat => w0 - i) (fun i : Nat => wm h cI cB (deqN (th σ 0) w0 i)) (fun i : Nat => [(0, .ref (h 0)), (1, .int (nI c)), (2, .int (nI i))]) (fun i hi ih => ?_) 0 (by omega)
    refine z_iload_n Z 2 d_m_run_44 rfl rfl ?_
    refine z_aload_n Z 0 d_m_run_45 rfl rfl ?_
    refine mn_1 Z d_m_run_46 ?_
    refine z_eqi (y := nI w0) rfl ?_
    refine z_icmpN_ge Z 72 d_m_run_49 (by decide) (by omega) (by omega) (fun h49 => ?_) (fun h49 => ?_)
    · obtain rfl : i = w0 := by omega
      refine z_aload_n Z 0 d_m_run_72 rfl rfl ?_
      refine mg_7 Z d_m_run_73 ?_
      refine z_iload_n Z 1 d_m_run_76 rfl rfl ?_
      refine z_iconst Z (nI 3) d_m_run_77 zi_3 ?_
      refine ms_7 Z (by omega) d_m_run_78 ?_
      rcases (show a = 0 ∨ a = 1 ∨ a = 2 ∨ a = 3 by omega) with rfl | rfl | rfl | rfl
      · refine z_aload_n Z 0 d_m_run_79 rfl rfl ?_
        refine mg_8 Z d_m_run_80 ?_
        refine z_iload_n Z 1 d_m_run_83 rfl rfl ?_
        refine ml_8 Z (by omega) d_m_run_84 ?_
        refine z_iconst Z (nI 1) d_m_run_85 zi_1 ?_
        refine z_eqi2 (y := nI 0) ea ?_
        refine z_icmpN_ne Z 101 d_m_run_86 (by decide) (by omega) (by omega) (fun h86 => ?_) (fun hx => absurd hx (by omega))
        refine z_aload_n Z 0 d_m_run_101 rfl rfl ?_
        refine mg_8 Z d_m_run_102 ?_
        refine z_iload_n Z 1 d_m_run_105 rfl rfl ?_
        refine ml_8 Z (by omega) d_m_run_106 ?_
        refine z_iconst Z (nI 2) d_m_run_107 zi_2 ?_
        refine z_eqi2 (y := nI 0) ea ?_
        refine z_icmpN_ne Z 139 d_m_run_108 (by decide) (by omega) (by omega) (fun h108 => ?_) (fun hx => absurd hx (by omega))
        refine z_aload_n Z 0 d_m_run_139 rfl rfl ?_
        refine mg_8 Z d_m_run_140 ?_
        refine z_iload_n Z 1 d_m_run_143 rfl rfl ?_
        refine ml_8 Z (by omega) d_m_run_144 ?_
        refine z_iconst Z (nI 3) d_m_run_145 zi_3 ?_
        refine z_eqi2 (y := nI 0) ea ?_
        refine z_icmpN_ne Z 154 d_m_run_146 (by decide) (by omega) (by omega) (fun h146 => ?_) (fun hx => absurd hx (by omega))
        refine z_iload_n Z 1 d_m_run_154 rfl rfl ?_
        refine z_ri Z _ hr rfl d_m_run_155 (by decide) (by decide) rfl ?_
        exact Or.inr ⟨_, c, 0, rfl, hc, ec, by decide, ea, rfl, rfl⟩
      · refine z_aload_n Z 0 d_m_run_79 rfl rfl ?_
        refine mg_8 Z d_m_run_80 ?_
        refine z_iload_n Z 1 d_m_run_83 rfl rfl ?_
        refine ml_8 Z (by omega) d_m_run_84 ?_
        refine z_iconst Z (nI 1) d_m_run_85 zi_1 ?_
        refine z_eqi2 (y := nI 1) ea ?_
        refine z_icmpN_ne Z 101 d_m_run_86 (by decide) (by omega) (by omega) (fun hx => absurd hx (by omega)) (fun h86 => ?_)
        refine z_aload_n Z 0 d_m_run_89 rfl rfl ?_
        refine mg_10 Z d_m_run_90 ?_
        refine z_aload_n Z 0 d_m_run_93 rfl rfl ?_
        refine mg_9 Z d_m_run_94 ?_
        refine z_iload_n Z 1 d_m_run_97 rfl rfl ?_
        refine ml_9 Z (by omega) d_m_run_98 ?_
        refine z_eqi (y := nI t) et ?_
        refine z_iload_n Z 1 d_m_run_99 rfl rfl ?_
        refine ms_10 Z (by omega) d_m_run_100 ?_
        refine z_aload_n Z 0 d_m_run_101 rfl rfl ?_
        refine mg_8 Z d_m_run_102 ?_
        refine z_iload_n Z 1 d_m_run_105 rfl rfl ?_
        refine ml_8 Z (by omega) d_m_run_106 ?_
        refine z_iconst Z (nI 2) d_m_run_107 zi_2 ?_
        refine z_eqi2 (y := nI 1) ea ?_
        refine z_icmpN_ne Z 139 d_m_run_108 (by decide) (by omega) (by omega) (fun h108 => ?_) (fun hx => absurd hx (by omega))
        refine z_aload_n Z 0 d_m_run_139 rfl rfl ?_
        refine mg_8 Z d_m_run_140 ?_
        refine z_iload_n Z 1 d_m_run_143 rfl rfl ?_
        refine ml_8 Z (by omega) d_m_run_144 ?_
        refine z_iconst Z (nI 3) d_m_run_145 zi_3 ?_
        refine z_eqi2 (y := nI 1) ea ?_
        refine z_icmpN_ne Z 154 d_m_run_146 (by decide) (by omega) (by omega) (fun h146 => ?_) (fun hx => absurd hx (by omega))
        refine z_iload_n Z 1 d_m_run_154 rfl rfl ?_
        refine z_ri Z _ hr rfl d_m_run_155 (by decide) (by decide) rfl ?_
        exact Or.inr ⟨_, c, 1, rfl, hc, ec, by decide, ea, rfl, (by show _ = va_up _ 10 (upd (σ 10) (σ 9 c).toNatClampNeg (nI c)); rw [ect]; rfl)⟩
      · refine z_aload_n Z 0 d_m_run_79 rfl rfl ?_
        refine mg_8 Z d_m_run_80 ?_
        refine z_iload_n Z 1 d_m_run_83 rfl rfl ?_
        refine ml_8 Z (by omega) d_m_run_84 ?_
        refine z_iconst Z (nI 1) d_m_run_85 zi_1 ?_
        refine z_eqi2 (y := nI 2) ea ?_
        refine z_icmpN_ne Z 101 d_m_run_86 (by decide) (by omega) (by omega) (fun h86 => ?_) (fun hx => absurd hx (by omega))
        refine z_aload_n Z 0 d_m_run_101 rfl rfl ?_
        refine mg_8 Z d_m_run_102 ?_
        refine z_iload_n Z 1 d_m_run_105 rfl rfl ?_
        refine ml_8 Z (by omega) d_m_run_106 ?_
        refine z_iconst Z (nI 2) d_m_run_107 zi_2 ?_
        refine z_eqi2 (y := nI 2) ea ?_
        refine z_icmpN_ne Z 139 d_m_run_108 (by decide) (by omega) (by omega) (fun hx => absurd hx (by omega)) (fun h108 => ?_)
        refine z_aload_n Z 0 d_m_run_111 rfl rfl ?_
        refine mg_1 Z d_m_run_112 ?_
        refine z_iload_n Z 1 d_m_run_115 rfl rfl ?_
        refine ml_1 Z (by omega) d_m_run_116 ?_
        refine z_if_ne Z 139 d_m_run_117 (by decide) (fun h117 => ?_) (fun h117 => ?_)
        · refine z_aload_n Z 0 d_m_run_139 rfl rfl ?_
          refine mg_8 Z d_m_run_140 ?_
          refine z_iload_n Z 1 d_m_run_143 rfl rfl ?_
          refine ml_8 Z (by omega) d_m_run_144 ?_
          refine z_iconst Z (nI 3) d_m_run_145 zi_3 ?_
          refine z_eqi2 (y := nI 2) ea ?_
          refine z_icmpN_ne Z 154 d_m_run_146 (by decide) (by omega) (by omega) (fun h146 => ?_) (fun hx => absurd hx (by omega))
          refine z_iload_n Z 1 d_m_run_154 rfl rfl ?_
          refine z_ri Z _ hr rfl d_m_run_155 (by decide) (by decide) rfl ?_
          exact Or.inr ⟨_, c, 2, rfl, hc, ec, by decide, ea, rfl, (if_neg h117).symm⟩
        · refine z_aload_n Z 0 d_m_run_120 rfl rfl ?_
          refine mg_10 Z d_m_run_121 ?_
          refine z_aload_n Z 0 d_m_run_124 rfl rfl ?_
          refine mg_9 Z d_m_run_125 ?_
          refine z_iload_n Z 1 d_m_run_128 rfl rfl ?_
          refine ml_9 Z (by omega) d_m_run_129 ?_
          refine z_eqi (y := nI t) et ?_
          refine z_aload_n Z 0 d_m_run_130 rfl rfl ?_
          refine mg_3 Z d_m_run_131 ?_
          refine z_iconst Z (nI 3) d_m_run_134 zi_3 ?_
          refine z_iload_n Z 1 d_m_run_135 rfl rfl ?_
          refine z_imulN Z d_m_run_136 ?_
          refine z_eqi (y := nI (c * 3 + 0)) (congrArg nI (Nat.mul_comm 3 c)) ?_
          refine ml_3 Z (by omega) d_m_run_137 ?_
          refine ms_10 Z (by omega) d_m_run_138 ?_
          refine z_aload_n Z 0 d_m_run_139 rfl rfl ?_
          refine mg_8 Z d_m_run_140 ?_
          refine z_iload_n Z 1 d_m_run_143 rfl rfl ?_
          refine ml_8 Z (by omega) d_m_run_144 ?_
          refine z_iconst Z (nI 3) d_m_run_145 zi_3 ?_
          refine z_eqi2 (y := nI 2) ea ?_
          refine z_icmpN_ne Z 154 d_m_run_146 (by decide) (by omega) (by omega) (fun h146 => ?_) (fun hx => absurd hx (by omega))
          refine z_iload_n Z 1 d_m_run_154 rfl rfl ?_
          refine z_ri Z _ hr rfl d_m_run_155 (by decide) (by decide) rfl ?_
          exact Or.inr ⟨_, c, 2, rfl, hc, ec, by decide, ea, rfl, (by refine Eq.trans ?_ (if_pos h117).symm; show _ = va_up _ 10 (upd (σ 10) (σ 9 c).toNatClampNeg (σ 3 (c * 3 + 0))); rw [ect]; rfl)⟩
      · refine z_aload_n Z 0 d_m_run_79 rfl rfl ?_
        refine mg_8 Z d_m_run_80 ?_
        refine z_iload_n Z 1 d_m_run_83 rfl rfl ?_
        refine ml_8 Z (by omega) d_m_run_84 ?_
        refine z_iconst Z (nI 1) d_m_run_85 zi_1 ?_
        refine z_eqi2 (y := nI 3) ea ?_
        refine z_icmpN_ne Z 101 d_m_run_86 (by decide) (by omega) (by omega) (fun h86 => ?_) (fun hx => absurd hx (by omega))
        refine z_aload_n Z 0 d_m_run_101 rfl rfl ?_
        refine mg_8 Z d_m_run_102 ?_
        refine z_iload_n Z 1 d_m_run_105 rfl rfl ?_
        refine ml_8 Z (by omega) d_m_run_106 ?_
        refine z_iconst Z (nI 2) d_m_run_107 zi_2 ?_
        refine z_eqi2 (y := nI 3) ea ?_
        refine z_icmpN_ne Z 139 d_m_run_108 (by decide) (by omega) (by omega) (fun h108 => ?_) (fun hx => absurd hx (by omega))
        refine z_aload_n Z 0 d_m_run_139 rfl rfl ?_
        refine mg_8 Z d_m_run_140 ?_
        refine z_iload_n Z 1 d_m_run_143 rfl rfl ?_
        refine ml_8 Z (by omega) d_m_run_144 ?_
        refine z_iconst Z (nI 3) d_m_run_145 zi_3 ?_
        refine z_eqi2 (y := nI 3) ea ?_
        refine z_icmpN_ne Z 154 d_m_run_146 (by decide) (by omega) (by omega) (fun hx => absurd hx (by omega)) (fun h146 => ?_)
        refine z_aload_n Z 0 d_m_run_149 rfl rfl ?_
        refine z_iload_n Z 1 d_m_run_150 rfl rfl ?_
        refine z_Wv Z (c_m_lose hc) (ok_m_lose _) rfl rfl ⟨by decide, by decide⟩ rfl rfl rfl rfl (Nat.le_of_ble_eq_true rfl) d_m_run_151 ⟨by decide, by decide⟩ (fun E u h => h.elim) (fun u151 h151 => ?_)
        subst h151
        refine z_iload_n Z 1 d_m_run_154 rfl rfl ?_
        refine z_ri Z _ hr rfl d_m_run_155 (by decide) (by decide) rfl ?_
        exact Or.inr ⟨_, c, 3, rfl, hc, ec, by decide, ea, rfl, rfl⟩
    · refine z_aload_n Z 0 d_m_run_52 rfl rfl ?_
      refine mg_11 Z d_m_run_53 ?_
      refine z_iload_n Z 2 d_m_run_56 rfl rfl ?_
      refine z_aload_n Z 0 d_m_run_57 rfl rfl ?_
      refine mg_11 Z d_m_run_58 ?_
      refine z_iload_n Z 2 d_m_run_61 rfl rfl ?_
      refine z_iconst Z (nI 1) d_m_run_62 zi_1 ?_
      refine z_iaddN Z d_m_run_63 ?_
      refine ml_11 Z (by omega) d_m_run_64 ?_
      refine ms_11 Z (by omega) d_m_run_65 ?_
      refine z_iincN Z 2 d_m_run_66 rfl (by decide) rfl ?_
      refine z_goto Z 44 d_m_run_69 (by decide) ?_
      refine z_ws (ws' := wm h cI cB (deqN (th σ 0) w0 (i + 1))) (by rw [← deqN_s]; rfl) ?_
      exact z_lv rfl (ih (i + 1) (by omega) (by omega))
  · refine z_iconst Z (nI 1) d_m_run_8 zi_1 ?_
    refine z_goto Z 13 d_m_run_9 (by decide) ?_
    refine mp_0 Z d_m_run_13 ?_
    refine z_aload_n Z 0 d_m_run_16 rfl rfl ?_
    refine mn_0 Z d_m_run_17 ?_
    refine z_if_le Z 25 d_m_run_20 (by decide) (fun hx => absurd hx (show ¬ (nI 1 : Int32) ≤ 0 from by decide)) (fun h20 => ?_)
    refine z_iconst Z (nI 0) d_m_run_23 zi_0 ?_
    refine z_ri Z _ hr rfl d_m_run_24 (by decide) (by decide) rfl ?_
    exact Or.inl ⟨nI_z hw24 h5, rfl⟩
set_option maxHeartbeats 4000000 in
set_option maxRecDepth 100000 in
theorem c_m_gather {l : Launch} {D : va_G} {cI cB cL : ClassId} {h : Nat → Nat} {σ : St} (hw : wf σ) (hq : qI σ) : zMet l y_m_gather w_m_gather rm_m_gather D zCl (zTy cI cB cL) (wm h cI cB σ) [.ref (h 0)] (qi (wm h cI cB) (fun v u => gatM σ v u) noXs) 0 0 0 0 := by
  refine z_meth (by decide) rfl (Nat.le_of_ble_eq_true rfl) (fun p e s mm as bl me cd Z hr hnm ht => ?_)
  refine z_aload_n Z 0 d_m_gather_0 rfl rfl ?_
  refine z_dup Z d_m_gather_1 ?_
  refine mn_3 Z d_m_gather_2 ?_
  refine z_iconst Z (nI 1) d_m_gather_5 zi_1 ?_
  refine z_iadd Z d_m_gather_6 ?_
  refine mp_3 Z d_m_gather_7 ?_
  refine z_iconst Z (nI 0) d_m_gather_10 zi_0 ?_
  refine z_istore_n Z 1 d_m_gather_11 rfl (by decide) rfl ?_
  refine z_lv (lv' := [(0, .ref (h 0)), (1, .int (nI 0))]) rfl ?_
  refine z_ws (ws' := wm h cI cB (va_up (col1 σ) 12 (clG (σ 12) 0))) rfl ?_
  refine z_loop (fun i : Nat => i ≤ 24) (fun i : Nat => 24 - i) (fun i : Nat => wm h cI cB (va_up (col1 σ) 12 (clG (σ 12) i))) (fun i : Nat => [(0, .ref (h 0)), (1, .int (nI i))]) (fun i hi ih => ?_) 0 (by omega)
  refine z_iload_n Z 1 d_m_gather_12 rfl rfl ?_
  refine z_bipush Z (nI 24) d_m_gather_13 zb_24 ?_
  refine z_icmpN_ge Z 31 d_m_gather_15 (by decide) (by omega) (by omega) (fun h15 => ?_) (fun h15 => ?_)
  · obtain rfl : i = 24 := by omega
    refine z_iconst Z (nI 0) d_m_gather_31 zi_0 ?_
    refine z_istore_n Z 1 d_m_gather_32 rfl (by decide) rfl ?_
    refine z_lv (lv' := [(0, .ref (h 0)), (1, .int (nI 0))]) rfl ?_
    refine z_loop (fun q : Nat × (Nat → Int32) => q.1 ≤ 6 ∧ gOk q.2 ∧ ∀ c, c < 24 → (q.2 c = nI 1 ↔ (False ∨ ∃ r, r < q.1 ∧ (col1 σ) 10 r = nI c))) (fun q : Nat × (Nat → Int32) => 6 - q.1) (fun q : Nat × (Nat → Int32) => wm h cI cB (va_up (col1 σ) 12 q.2)) (fun q : Nat × (Nat → Int32) => [(0, .ref (h 0)), (1, .int (nI q.1))]) (fun q hi ih => ?_) (0, clG (σ 12) 24) ⟨by omega, fun c hc => Or.inl (clG_0 _ hc), fun c hc => ⟨fun q => absurd ((clG_0 _ hc).symm.trans q) (by decide), fun q => by rcases q with q | ⟨r, hr, -⟩; exact q.elim; exact absurd hr (Nat.not_lt_zero _)⟩⟩
    obtain ⟨i, g⟩ := q
    dsimp only at hi ih ⊢
    refine z_iload_n Z 1 d_m_gather_33 rfl rfl ?_
    refine z_bipush Z (nI 6) d_m_gather_34 zb_6 ?_
    refine z_icmpN_ge Z 56 d_m_gather_36 (by decide) (by omega) (by omega) (fun h36 => ?_) (fun h36 => ?_)
    · obtain rfl : i = 6 := by omega
      have hR := hi.2.2
      refine z_aload_n Z 0 d_m_gather_56 rfl rfl ?_
      refine z_Wv Z (c_m_close (σ := col1 σ) (wf_0 hw) (g := g) hi.2.1) (ok_m_close _) rfl rfl ⟨by decide, by decide⟩ rfl rfl rfl rfl (Nat.le_of_ble_eq_true rfl) d_m_gather_57 ⟨by decide, by decide⟩ (fun E u h => h.elim) (fun u57 h57 => ?_)
      refine z_aload_n Z 0 d_m_gather_60 rfl rfl ?_
      refine z_Wv Z (c_m_forget (σ := va_up (col1 σ) 12 u57) (wf_12 (wf_0 hw)) h57.1) (ok_m_forget _) rfl rfl ⟨by decide, by decide⟩ rfl rfl rfl rfl (Nat.le_of_ble_eq_true rfl) d_m_gather_61 ⟨by decide, by decide⟩ (fun E u h => h.elim) (fun u61 h61 => ?_)
      have e12 : u61 12 = u57 := fgo_12 h61
      have hw2 : wf u61 := fgo_wf h61
      have hq2 : qI u61 := qI_fgo h61 (qI_12 (qI_col hq))
      refine z_iconst Z (nI 0) d_m_gather_64 zi_0 ?_
      refine z_istore_n Z 1 d_m_gather_65 rfl (by decide) rfl ?_
      refine z_lv (lv' := [(0, .ref (h 0)), (1, .int (nI 0))]) rfl ?_
      refine z_ws (ws' := wm h cI cB (qst u61 (qM u61 u57) 0)) rfl ?_
      refine z_loop (fun i : Nat => i ≤ 24) (fun i : Nat => 24 - i) (fun i : Nat => wm h cI cB (qst u61 (qM u61 u57) i)) (fun i : Nat => [(0, .ref (h 0)), (1, .int (nI i))]) (fun i hi ih => ?_) 0 (by omega)
      obtain ⟨hwi, hqi⟩ := qst_ok hw2 hq2 (qM u61 u57) hi
      have s1 : (qst u61 (qM u61 u57) i) 1 = u61 1 := qst_k _ _ _ (by decide) (by decide) (by decide)
      have s12 : (qst u61 (qM u61 u57) i) 12 = u57 := (qst_k _ _ _ (by decide) (by decide) (by decide)).trans e12
      refine z_iload_n Z 1 d_m_gather_66 rfl rfl ?_
      refine z_bipush Z (nI 24) d_m_gather_67 zb_24 ?_
      refine z_icmpN_ge Z 133 d_m_gather_69 (by decide) (by omega) (by omega) (fun h69 => ?_) (fun h69 => ?_)
      · obtain rfl : i = 24 := by omega
        obtain ⟨w, hw24, ew, -, -⟩ := id hqi
        refine z_iconst Z (nI 0) d_m_gather_133 zi_0 ?_
        refine z_istore_n Z 1 d_m_gather_134 rfl (by decide) rfl ?_
        refine z_lv (lv' := [(0, .ref (h 0)), (1, .int (nI 0))]) rfl ?_
        refine z_ws (ws' := wm h cI cB (va_up (qst u61 (qM u61 u57) 24) 12 u57)) (congrArg (wm h cI cB) (up_eq s12).symm) ?_
        refine z_loop (fun q : Nat × (Nat → Int32) => q.1 ≤ w ∧ gOk q.2 ∧ ∀ c, c < 24 → (q.2 c = nI 1 ↔ (u57 c = nI 1 ∨ ∃ r, r < q.1 ∧ (qst u61 (qM u61 u57) 24) 11 r = nI c))) (fun q : Nat × (Nat → Int32) => w - q.1) (fun q : Nat × (Nat → Int32) => wm h cI cB (va_up (qst u61 (qM u61 u57) 24) 12 q.2)) (fun q : Nat × (Nat → Int32) => [(0, .ref (h 0)), (1, .int (nI q.1))]) (fun q hi ih => ?_) (0, u57) ⟨by omega, h57.1, fun c hc => ⟨Or.inl, fun q => by rcases q with q | ⟨r, hr, -⟩; exact q; exact absurd hr (Nat.not_lt_zero _)⟩⟩
        obtain ⟨i, g'⟩ := q
        dsimp only at hi ih ⊢
        refine z_iload_n Z 1 d_m_gather_135 rfl rfl ?_
        refine z_aload_n Z 0 d_m_gather_136 rfl rfl ?_
        refine mn_1 Z d_m_gather_137 ?_
        refine z_eqi (y := nI w) ew ?_
        refine z_icmpN_ge Z 160 d_m_gather_140 (by decide) (by omega) (by omega) (fun h140 => ?_) (fun h140 => ?_)
        · obtain rfl : i = w := by omega
          refine z_aload_n Z 0 d_m_gather_160 rfl rfl ?_
          refine z_Wv Z (c_m_close (σ := (qst u61 (qM u61 u57) 24)) hwi (g := g') hi.2.1) (ok_m_close _) rfl rfl ⟨by decide, by decide⟩ rfl rfl rfl rfl (Nat.le_of_ble_eq_true rfl) d_m_gather_161 ⟨by decide, by decide⟩ (fun E u h => h.elim) (fun u161 h161 => ?_)
          refine z_aload_n Z 0 d_m_gather_164 rfl rfl ?_
          refine z_Wv Z (c_m_forget (σ := va_up (qst u61 (qM u61 u57) 24) 12 u161) (wf_12 hwi) h161.1) (ok_m_forget _) rfl rfl ⟨by decide, by decide⟩ rfl rfl rfl rfl (Nat.le_of_ble_eq_true rfl) d_m_gather_165 ⟨by decide, by decide⟩ (fun E u h => h.elim) (fun u165 h165 => ?_)
          have f12 : u165 12 = u161 := fgo_12 h165
          refine z_iconst Z (nI 0) d_m_gather_168 zi_0 ?_
          refine z_istore_n Z 1 d_m_gather_169 rfl (by decide) rfl ?_
          refine z_iconst Z (nI 0) d_m_gather_170 zi_0 ?_
          refine z_istore_n Z 2 d_m_gather_171 rfl (by decide) rfl ?_
          refine z_lv (lv' := [(0, .ref (h 0)), (1, .int (nI (num (qM u165 u161) 0))), (2, .int (nI 0))]) rfl ?_
          refine z_ws (ws' := wm h cI cB (frS u165 (qM u165 u161) 0)) rfl ?_
          refine z_loop (fun i : Nat => i ≤ 24) (fun i : Nat => 24 - i) (fun i : Nat => wm h cI cB (frS u165 (qM u165 u161) i)) (fun i : Nat => [(0, .ref (h 0)), (1, .int (nI (num (qM u165 u161) i))), (2, .int (nI i))]) (fun i hj ih => ?_) 0 (by omega)
          have t1 : (frS u165 (qM u165 u161) i) 1 i = u165 1 i := frS_1 _ _ (Nat.le_refl _)
          have t12 : (frS u165 (qM u165 u161) i) 12 = u161 := (frS_12 _ _ _).trans f12
          refine z_iload_n Z 2 d_m_gather_172 rfl rfl ?_
          refine z_bipush Z (nI 24) d_m_gather_173 zb_24 ?_
          refine z_icmpN_ge Z 235 d_m_gather_175 (by decide) (by omega) (by omega) (fun h175 => ?_) (fun h175 => ?_)
          · obtain rfl : i = 24 := by omega
            refine z_iload_n Z 1 d_m_gather_235 rfl rfl ?_
            refine z_ri Z _ hr rfl d_m_gather_236 (by decide) (by decide) rfl ?_
            exact ⟨_, _, _, _, _, _, _, fun c hc => ⟨fun q => ((hR c hc).mp q).resolve_left id, fun q => (hR c hc).mpr (Or.inr q)⟩, h57, h61, hw24, ew, hi.2.2, h161, h165, rfl, rfl⟩
          · refine z_aload_n Z 0 d_m_gather_178 rfl rfl ?_
            refine mg_1 Z d_m_gather_179 ?_
            refine z_iload_n Z 2 d_m_gather_182 rfl rfl ?_
            refine ml_1 Z (by omega) d_m_gather_183 ?_
            refine z_if_lt Z 229 d_m_gather_184 (by decide) (fun h184 => ?_) (fun h184 => ?_)
            · have hD : (qM u165 u161) i = false := decide_eq_false (fun q => q.1 (by rw [← t1]; exact h184))
              refine z_iincN Z 2 d_m_gather_229 rfl (by decide) rfl ?_
              refine z_goto Z 172 d_m_gather_232 (by decide) ?_
              exact z_ws (by rw [frS_n hD]) (z_lv (by rw [num_n hD]; rfl) (ih (i + 1) (by omega) (by omega)))
            · refine z_aload_n Z 0 d_m_gather_187 rfl rfl ?_
              refine mg_12 Z d_m_gather_188 ?_
              refine z_iload_n Z 2 d_m_gather_191 rfl rfl ?_
              refine ml_12 Z (by omega) d_m_gather_192 ?_
              refine z_if_ne Z 229 d_m_gather_193 (by decide) (fun h193 => ?_) (fun h193 => ?_)
              · have hD : (qM u165 u161) i = false := decide_eq_false (fun q => h193 (by rw [t12]; exact q.2))
                refine z_iincN Z 2 d_m_gather_229 rfl (by decide) rfl ?_
                refine z_goto Z 172 d_m_gather_232 (by decide) ?_
                exact z_ws (by rw [frS_n hD]) (z_lv (by rw [num_n hD]; rfl) (ih (i + 1) (by omega) (by omega)))
              · have hD : (qM u165 u161) i = true := decide_eq_true ⟨by rw [← t1]; exact h184, by rw [← t12]; exact h193⟩
                refine z_aload_n Z 0 d_m_gather_196 rfl rfl ?_
                refine mg_1 Z d_m_gather_197 ?_
                refine z_iload_n Z 2 d_m_gather_200 rfl rfl ?_
                refine z_iconst Z (-1) d_m_gather_201 zi_m1 ?_
                refine ms_1 Z (by omega) d_m_gather_202 ?_
                refine z_aload_n Z 0 d_m_gather_203 rfl rfl ?_
                refine mg_6 Z d_m_gather_204 ?_
                refine z_iload_n Z 2 d_m_gather_207 rfl rfl ?_
                refine z_iconst Z (nI 0) d_m_gather_208 zi_0 ?_
                refine ms_6 Z (by omega) d_m_gather_209 ?_
                refine z_aload_n Z 0 d_m_gather_210 rfl rfl ?_
                refine mg_3 Z d_m_gather_211 ?_
                refine z_iconst Z (nI 3) d_m_gather_214 zi_3 ?_
                refine z_iload_n Z 2 d_m_gather_215 rfl rfl ?_
                refine z_imulN Z d_m_gather_216 ?_
                refine z_iconst Z (-1) d_m_gather_217 zi_m1 ?_
                refine z_eqi2 (y := nI (i * 3 + 0)) (congrArg nI (Nat.mul_comm 3 i)) ?_
                refine ms_3 Z (by omega) d_m_gather_218 ?_
                refine z_aload_n Z 0 d_m_gather_219 rfl rfl ?_
                refine mg_7 Z d_m_gather_220 ?_
                refine z_iload_n Z 2 d_m_gather_223 rfl rfl ?_
                refine z_iconst Z (nI 0) d_m_gather_224 zi_0 ?_
                refine ms_7 Z (by omega) d_m_gather_225 ?_
                refine z_iincN Z 1 d_m_gather_226 rfl (by decide) rfl ?_
                refine z_iincN Z 2 d_m_gather_229 rfl (by decide) rfl ?_
                refine z_goto Z 172 d_m_gather_232 (by decide) ?_
                refine z_ws (ws' := wm h cI cB (frS u165 (qM u165 u161) (i + 1))) (by rw [frS_y hD]; rfl) ?_
                exact z_lv (by rw [num_y hD]; rfl) (ih (i + 1) (by omega) (by omega))
        · refine z_aload_n Z 0 d_m_gather_143 rfl rfl ?_
          refine z_aload_n Z 0 d_m_gather_144 rfl rfl ?_
          refine mg_11 Z d_m_gather_145 ?_
          refine z_iload_n Z 1 d_m_gather_148 rfl rfl ?_
          refine ml_11 Z (by omega) d_m_gather_149 ?_
          refine z_Wi Z (c_m_add (σ := (qst u61 (qM u61 u57) 24)) (g := g') hi.2.1 (cl24_nc (hwi.2.2.2.2.2.2.1 i (by omega)))) (ok_m_add _) rfl rfl ⟨by decide, by decide⟩ rfl rfl rfl rfl (Nat.le_of_ble_eq_true rfl) d_m_gather_150 ⟨by decide, by decide⟩ (fun E u h => h.elim) (fun v150 u150 h150 => ?_)
          refine z_pop Z d_m_gather_153 ?_
          refine z_iincN Z 1 d_m_gather_154 rfl (by decide) rfl ?_
          refine z_goto Z 135 d_m_gather_157 (by decide) ?_
          exact z_lv rfl (ih (i + 1, u150) ⟨by omega, adG_bl hi.2.1 h150, adS hi.2.2 h150 rfl⟩ (by dsimp only; omega))
      · refine z_aload_n Z 0 d_m_gather_72 rfl rfl ?_
        refine mg_1 Z d_m_gather_73 ?_
        refine z_iload_n Z 1 d_m_gather_76 rfl rfl ?_
        refine ml_1 Z (by omega) d_m_gather_77 ?_
        refine z_if_lt Z 127 d_m_gather_78 (by decide) (fun h78 => ?_) (fun h78 => ?_)
        · refine z_iincN Z 1 d_m_gather_127 rfl (by decide) rfl ?_
          refine z_goto Z 66 d_m_gather_130 (by decide) ?_
          exact z_ws (by rw [qst_no (fun q => (of_decide_eq_true q.1).1 (by rw [← s1]; exact h78))]) (z_lv rfl (ih (i + 1) (by omega) (by omega)))
        · refine z_aload_n Z 0 d_m_gather_81 rfl rfl ?_
          refine mg_12 Z d_m_gather_82 ?_
          refine z_iload_n Z 1 d_m_gather_85 rfl rfl ?_
          refine ml_12 Z (by omega) d_m_gather_86 ?_
          refine z_if_ne Z 127 d_m_gather_87 (by decide) (fun h87 => ?_) (fun h87 => ?_)
          · refine z_iincN Z 1 d_m_gather_127 rfl (by decide) rfl ?_
            refine z_goto Z 66 d_m_gather_130 (by decide) ?_
            exact z_ws (by rw [qst_no (fun q => h87 (by rw [s12]; exact (of_decide_eq_true q.1).2))]) (z_lv rfl (ih (i + 1) (by omega) (by omega)))
          · refine z_aload_n Z 0 d_m_gather_90 rfl rfl ?_
            refine mg_7 Z d_m_gather_91 ?_
            refine z_iload_n Z 1 d_m_gather_94 rfl rfl ?_
            refine ml_7 Z (by omega) d_m_gather_95 ?_
            refine z_iconst Z (nI 1) d_m_gather_96 zi_1 ?_
            refine z_icmp_ne Z 127 d_m_gather_97 (by decide) (fun h97 => ?_) (fun h97 => ?_)
            · refine z_iincN Z 1 d_m_gather_127 rfl (by decide) rfl ?_
              refine z_goto Z 66 d_m_gather_130 (by decide) ?_
              exact z_ws (by rw [qst_no (fun q => h97 q.2)]) (z_lv rfl (ih (i + 1) (by omega) (by omega)))
            · obtain ⟨w, hw24, ew, -, -⟩ := id hqi
              have hwl : w < 24 := qI_room hqi ew hw24 (by omega) h97
              have ecl : ((qst u61 (qM u61 u57) i) 0 1).toNatClampNeg = w := by rw [ew, nI_clamp (by omega)]
              refine z_aload_n Z 0 d_m_gather_100 rfl rfl ?_
              refine mg_7 Z d_m_gather_101 ?_
              refine z_iload_n Z 1 d_m_gather_104 rfl rfl ?_
              refine z_iconst Z (nI 2) d_m_gather_105 zi_2 ?_
              refine ms_7 Z (by omega) d_m_gather_106 ?_
              refine z_aload_n Z 0 d_m_gather_107 rfl rfl ?_
              refine mg_11 Z d_m_gather_108 ?_
              refine z_aload_n Z 0 d_m_gather_111 rfl rfl ?_
              refine mn_1 Z d_m_gather_112 ?_
              refine z_eqi (y := nI w) ew ?_
              refine z_iload_n Z 1 d_m_gather_115 rfl rfl ?_
              refine ms_11 Z (by omega) d_m_gather_116 ?_
              refine z_aload_n Z 0 d_m_gather_117 rfl rfl ?_
              refine z_dup Z d_m_gather_118 ?_
              refine mn_1 Z d_m_gather_119 ?_
              refine z_eqi (y := nI w) ew ?_
              refine z_iconst Z (nI 1) d_m_gather_122 zi_1 ?_
              refine z_iaddN Z d_m_gather_123 ?_
              refine mp_1 Z d_m_gather_124 ?_
              refine z_iincN Z 1 d_m_gather_127 rfl (by decide) rfl ?_
              refine z_goto Z 66 d_m_gather_130 (by decide) ?_
              refine z_ws (ws' := wm h cI cB (qst u61 (qM u61 u57) (i + 1))) (by rw [qst_yes ⟨decide_eq_true ⟨by rw [← s1]; exact h78, by rw [← s12]; exact h87⟩, h97⟩, enq, ecl]; rfl) ?_
              exact z_lv rfl (ih (i + 1) (by omega) (by omega))
    · refine z_aload_n Z 0 d_m_gather_39 rfl rfl ?_
      refine z_aload_n Z 0 d_m_gather_40 rfl rfl ?_
      refine mg_10 Z d_m_gather_41 ?_
      refine z_iload_n Z 1 d_m_gather_44 rfl rfl ?_
      refine ml_10 Z (by omega) d_m_gather_45 ?_
      refine z_Wi Z (c_m_add (σ := col1 σ) (g := g) hi.2.1 (hw.2.2.2.2.2.1 i (by omega))) (ok_m_add _) rfl rfl ⟨by decide, by decide⟩ rfl rfl rfl rfl (Nat.le_of_ble_eq_true rfl) d_m_gather_46 ⟨by decide, by decide⟩ (fun E u h => h.elim) (fun v46 u46 h46 => ?_)
      refine z_pop Z d_m_gather_49 ?_
      refine z_iincN Z 1 d_m_gather_50 rfl (by decide) rfl ?_
      refine z_goto Z 33 d_m_gather_53 (by decide) ?_
      exact z_lv rfl (ih (i + 1, u46) ⟨by omega, adG_bl hi.2.1 h46, adS hi.2.2 h46 rfl⟩ (by dsimp only; omega))
  · refine z_aload_n Z 0 d_m_gather_18 rfl rfl ?_
    refine mg_12 Z d_m_gather_19 ?_
    refine z_iload_n Z 1 d_m_gather_22 rfl rfl ?_
    refine z_iconst Z (nI 0) d_m_gather_23 zi_0 ?_
    refine ms_12 Z (by omega) d_m_gather_24 rfl ?_
    refine z_iincN Z 1 d_m_gather_25 rfl (by decide) rfl ?_
    refine z_goto Z 12 d_m_gather_28 (by decide) ?_
    exact z_ws rfl (z_lv rfl (ih (i + 1) (by omega) (by omega)))
set_option maxHeartbeats 4000000 in
set_option maxRecDepth 100000 in
theorem c_m_make {l : Launch} {D : va_G} {cI cB cL : ClassId} {h : Nat → Nat} {σ : St} (hw : wf σ) (hq : qI σ) {k : Int32} : zMet l y_m_make w_m_make rm_m_make D zCl (zTy cI cB cL) (wm h cI cB σ) [.ref (h 0), .int k] (qi (wm h cI cB) (fun v u => mkM σ k v u) noXs) 0 0 0 0 := by
  refine z_meth (by decide) rfl (Nat.le_of_ble_eq_true rfl) (fun p e s mm as bl me cd Z hr hnm ht => ?_)
  refine z_aload_n Z 0 d_m_make_0 rfl rfl ?_
  refine z_iload_n Z 1 d_m_make_1 rfl rfl ?_
  refine z_if_lt Z 10 d_m_make_2 (by decide) (fun h2 => ?_) (fun h2 => ?_)
  · refine z_iconst Z (nI 1) d_m_make_10 zi_1 ?_
    refine z_goto Z 15 d_m_make_11 (by decide) ?_
    refine mp_0 Z d_m_make_15 ?_
    refine z_aload_n Z 0 d_m_make_18 rfl rfl ?_
    refine mn_0 Z d_m_make_19 ?_
    refine z_if_le Z 27 d_m_make_22 (by decide) (fun hx => absurd hx (show ¬ (nI 1 : Int32) ≤ 0 from by decide)) (fun h22 => ?_)
    refine z_iconst Z (nI 0) d_m_make_25 zi_0 ?_
    refine z_ri Z _ hr rfl d_m_make_26 (by decide) (by decide) rfl ?_
    exact Or.inl ⟨fun ⟨i, hi, q⟩ => nI_pos (by omega) (q ▸ h2), rfl⟩
  · refine z_iload_n Z 1 d_m_make_5 rfl rfl ?_
    refine z_iconst Z (nI 2) d_m_make_6 zi_2 ?_
    refine z_icmp_le Z 14 d_m_make_7 (by decide) (fun h7 => ?_) (fun h7 => ?_)
    · have hk : isK k := isK_of h2 h7
      refine z_iconst Z (nI 0) d_m_make_14 zi_0 ?_
      refine mp_0 Z d_m_make_15 ?_
      refine z_aload_n Z 0 d_m_make_18 rfl rfl ?_
      refine mn_0 Z d_m_make_19 ?_
      refine z_if_le Z 27 d_m_make_22 (by decide) (fun h22 => ?_) (fun hx => absurd hx (fun q => q (show (nI 0 : Int32) ≤ 0 from by decide)))
      refine z_aload_n Z 0 d_m_make_27 rfl rfl ?_
      refine z_Wi0 Z (c_m_freeCell ) (ok_m_freeCell _) rfl rfl ⟨by decide, by decide⟩ rfl rfl rfl rfl (Nat.le_of_ble_eq_true rfl) d_m_make_28 ⟨by decide, by decide⟩ (fun E h => h.elim) (fun v28 h28 => ?_)
      refine z_if_ge Z 39 d_m_make_31 (by decide) (fun h31 => ?_) (fun h31 => ?_)
      · obtain ⟨c0, hl0, -⟩ := fcM_s h28 h31
        refine z_aload_n Z 0 d_m_make_39 rfl rfl ?_
        refine z_Wi0 Z (c_m_freeCell ) (ok_m_freeCell _) rfl rfl ⟨by decide, by decide⟩ rfl rfl rfl rfl (Nat.le_of_ble_eq_true rfl) d_m_make_40 ⟨by decide, by decide⟩ (fun E h => h.elim) (fun v40 h40 => ?_)
        obtain ⟨c, hlf, rfl⟩ := fcM_a h40 hl0
        have hc : c < 24 := hlf.1
        refine z_istore_n Z 2 d_m_make_43 rfl (by decide) rfl ?_
        refine z_aload_n Z 0 d_m_make_44 rfl rfl ?_
        refine z_iload_n Z 2 d_m_make_45 rfl rfl ?_
        refine z_if_ge Z 53 d_m_make_46 (by decide) (fun h46 => ?_) (fun hx => absurd hx (fun q => q (nI_pos' (by omega))))
        refine z_iconst Z (nI 0) d_m_make_53 zi_0 ?_
        refine mp_0 Z d_m_make_54 ?_
        refine z_aload_n Z 0 d_m_make_57 rfl rfl ?_
        refine mn_0 Z d_m_make_58 ?_
        refine z_if_le Z 66 d_m_make_61 (by decide) (fun h61 => ?_) (fun hx => absurd hx (fun q => q (show (nI 0 : Int32) ≤ 0 from by decide)))
        refine z_aload_n Z 0 d_m_make_66 rfl rfl ?_
        refine z_dup Z d_m_make_67 ?_
        refine mn_2 Z d_m_make_68 ?_
        refine z_iconst Z (nI 1) d_m_make_71 zi_1 ?_
        refine z_iadd Z d_m_make_72 ?_
        refine mp_2 Z d_m_make_73 ?_
        refine z_aload_n Z 0 d_m_make_76 rfl rfl ?_
        refine mg_1 Z d_m_make_77 ?_
        refine z_iload_n Z 2 d_m_make_80 rfl rfl ?_
        refine z_iload_n Z 1 d_m_make_81 rfl rfl ?_
        refine ms_1 Z (by omega) d_m_make_82 ?_
        refine z_aload_n Z 0 d_m_make_83 rfl rfl ?_
        refine mg_2 Z d_m_make_84 ?_
        refine z_iload_n Z 2 d_m_make_87 rfl rfl ?_
        refine z_aload_n Z 0 d_m_make_88 rfl rfl ?_
        refine mn_2 Z d_m_make_89 ?_
        refine ms_2 Z (by omega) d_m_make_92 ?_
        refine z_aload_n Z 0 d_m_make_93 rfl rfl ?_
        refine mg_7 Z d_m_make_94 ?_
        refine z_iload_n Z 2 d_m_make_97 rfl rfl ?_
        refine z_iconst Z (nI 0) d_m_make_98 zi_0 ?_
        refine ms_7 Z (by omega) d_m_make_99 ?_
        refine z_aload_n Z 0 d_m_make_100 rfl rfl ?_
        refine z_iload_n Z 2 d_m_make_101 rfl rfl ?_
        refine z_Wv Z (c_m_lose hc) (ok_m_lose _) rfl rfl ⟨by decide, by decide⟩ rfl rfl rfl rfl (Nat.le_of_ble_eq_true rfl) d_m_make_102 ⟨by decide, by decide⟩ (fun E u h => h.elim) (fun u102 h102 => ?_)
        subst h102
        refine z_iload_n Z 2 d_m_make_105 rfl rfl ?_
        refine z_ri Z _ hr rfl d_m_make_106 (by decide) (by decide) rfl ?_
        exact Or.inr ⟨hk, Or.inl ⟨c, hlf, rfl, rfl⟩⟩
      · refine z_aload_n Z 0 d_m_make_34 rfl rfl ?_
        refine z_Wi Z (c_m_gather (wf_th hw) hq) (ok_m_gather _) rfl rfl ⟨by decide, by decide⟩ rfl rfl rfl rfl (Nat.le_of_ble_eq_true rfl) d_m_make_35 ⟨by decide, by decide⟩ (fun E u h => h.elim) (fun v35 u35 h35 => ?_)
        refine z_pop Z d_m_make_38 ?_
        refine z_aload_n Z 0 d_m_make_39 rfl rfl ?_
        refine z_Wi0 Z (c_m_freeCell ) (ok_m_freeCell _) rfl rfl ⟨by decide, by decide⟩ rfl rfl rfl rfl (Nat.le_of_ble_eq_true rfl) d_m_make_40 ⟨by decide, by decide⟩ (fun E h => h.elim) (fun v40 h40 => ?_)
        refine z_istore_n Z 2 d_m_make_43 rfl (by decide) rfl ?_
        refine z_aload_n Z 0 d_m_make_44 rfl rfl ?_
        refine z_iload_n Z 2 d_m_make_45 rfl rfl ?_
        refine z_if_ge Z 53 d_m_make_46 (by decide) (fun h46 => ?_) (fun h46 => ?_)
        · obtain ⟨c, hlf, rfl⟩ := fcM_s h40 h46
          have hc : c < 24 := hlf.1
          refine z_iconst Z (nI 0) d_m_make_53 zi_0 ?_
          refine mp_0 Z d_m_make_54 ?_
          refine z_aload_n Z 0 d_m_make_57 rfl rfl ?_
          refine mn_0 Z d_m_make_58 ?_
          refine z_if_le Z 66 d_m_make_61 (by decide) (fun h61 => ?_) (fun hx => absurd hx (fun q => q (show (nI 0 : Int32) ≤ 0 from by decide)))
          refine z_aload_n Z 0 d_m_make_66 rfl rfl ?_
          refine z_dup Z d_m_make_67 ?_
          refine mn_2 Z d_m_make_68 ?_
          refine z_iconst Z (nI 1) d_m_make_71 zi_1 ?_
          refine z_iadd Z d_m_make_72 ?_
          refine mp_2 Z d_m_make_73 ?_
          refine z_aload_n Z 0 d_m_make_76 rfl rfl ?_
          refine mg_1 Z d_m_make_77 ?_
          refine z_iload_n Z 2 d_m_make_80 rfl rfl ?_
          refine z_iload_n Z 1 d_m_make_81 rfl rfl ?_
          refine ms_1 Z (by omega) d_m_make_82 ?_
          refine z_aload_n Z 0 d_m_make_83 rfl rfl ?_
          refine mg_2 Z d_m_make_84 ?_
          refine z_iload_n Z 2 d_m_make_87 rfl rfl ?_
          refine z_aload_n Z 0 d_m_make_88 rfl rfl ?_
          refine mn_2 Z d_m_make_89 ?_
          refine ms_2 Z (by omega) d_m_make_92 ?_
          refine z_aload_n Z 0 d_m_make_93 rfl rfl ?_
          refine mg_7 Z d_m_make_94 ?_
          refine z_iload_n Z 2 d_m_make_97 rfl rfl ?_
          refine z_iconst Z (nI 0) d_m_make_98 zi_0 ?_
          refine ms_7 Z (by omega) d_m_make_99 ?_
          refine z_aload_n Z 0 d_m_make_100 rfl rfl ?_
          refine z_iload_n Z 2 d_m_make_101 rfl rfl ?_
          refine z_Wv Z (c_m_lose hc) (ok_m_lose _) rfl rfl ⟨by decide, by decide⟩ rfl rfl rfl rfl (Nat.le_of_ble_eq_true rfl) d_m_make_102 ⟨by decide, by decide⟩ (fun E u h => h.elim) (fun u102 h102 => ?_)
          subst h102
          refine z_iload_n Z 2 d_m_make_105 rfl rfl ?_
          refine z_ri Z _ hr rfl d_m_make_106 (by decide) (by decide) rfl ?_
          exact Or.inr ⟨hk, Or.inr ⟨fcM_f h28 h31, v35, u35, h35, Or.inl ⟨c, hlf, rfl, rfl⟩⟩⟩
        · refine z_iconst Z (nI 2) d_m_make_49 zi_2 ?_
          refine z_goto Z 54 d_m_make_50 (by decide) ?_
          refine mp_0 Z d_m_make_54 ?_
          refine z_aload_n Z 0 d_m_make_57 rfl rfl ?_
          refine mn_0 Z d_m_make_58 ?_
          refine z_if_le Z 66 d_m_make_61 (by decide) (fun hx => absurd hx (show ¬ (nI 2 : Int32) ≤ 0 from by decide)) (fun h61 => ?_)
          refine z_iconst Z (nI 0) d_m_make_64 zi_0 ?_
          refine z_ri Z _ hr rfl d_m_make_65 (by decide) (by decide) rfl ?_
          exact Or.inr ⟨hk, Or.inr ⟨fcM_f h28 h31, v35, u35, h35, Or.inr ⟨fcM_f h40 h46, rfl⟩⟩⟩
    · refine z_iconst Z (nI 1) d_m_make_10 zi_1 ?_
      refine z_goto Z 15 d_m_make_11 (by decide) ?_
      refine mp_0 Z d_m_make_15 ?_
      refine z_aload_n Z 0 d_m_make_18 rfl rfl ?_
      refine mn_0 Z d_m_make_19 ?_
      refine z_if_le Z 27 d_m_make_22 (by decide) (fun hx => absurd hx (show ¬ (nI 1 : Int32) ≤ 0 from by decide)) (fun h22 => ?_)
      refine z_iconst Z (nI 0) d_m_make_25 zi_0 ?_
      refine z_ri Z _ hr rfl d_m_make_26 (by decide) (by decide) rfl ?_
      exact Or.inl ⟨fun ⟨i, hi, q⟩ => h7 (by rw [q]; exact nI_le (by omega) (by decide)), rfl⟩
set_option maxHeartbeats 4000000 in
set_option maxRecDepth 100000 in
theorem c_m_collect {l : Launch} {D : va_G} {cI cB cL : ClassId} {h : Nat → Nat} {σ : St} (hw : wf σ) (hq : qI σ) : zMet l y_m_collect w_m_collect rm_m_collect D zCl (zTy cI cB cL) (wm h cI cB σ) [.ref (h 0)] (qi (wm h cI cB) (fun v u => gatM (th σ 0) v u) noXs) 0 0 0 0 := by
  refine z_meth (by decide) rfl (Nat.le_of_ble_eq_true rfl) (fun p e s mm as bl me cd Z hr hnm ht => ?_)
  refine z_aload_n Z 0 d_m_collect_0 rfl rfl ?_
  refine z_iconst Z (nI 0) d_m_collect_1 zi_0 ?_
  refine mp_0 Z d_m_collect_2 ?_
  refine z_aload_n Z 0 d_m_collect_5 rfl rfl ?_
  refine z_Wi Z (c_m_gather (wf_th hw) hq) (ok_m_gather _) rfl rfl ⟨by decide, by decide⟩ rfl rfl rfl rfl (Nat.le_of_ble_eq_true rfl) d_m_collect_6 ⟨by decide, by decide⟩ (fun E u h => h.elim) (fun v6 u6 h6 => ?_)
  refine z_ri Z _ hr rfl d_m_collect_9 (by decide) (by decide) rfl ?_
  exact h6
end
section
/-! rows more: what is made anew, the script, fewer words -/
section ZR2
variable {p : Program} {l : Launch} {e : Env} {R : Room} {s : State} {m : MethodId} {args : Array Value} {below : List Frame} {meth : Method} {c : Code} {cells slots nL : Nat} {Q : State → Prop} {D : va_G} {cl : List vw_C} {tys : List (ClassId × FieldType)} {w0 : va_W} {cc : ByteArray} {own : String} {Ts : List Cond} {ws ws' : va_W} {pc : Nat} {lv lv' : List (Nat × Value)} {st : List Value}
theorem z_subT {Ts' : List Cond} (Z : zC p s m args meth c cc nL own Ts D cl tys w0) (h : ∀ w ∈ Ts', w ∈ Ts) : zC p s m args meth c cc nL own Ts' D cl tys w0 := ⟨Z.1, Z.2.1, Z.2.2.1, Z.2.2.2.1, fun w hw => Z.2.2.2.2.1 w (h w hw), Z.2.2.2.2.2⟩
theorem z_perm (is : List Nat) (hn : va_nd is = true) (hs : is.filterMap (fun i => ws[i]?) = ws') (hs2 : is.map (fun i => ws[i]?) = ws'.map some) (k : zAt p l e R s m args below meth c D cl w0 nL cells slots Q ws' pc lv st) : zAt p l e R s m args below meth c D cl w0 nL cells slots Q ws pc lv st := fun H locs ls hP hD hS hl => k H locs ls (hP.sub is hs) (hD.sub is hn hs2) hS hl
theorem z_objInit (Z : zC p s m args meth c cc nL own Ts D cl tys w0) {o idx : Nat} (h1 : Cond.methodLink own idx Lib.objectInit ∈ Ts) (h2 : Cond.instanceMethod Lib.objectInit ∈ Ts) (h3 : Cond.code Lib.objectInit ⟨#[0xb1]⟩ 1 none ∈ Ts) (hf : 1 ≤ R.frames) (hlo : (st.map fun v => v.category).sum + 12 ≤ R.locals) (d : decode cc pc = .ok (.invokespecial idx, 3)) (k : zAt p l e R s m args below meth c D cl w0 nL cells slots Q ws (pc + 3) lv st) : zAt p l e R s m args below meth c D cl w0 nL cells slots Q ws pc lv (.ref o :: st) := fun H locs ls hP hD hS hl =>
  W.objInit (g := F0 m pc ls (.ref o :: st)) Z.1 Z.2.1 Z.2.2.2.1 (Z.2.2.2.2.1 _ h1) (Z.2.2.2.2.1 _ h2) (Z.2.2.2.2.1 _ h3) rfl (by rw [Z.2.2.1]; exact hl.1) rfl d hf (by show 2 * 0 + _ + 12 ≤ _; omega) (k H locs ls hP hD hS hl)
theorem z_newaI (Z : zC p s m args meth c cc nL own Ts D cl tys w0) (t0 : Nat) {cA : ClassId} {n : Nat} (harr : Cond.arrayClass .int ∈ Ts) (ht : tys[t0]? = some (cA, .int)) (hn : n < 2 ^ 31) (hby : n * componentBytes .int ≤ 536870912) (hc : cells + 1 ≤ R.cells) (hs : slots + n ≤ R.slots) (d : decode cc pc = .ok (.newarray .int, 2))
    (k : ∀ q : Nat, zAt p l e R s m args below meth c D cl w0 nL (cells + 1) (slots + n) Q (ws ++ [(q, .inl (cA, n, .inl (fun _ => 0)))]) (pc + 2) lv (.ref q :: st)) : zAt p l e R s m args below meth c D cl w0 nL cells slots Q ws pc lv (.int (nI n) :: st) := fun H locs ls hP hD hS hl =>
  va_newa (atype := .int) (ty := .int) (a0 := (n, .inl (fun _ => 0))) Z.1 Z.2.1 (Z.2.2.2.2.1 _ harr) rfl Z.2.2.2.2.2.1 hP hD hS (fun q h => Or.inr h) (fun cA => rfl) (nI_pos hn) (nI_clamp hn) hby hc hs d (fun q cA' H1 hK1 hP1 hD1 hS1 => by
    have e1 : va_RA s cA' .int := (hK1.2 tys.length (cA', .int) (by rw [List.getElem?_append_right (Nat.le_refl _), Nat.sub_self]; rfl)).2
    have e2 : va_RA s cA .int := (Z.2.2.2.2.2.1.2 t0 _ ht).2
    have e : cA' = cA := Option.some.inj (e1.symm.trans e2)
    subst e
    exact k q H1 locs ls hP1 hD1 hS1 hl)
theorem z_newaZ (Z : zC p s m args meth c cc nL own Ts D cl tys w0) (t0 : Nat) {cA : ClassId} {n : Nat} (harr : Cond.arrayClass .boolean ∈ Ts) (ht : tys[t0]? = some (cA, .boolean)) (hn : n < 2 ^ 31) (hby : n * componentBytes .boolean ≤ 536870912) (hc : cells + 1 ≤ R.cells) (hs : slots + n ≤ R.slots) (d : decode cc pc = .ok (.newarray .boolean, 2))
    (k : ∀ q : Nat, zAt p l e R s m args below meth c D cl w0 nL (cells + 1) (slots + n) Q (ws ++ [(q, .inl (cA, n, .inl (fun _ => 0)))]) (pc + 2) lv (.ref q :: st)) : zAt p l e R s m args below meth c D cl w0 nL cells slots Q ws pc lv (.int (nI n) :: st) := fun H locs ls hP hD hS hl =>
  va_newa (atype := .boolean) (ty := .boolean) (a0 := (n, .inl (fun _ => 0))) Z.1 Z.2.1 (Z.2.2.2.2.1 _ harr) rfl Z.2.2.2.2.2.1 hP hD hS (fun q h => Or.inr h) (fun cA => rfl) (nI_pos hn) (nI_clamp hn) hby hc hs d (fun q cA' H1 hK1 hP1 hD1 hS1 => by
    have e1 : va_RA s cA' .boolean := (hK1.2 tys.length (cA', .boolean) (by rw [List.getElem?_append_right (Nat.le_refl _), Nat.sub_self]; rfl)).2
    have e2 : va_RA s cA .boolean := (Z.2.2.2.2.2.1.2 t0 _ ht).2
    have e : cA' = cA := Option.some.inj (e1.symm.trans e2)
    subst e
    exact k q H1 locs ls hP1 hD1 hS1 hl)
theorem z_newaL (Z : zC p s m args meth c cc nL own Ts D cl tys w0) (t0 : Nat) {cA : ClassId} {n : Nat} (harr : Cond.arrayClass .long ∈ Ts) (ht : tys[t0]? = some (cA, .long)) (hn : n < 2 ^ 31) (hby : n * componentBytes .long ≤ 536870912) (hc : cells + 1 ≤ R.cells) (hs : slots + n ≤ R.slots) (d : decode cc pc = .ok (.newarray .long, 2))
    (k : ∀ q : Nat, zAt p l e R s m args below meth c D cl w0 nL (cells + 1) (slots + n) Q (ws ++ [(q, .inl (cA, n, .inr (.inl (fun _ => 0))))]) (pc + 2) lv (.ref q :: st)) : zAt p l e R s m args below meth c D cl w0 nL cells slots Q ws pc lv (.int (nI n) :: st) := fun H locs ls hP hD hS hl =>
  va_newa (atype := .long) (ty := .long) (a0 := (n, .inr (.inl (fun _ => 0)))) Z.1 Z.2.1 (Z.2.2.2.2.1 _ harr) rfl Z.2.2.2.2.2.1 hP hD hS (fun q h => Or.inr h) (fun cA => rfl) (nI_pos hn) (nI_clamp hn) hby hc hs d (fun q cA' H1 hK1 hP1 hD1 hS1 => by
    have e1 : va_RA s cA' .long := (hK1.2 tys.length (cA', .long) (by rw [List.getElem?_append_right (Nat.le_refl _), Nat.sub_self]; rfl)).2
    have e2 : va_RA s cA .long := (Z.2.2.2.2.2.1.2 t0 _ ht).2
    have e : cA' = cA := Option.some.inj (e1.symm.trans e2)
    subst e
    exact k q H1 locs ls hP1 hD1 hS1 hl)
theorem z_new (Z : zC p s m args meth c cc nL own Ts D cl tys w0) {C : String} {T : u_T} {N ci index : Nat} (hin : ∀ w ∈ u_ws C T N, w ∈ Ts) (ty : Nat → FieldType) (hty : ∀ k, k < N → parseFieldDescriptor (T k).2.2.1 = some (ty k)) (hcl : Cond.classLink own index C ∈ Ts) (hinst : Cond.instantiable C N ∈ Ts) (hini : Cond.initialized C ∈ Ts) (hci : cl[ci]? = some (C, T, N)) (fs : List Value) (hfs : ∀ j, j < N → defaultValue (ty j) = vp_V fs j) (hc : cells + 1 ≤ R.cells) (hs : slots + N ≤ R.slots) (d : decode cc pc = .ok (.new index, 3))
    (k : ∀ q : Nat, zAt p l e R s m args below meth c D cl w0 nL (cells + 1) (slots + N) Q (ws ++ [(q, .inr (ci, fs))]) (pc + 3) lv (.ref q :: st)) : zAt p l e R s m args below meth c D cl w0 nL cells slots Q ws pc lv st := fun H locs ls hP hD hS hl =>
  va_new Z.1 Z.2.1 Z.2.2.2.2.1 hin ty hty Z.2.2.2.1 (Z.2.2.2.2.1 _ hcl) (Z.2.2.2.2.1 _ hinst) (Z.2.2.2.2.1 _ hini) Z.2.2.2.2.2.1 hP hD hS (fun q h => Or.inr h) hci hfs hc hs d (fun q H1 hP1 hD1 hS1 => k q H1 locs ls hP1 hD1 hS1 hl)
theorem z_sld (Z : zC p s m args meth c cc nL own Ts D cl tys w0) {b L : Nat} {xs : Nat → Int32} (hX : va_X b L xs s s.heap) (hbl : b < s.heap.size) (hbA : ¬ va_A w0 s.heap.size b) {j : Nat} (hj : j < L) (hL : L < 2 ^ 31) (d : decode cc pc = .ok (.iaload, 1)) (k : zAt p l e R s m args below meth c D cl w0 nL cells slots Q ws (pc + 1) lv (.int (xs j) :: st)) : zAt p l e R s m args below meth c D cl w0 nL cells slots Q ws pc lv (.int (nI j) :: .ref b :: st) := fun H locs ls hP hD hS hl =>
  va_sld Z.1 Z.2.1 hX hbl hbA hS (vp_in_nI hj hL) d (by rw [nI_clamp (Nat.lt_trans hj hL)]; exact k H locs ls hP hD hS hl)
theorem z_slen (Z : zC p s m args meth c cc nL own Ts D cl tys w0) {b L : Nat} {xs : Nat → Int32} (hX : va_X b L xs s s.heap) (hbl : b < s.heap.size) (hbA : ¬ va_A w0 s.heap.size b) (d : decode cc pc = .ok (.arraylength, 1)) (k : zAt p l e R s m args below meth c D cl w0 nL cells slots Q ws (pc + 1) lv (.int (nI L) :: st)) : zAt p l e R s m args below meth c D cl w0 nL cells slots Q ws pc lv (.ref b :: st) := fun H locs ls hP hD hS hl =>
  va_slen Z.1 Z.2.1 hX hbl hbA hS d (k H locs ls hP hD hS hl)
end ZR2
end
section
def fllM (f : Nat → Int32) : Nat → Nat → Int32
  | 0 => f
  | i + 1 => upd (fllM f i) i (-1)
theorem fllM_lt (f : Nat → Int32) {n i : Nat} (h : i < n) : fllM f n i = -1 := by
  induction n with
  | zero => omega
  | succ n ih =>
    show upd (fllM f n) n (-1) i = _
    by_cases e : i = n
    · rw [e, pk_us]
    · rw [pk_un e]; exact ih (by omega)
theorem fllM_ge (f : Nat → Int32) {n i : Nat} (h : n ≤ i) : fllM f n i = f i := by
  induction n with
  | zero => rfl
  | succ n ih =>
    show upd (fllM f n) n (-1) i = _
    rw [pk_un (by omega)]; exact ih (by omega)
def z0 : St := fun _ _ => 0
def sX0 : St := va_up z0 10 (fllM (z0 10) 6)
def sM0 : St := va_up (va_up z0 1 (fllM (z0 1) 24)) 10 (fllM (z0 10) 6)
def wXi : List Cond := wX ++ [.methodLink R_X 1 Lib.objectInit, .instanceMethod Lib.objectInit, .code Lib.objectInit ⟨#[0xb1]⟩ 1 none, .arrayClass .int]
def w_init : List Cond := .code y_init b_init 2 none :: wXi
abbrev rm_init : Room := { frames := 1, cells := 11, slots := 438, locals := 12 }
def fsX0 : List Value := [.int 0, .null, .null, .null, .null, .null, .null, .null, .null, .null, .null, .null, .int 0, .int 0, .int 0]
def hhX (q0 q1 q2 q3 q4 q5 q6 q7 q8 q9 q10 q11 : Nat) : Nat → Nat := fun k => match k with | 0 => q0 | 1 => q1 | 2 => q2 | 3 => q3 | 4 => q4 | 5 => q5 | 6 => q6 | 7 => q7 | 8 => q8 | 9 => q9 | 10 => q10 | 11 => q11 | _ => 0
set_option maxHeartbeats 4000000 in
set_option maxRecDepth 100000 in
theorem c_init {l : Launch} {D : va_G} {cI cB cL : ClassId} {h0 : Nat} : zMet l y_init w_init rm_init D zCl (zTy cI cB cL) [(h0, .inr (0, fsX0))] [.ref h0] (qv (fun u : (Nat → Nat) × St => (wx u.1 cI u.2)) (fun u => u.1 0 = h0 ∧ u.2 = sX0) noXs) 11 438 11 438 := by
  refine z_meth (by decide) rfl (Nat.le_of_ble_eq_true rfl) (fun p e s mm as bl me cd Z0 hr hnm ht => ?_)
  have Z := z_subT (Ts' := .code y_init b_init 2 none :: wX) Z0 (fun w hw => (List.mem_cons.mp hw).elim (fun e => e ▸ List.mem_cons_self) (fun h => List.mem_cons_of_mem _ (List.mem_append_left _ h)))
  refine z_aload_n Z 0 d_init_0 rfl rfl ?_
  refine z_objInit Z0 (List.mem_cons_of_mem _ (List.mem_append_right _ (List.mem_of_getElem? (i := 0) rfl))) (List.mem_cons_of_mem _ (List.mem_append_right _ (List.mem_of_getElem? (i := 1) rfl))) (List.mem_cons_of_mem _ (List.mem_append_right _ (List.mem_of_getElem? (i := 2) rfl))) (by decide) (by decide) d_init_1 ?_
  refine z_aload_n Z 0 d_init_4 rfl rfl ?_
  refine z_bipush Z (nI 24) d_init_5 zb_24 ?_
  refine z_newaI Z0 0 (List.mem_cons_of_mem _ (List.mem_append_right _ (List.mem_of_getElem? (i := 3) rfl))) rfl (by decide) (by decide) (by decide) (by decide) d_init_7 (fun q1 => ?_)
  refine z_putF (ws' := [(h0, .inr (0, [.int 0, .ref q1, .null, .null, .null, .null, .null, .null, .null, .null, .null, .null, .int 0, .int 0, .int 0])), (q1, .inl (cI, 24, .inl (fun _ => 0)))]) Z hnm in_X t_X t_X_ok n_X 0 rfl rfl 1 (by decide) (List.mem_cons_of_mem _ lk_X_kinds) rfl rfl (ty := .array .int) (by decide +kernel) rfl rfl (Nat.le_of_ble_eq_true rfl) d_init_9 rfl ?_
  refine z_aload_n Z 0 d_init_12 rfl rfl ?_
  refine z_bipush Z (nI 24) d_init_13 zb_24 ?_
  refine z_newaI Z0 0 (List.mem_cons_of_mem _ (List.mem_append_right _ (List.mem_of_getElem? (i := 3) rfl))) rfl (by decide) (by decide) (by decide) (by decide) d_init_15 (fun q2 => ?_)
  refine z_putF (ws' := [(h0, .inr (0, [.int 0, .ref q1, .ref q2, .null, .null, .null, .null, .null, .null, .null, .null, .null, .int 0, .int 0, .int 0])), (q1, .inl (cI, 24, .inl (fun _ => 0))), (q2, .inl (cI, 24, .inl (fun _ => 0)))]) Z hnm in_X t_X t_X_ok n_X 0 rfl rfl 2 (by decide) (List.mem_cons_of_mem _ lk_X_serials) rfl rfl (ty := .array .int) (by decide +kernel) rfl rfl (Nat.le_of_ble_eq_true rfl) d_init_17 rfl ?_
  refine z_aload_n Z 0 d_init_20 rfl rfl ?_
  refine z_bipush Z (nI 72) d_init_21 zb_72 ?_
  refine z_newaI Z0 0 (List.mem_cons_of_mem _ (List.mem_append_right _ (List.mem_of_getElem? (i := 3) rfl))) rfl (by decide) (by decide) (by decide) (by decide) d_init_23 (fun q3 => ?_)
  refine z_putF (ws' := [(h0, .inr (0, [.int 0, .ref q1, .ref q2, .ref q3, .null, .null, .null, .null, .null, .null, .null, .null, .int 0, .int 0, .int 0])), (q1, .inl (cI, 24, .inl (fun _ => 0))), (q2, .inl (cI, 24, .inl (fun _ => 0))), (q3, .inl (cI, 72, .inl (fun _ => 0)))]) Z hnm in_X t_X t_X_ok n_X 0 rfl rfl 3 (by decide) (List.mem_cons_of_mem _ lk_X_fields) rfl rfl (ty := .array .int) (by decide +kernel) rfl rfl (Nat.le_of_ble_eq_true rfl) d_init_25 rfl ?_
  refine z_aload_n Z 0 d_init_28 rfl rfl ?_
  refine z_bipush Z (nI 96) d_init_29 zb_96 ?_
  refine z_newaI Z0 0 (List.mem_cons_of_mem _ (List.mem_append_right _ (List.mem_of_getElem? (i := 3) rfl))) rfl (by decide) (by decide) (by decide) (by decide) d_init_31 (fun q4 => ?_)
  refine z_putF (ws' := [(h0, .inr (0, [.int 0, .ref q1, .ref q2, .ref q3, .ref q4, .null, .null, .null, .null, .null, .null, .null, .int 0, .int 0, .int 0])), (q1, .inl (cI, 24, .inl (fun _ => 0))), (q2, .inl (cI, 24, .inl (fun _ => 0))), (q3, .inl (cI, 72, .inl (fun _ => 0))), (q4, .inl (cI, 96, .inl (fun _ => 0)))]) Z hnm in_X t_X t_X_ok n_X 0 rfl rfl 4 (by decide) (List.mem_cons_of_mem _ lk_X_keys) rfl rfl (ty := .array .int) (by decide +kernel) rfl rfl (Nat.le_of_ble_eq_true rfl) d_init_33 rfl ?_
  refine z_aload_n Z 0 d_init_36 rfl rfl ?_
  refine z_bipush Z (nI 96) d_init_37 zb_96 ?_
  refine z_newaI Z0 0 (List.mem_cons_of_mem _ (List.mem_append_right _ (List.mem_of_getElem? (i := 3) rfl))) rfl (by decide) (by decide) (by decide) (by decide) d_init_39 (fun q5 => ?_)
  refine z_putF (ws' := [(h0, .inr (0, [.int 0, .ref q1, .ref q2, .ref q3, .ref q4, .ref q5, .null, .null, .null, .null, .null, .null, .int 0, .int 0, .int 0])), (q1, .inl (cI, 24, .inl (fun _ => 0))), (q2, .inl (cI, 24, .inl (fun _ => 0))), (q3, .inl (cI, 72, .inl (fun _ => 0))), (q4, .inl (cI, 96, .inl (fun _ => 0))), (q5, .inl (cI, 96, .inl (fun _ => 0)))]) Z hnm in_X t_X t_X_ok n_X 0 rfl rfl 5 (by decide) (List.mem_cons_of_mem _ lk_X_values) rfl rfl (ty := .array .int) (by decide +kernel) rfl rfl (Nat.le_of_ble_eq_true rfl) d_init_41 rfl ?_
  refine z_aload_n Z 0 d_init_44 rfl rfl ?_
  refine z_bipush Z (nI 24) d_init_45 zb_24 ?_
  refine z_newaI Z0 0 (List.mem_cons_of_mem _ (List.mem_append_right _ (List.mem_of_getElem? (i := 3) rfl))) rfl (by decide) (by decide) (by decide) (by decide) d_init_47 (fun q6 => ?_)
  refine z_putF (ws' := [(h0, .inr (0, [.int 0, .ref q1, .ref q2, .ref q3, .ref q4, .ref q5, .ref q6, .null, .null, .null, .null, .null, .int 0, .int 0, .int 0])), (q1, .inl (cI, 24, .inl (fun _ => 0))), (q2, .inl (cI, 24, .inl (fun _ => 0))), (q3, .inl (cI, 72, .inl (fun _ => 0))), (q4, .inl (cI, 96, .inl (fun _ => 0))), (q5, .inl (cI, 96, .inl (fun _ => 0))), (q6, .inl (cI, 24, .inl (fun _ => 0)))]) Z hnm in_X t_X t_X_ok n_X 0 rfl rfl 6 (by decide) (List.mem_cons_of_mem _ lk_X_entryCounts) rfl rfl (ty := .array .int) (by decide +kernel) rfl rfl (Nat.le_of_ble_eq_true rfl) d_init_49 rfl ?_
  refine z_aload_n Z 0 d_init_52 rfl rfl ?_
  refine z_bipush Z (nI 24) d_init_53 zb_24 ?_
  refine z_newaI Z0 0 (List.mem_cons_of_mem _ (List.mem_append_right _ (List.mem_of_getElem? (i := 3) rfl))) rfl (by decide) (by decide) (by decide) (by decide) d_init_55 (fun q7 => ?_)
  refine z_putF (ws' := [(h0, .inr (0, [.int 0, .ref q1, .ref q2, .ref q3, .ref q4, .ref q5, .ref q6, .ref q7, .null, .null, .null, .null, .int 0, .int 0, .int 0])), (q1, .inl (cI, 24, .inl (fun _ => 0))), (q2, .inl (cI, 24, .inl (fun _ => 0))), (q3, .inl (cI, 72, .inl (fun _ => 0))), (q4, .inl (cI, 96, .inl (fun _ => 0))), (q5, .inl (cI, 96, .inl (fun _ => 0))), (q6, .inl (cI, 24, .inl (fun _ => 0))), (q7, .inl (cI, 24, .inl (fun _ => 0)))]) Z hnm in_X t_X t_X_ok n_X 0 rfl rfl 7 (by decide) (List.mem_cons_of_mem _ lk_X_states) rfl rfl (ty := .array .int) (by decide +kernel) rfl rfl (Nat.le_of_ble_eq_true rfl) d_init_57 rfl ?_
  refine z_aload_n Z 0 d_init_60 rfl rfl ?_
  refine z_bipush Z (nI 24) d_init_61 zb_24 ?_
  refine z_newaI Z0 0 (List.mem_cons_of_mem _ (List.mem_append_right _ (List.mem_of_getElem? (i := 3) rfl))) rfl (by decide) (by decide) (by decide) (by decide) d_init_63 (fun q8 => ?_)
  refine z_putF (ws' := [(h0, .inr (0, [.int 0, .ref q1, .ref q2, .ref q3, .ref q4, .ref q5, .ref q6, .ref q7, .ref q8, .null, .null, .null, .int 0, .int 0, .int 0])), (q1, .inl (cI, 24, .inl (fun _ => 0))), (q2, .inl (cI, 24, .inl (fun _ => 0))), (q3, .inl (cI, 72, .inl (fun _ => 0))), (q4, .inl (cI, 96, .inl (fun _ => 0))), (q5, .inl (cI, 96, .inl (fun _ => 0))), (q6, .inl (cI, 24, .inl (fun _ => 0))), (q7, .inl (cI, 24, .inl (fun _ => 0))), (q8, .inl (cI, 24, .inl (fun _ => 0)))]) Z hnm in_X t_X t_X_ok n_X 0 rfl rfl 8 (by decide) (List.mem_cons_of_mem _ lk_X_actions) rfl rfl (ty := .array .int) (by decide +kernel) rfl rfl (Nat.le_of_ble_eq_true rfl) d_init_65 rfl ?_
  refine z_aload_n Z 0 d_init_68 rfl rfl ?_
  refine z_bipush Z (nI 24) d_init_69 zb_24 ?_
  refine z_newaI Z0 0 (List.mem_cons_of_mem _ (List.mem_append_right _ (List.mem_of_getElem? (i := 3) rfl))) rfl (by decide) (by decide) (by decide) (by decide) d_init_71 (fun q9 => ?_)
  refine z_putF (ws' := [(h0, .inr (0, [.int 0, .ref q1, .ref q2, .ref q3, .ref q4, .ref q5, .ref q6, .ref q7, .ref q8, .ref q9, .null, .null, .int 0, .int 0, .int 0])), (q1, .inl (cI, 24, .inl (fun _ => 0))), (q2, .inl (cI, 24, .inl (fun _ => 0))), (q3, .inl (cI, 72, .inl (fun _ => 0))), (q4, .inl (cI, 96, .inl (fun _ => 0))), (q5, .inl (cI, 96, .inl (fun _ => 0))), (q6, .inl (cI, 24, .inl (fun _ => 0))), (q7, .inl (cI, 24, .inl (fun _ => 0))), (q8, .inl (cI, 24, .inl (fun _ => 0))), (q9, .inl (cI, 24, .inl (fun _ => 0)))]) Z hnm in_X t_X t_X_ok n_X 0 rfl rfl 9 (by decide) (List.mem_cons_of_mem _ lk_X_targets) rfl rfl (ty := .array .int) (by decide +kernel) rfl rfl (Nat.le_of_ble_eq_true rfl) d_init_73 rfl ?_
  refine z_aload_n Z 0 d_init_76 rfl rfl ?_
  refine z_bipush Z (nI 6) d_init_77 zb_6 ?_
  refine z_newaI Z0 0 (List.mem_cons_of_mem _ (List.mem_append_right _ (List.mem_of_getElem? (i := 3) rfl))) rfl (by decide) (by decide) (by decide) (by decide) d_init_79 (fun q10 => ?_)
  refine z_putF (ws' := [(h0, .inr (0, [.int 0, .ref q1, .ref q2, .ref q3, .ref q4, .ref q5, .ref q6, .ref q7, .ref q8, .ref q9, .ref q10, .null, .int 0, .int 0, .int 0])), (q1, .inl (cI, 24, .inl (fun _ => 0))), (q2, .inl (cI, 24, .inl (fun _ => 0))), (q3, .inl (cI, 72, .inl (fun _ => 0))), (q4, .inl (cI, 96, .inl (fun _ => 0))), (q5, .inl (cI, 96, .inl (fun _ => 0))), (q6, .inl (cI, 24, .inl (fun _ => 0))), (q7, .inl (cI, 24, .inl (fun _ => 0))), (q8, .inl (cI, 24, .inl (fun _ => 0))), (q9, .inl (cI, 24, .inl (fun _ => 0))), (q10, .inl (cI, 6, .inl (fun _ => 0)))]) Z hnm in_X t_X t_X_ok n_X 0 rfl rfl 10 (by decide) (List.mem_cons_of_mem _ lk_X_roots) rfl rfl (ty := .array .int) (by decide +kernel) rfl rfl (Nat.le_of_ble_eq_true rfl) d_init_81 rfl ?_
  refine z_aload_n Z 0 d_init_84 rfl rfl ?_
  refine z_bipush Z (nI 24) d_init_85 zb_24 ?_
  refine z_newaI Z0 0 (List.mem_cons_of_mem _ (List.mem_append_right _ (List.mem_of_getElem? (i := 3) rfl))) rfl (by decide) (by decide) (by decide) (by decide) d_init_87 (fun q11 => ?_)
  refine z_putF (ws' := [(h0, .inr (0, [.int 0, .ref q1, .ref q2, .ref q3, .ref q4, .ref q5, .ref q6, .ref q7, .ref q8, .ref q9, .ref q10, .ref q11, .int 0, .int 0, .int 0])), (q1, .inl (cI, 24, .inl (fun _ => 0))), (q2, .inl (cI, 24, .inl (fun _ => 0))), (q3, .inl (cI, 72, .inl (fun _ => 0))), (q4, .inl (cI, 96, .inl (fun _ => 0))), (q5, .inl (cI, 96, .inl (fun _ => 0))), (q6, .inl (cI, 24, .inl (fun _ => 0))), (q7, .inl (cI, 24, .inl (fun _ => 0))), (q8, .inl (cI, 24, .inl (fun _ => 0))), (q9, .inl (cI, 24, .inl (fun _ => 0))), (q10, .inl (cI, 6, .inl (fun _ => 0))), (q11, .inl (cI, 24, .inl (fun _ => 0)))]) Z hnm in_X t_X t_X_ok n_X 0 rfl rfl 11 (by decide) (List.mem_cons_of_mem _ lk_X_queue) rfl rfl (ty := .array .int) (by decide +kernel) rfl rfl (Nat.le_of_ble_eq_true rfl) d_init_89 rfl ?_
  refine z_ws (ws' := wx (hhX h0 q1 q2 q3 q4 q5 q6 q7 q8 q9 q10 q11) cI z0) rfl ?_
  refine z_iconst Z (nI 0) d_init_92 zi_0 ?_
  refine z_istore_n Z 1 d_init_93 rfl (by decide) rfl ?_
  refine z_lv (lv' := [(0, .ref h0), (1, .int (nI 0))]) rfl ?_
  refine z_ws (ws' := wx (hhX h0 q1 q2 q3 q4 q5 q6 q7 q8 q9 q10 q11) cI (va_up z0 10 (fllM (z0 10) 0))) (congrArg (wx (hhX h0 q1 q2 q3 q4 q5 q6 q7 q8 q9 q10 q11) cI) (va_up_same _ _).symm) ?_
  refine z_loop (fun i : Nat => i ≤ 6) (fun i : Nat => 6 - i) (fun i : Nat => wx (hhX h0 q1 q2 q3 q4 q5 q6 q7 q8 q9 q10 q11) cI (va_up z0 10 (fllM (z0 10) i))) (fun i : Nat => [(0, .ref h0), (1, .int (nI i))]) (fun i hi ih => ?_) 0 (by omega)
  refine z_iload_n Z 1 d_init_94 rfl rfl ?_
  refine z_bipush Z (nI 6) d_init_95 zb_6 ?_
  refine z_icmpN_ge Z 113 d_init_97 (by decide) (by omega) (by omega) (fun hg => ?_) (fun hg => ?_)
  rotate_left
  · refine z_aload_n Z 0 d_init_100 rfl rfl ?_
    refine xg_10 (h := (hhX h0 q1 q2 q3 q4 q5 q6 q7 q8 q9 q10 q11)) Z d_init_101 ?_
    refine z_iload_n Z 1 d_init_104 rfl rfl ?_
    refine z_iconst Z (-1) d_init_105 zi_m1 ?_
    refine xs_10 (h := (hhX h0 q1 q2 q3 q4 q5 q6 q7 q8 q9 q10 q11)) Z (by omega) d_init_106 ?_
    refine z_iincN Z 1 d_init_107 rfl (by decide) rfl ?_
    refine z_goto Z 94 d_init_110 (by decide) ?_
    exact z_ws rfl (z_lv rfl (ih (i + 1) (by omega) (by omega)))
  obtain rfl : i = 6 := by omega
  clear ih hi hg
  refine z_rv Z ((hhX h0 q1 q2 q3 q4 q5 q6 q7 q8 q9 q10 q11), (va_up z0 10 (fllM (z0 10) 6))) hr d_init_113 (by decide) (by decide) rfl ?_
  exact ⟨rfl, rfl⟩
def wMi : List Cond := wM ++ [.methodLink R_M 1 Lib.objectInit, .instanceMethod Lib.objectInit, .code Lib.objectInit ⟨#[0xb1]⟩ 1 none, .arrayClass .int, .arrayClass .boolean]
def w_m_init : List Cond := .code y_m_init b_m_init 2 none :: wMi
abbrev rm_m_init : Room := { frames := 1, cells := 12, slots := 462, locals := 12 }
def fsM0 : List Value := [.int 0, .int 0, .int 0, .null, .null, .null, .null, .null, .null, .null, .null, .null, .null, .null, .int 0, .null]
def hhM (q0 q1 q2 q3 q4 q5 q6 q7 q8 q9 q10 q11 q12 : Nat) : Nat → Nat := fun k => match k with | 0 => q0 | 1 => q1 | 2 => q2 | 3 => q3 | 6 => q6 | 4 => q4 | 5 => q5 | 7 => q7 | 8 => q8 | 9 => q9 | 10 => q10 | 11 => q11 | 12 => q12 | _ => 0
set_option maxHeartbeats 4000000 in
set_option maxRecDepth 100000 in
theorem c_m_init {l : Launch} {D : va_G} {cI cB cL : ClassId} {h0 : Nat} : zMet l y_m_init w_m_init rm_m_init D zCl (zTy cI cB cL) [(h0, .inr (1, fsM0))] [.ref h0] (qv (fun u : (Nat → Nat) × St => (wm u.1 cI cB u.2)) (fun u => u.1 0 = h0 ∧ u.2 = sM0) noXs) 12 462 12 462 := by
  refine z_meth (by decide) rfl (Nat.le_of_ble_eq_true rfl) (fun p e s mm as bl me cd Z0 hr hnm ht => ?_)
  have Z := z_subT (Ts' := .code y_m_init b_m_init 2 none :: wM) Z0 (fun w hw => (List.mem_cons.mp hw).elim (fun e => e ▸ List.mem_cons_self) (fun h => List.mem_cons_of_mem _ (List.mem_append_left _ h)))
  refine z_aload_n Z 0 d_m_init_0 rfl rfl ?_
  refine z_objInit Z0 (List.mem_cons_of_mem _ (List.mem_append_right _ (List.mem_of_getElem? (i := 0) rfl))) (List.mem_cons_of_mem _ (List.mem_append_right _ (List.mem_of_getElem? (i := 1) rfl))) (List.mem_cons_of_mem _ (List.mem_append_right _ (List.mem_of_getElem? (i := 2) rfl))) (by decide) (by decide) d_m_init_1 ?_
  refine z_aload_n Z 0 d_m_init_4 rfl rfl ?_
  refine z_bipush Z (nI 24) d_m_init_5 zb_24 ?_
  refine z_newaI Z0 0 (List.mem_cons_of_mem _ (List.mem_append_right _ (List.mem_of_getElem? (i := 3) rfl))) rfl (by decide) (by decide) (by decide) (by decide) d_m_init_7 (fun q1 => ?_)
  refine z_putF (ws' := [(h0, .inr (1, [.int 0, .int 0, .int 0, .ref q1, .null, .null, .null, .null, .null, .null, .null, .null, .null, .null, .int 0, .null])), (q1, .inl (cI, 24, .inl (fun _ => 0)))]) Z hnm in_M t_M t_M_ok n_M 0 rfl rfl 3 (by decide) (List.mem_cons_of_mem _ lk_M_kinds) rfl rfl (ty := .array .int) (by decide +kernel) rfl rfl (Nat.le_of_ble_eq_true rfl) d_m_init_9 rfl ?_
  refine z_aload_n Z 0 d_m_init_12 rfl rfl ?_
  refine z_bipush Z (nI 24) d_m_init_13 zb_24 ?_
  refine z_newaI Z0 0 (List.mem_cons_of_mem _ (List.mem_append_right _ (List.mem_of_getElem? (i := 3) rfl))) rfl (by decide) (by decide) (by decide) (by decide) d_m_init_15 (fun q2 => ?_)
  refine z_putF (ws' := [(h0, .inr (1, [.int 0, .int 0, .int 0, .ref q1, .ref q2, .null, .null, .null, .null, .null, .null, .null, .null, .null, .int 0, .null])), (q1, .inl (cI, 24, .inl (fun _ => 0))), (q2, .inl (cI, 24, .inl (fun _ => 0)))]) Z hnm in_M t_M t_M_ok n_M 0 rfl rfl 4 (by decide) (List.mem_cons_of_mem _ lk_M_serials) rfl rfl (ty := .array .int) (by decide +kernel) rfl rfl (Nat.le_of_ble_eq_true rfl) d_m_init_17 rfl ?_
  refine z_aload_n Z 0 d_m_init_20 rfl rfl ?_
  refine z_bipush Z (nI 72) d_m_init_21 zb_72 ?_
  refine z_newaI Z0 0 (List.mem_cons_of_mem _ (List.mem_append_right _ (List.mem_of_getElem? (i := 3) rfl))) rfl (by decide) (by decide) (by decide) (by decide) d_m_init_23 (fun q3 => ?_)
  refine z_putF (ws' := [(h0, .inr (1, [.int 0, .int 0, .int 0, .ref q1, .ref q2, .ref q3, .null, .null, .null, .null, .null, .null, .null, .null, .int 0, .null])), (q1, .inl (cI, 24, .inl (fun _ => 0))), (q2, .inl (cI, 24, .inl (fun _ => 0))), (q3, .inl (cI, 72, .inl (fun _ => 0)))]) Z hnm in_M t_M t_M_ok n_M 0 rfl rfl 5 (by decide) (List.mem_cons_of_mem _ lk_M_fields) rfl rfl (ty := .array .int) (by decide +kernel) rfl rfl (Nat.le_of_ble_eq_true rfl) d_m_init_25 rfl ?_
  refine z_aload_n Z 0 d_m_init_28 rfl rfl ?_
  refine z_bipush Z (nI 24) d_m_init_29 zb_24 ?_
  refine z_newaI Z0 0 (List.mem_cons_of_mem _ (List.mem_append_right _ (List.mem_of_getElem? (i := 3) rfl))) rfl (by decide) (by decide) (by decide) (by decide) d_m_init_31 (fun q6 => ?_)
  refine z_putF (ws' := [(h0, .inr (1, [.int 0, .int 0, .int 0, .ref q1, .ref q2, .ref q3, .ref q6, .null, .null, .null, .null, .null, .null, .null, .int 0, .null])), (q1, .inl (cI, 24, .inl (fun _ => 0))), (q2, .inl (cI, 24, .inl (fun _ => 0))), (q3, .inl (cI, 72, .inl (fun _ => 0))), (q6, .inl (cI, 24, .inl (fun _ => 0)))]) Z hnm in_M t_M t_M_ok n_M 0 rfl rfl 6 (by decide) (List.mem_cons_of_mem _ lk_M_entries) rfl rfl (ty := .array .int) (by decide +kernel) rfl rfl (Nat.le_of_ble_eq_true rfl) d_m_init_33 rfl ?_
  refine z_aload_n Z 0 d_m_init_36 rfl rfl ?_
  refine z_bipush Z (nI 96) d_m_init_37 zb_96 ?_
  refine z_newaI Z0 0 (List.mem_cons_of_mem _ (List.mem_append_right _ (List.mem_of_getElem? (i := 3) rfl))) rfl (by decide) (by decide) (by decide) (by decide) d_m_init_39 (fun q4 => ?_)
  refine z_putF (ws' := [(h0, .inr (1, [.int 0, .int 0, .int 0, .ref q1, .ref q2, .ref q3, .ref q6, .ref q4, .null, .null, .null, .null, .null, .null, .int 0, .null])), (q1, .inl (cI, 24, .inl (fun _ => 0))), (q2, .inl (cI, 24, .inl (fun _ => 0))), (q3, .inl (cI, 72, .inl (fun _ => 0))), (q6, .inl (cI, 24, .inl (fun _ => 0))), (q4, .inl (cI, 96, .inl (fun _ => 0)))]) Z hnm in_M t_M t_M_ok n_M 0 rfl rfl 7 (by decide) (List.mem_cons_of_mem _ lk_M_keys) rfl rfl (ty := .array .int) (by decide +kernel) rfl rfl (Nat.le_of_ble_eq_true rfl) d_m_init_41 rfl ?_
  refine z_aload_n Z 0 d_m_init_44 rfl rfl ?_
  refine z_bipush Z (nI 96) d_m_init_45 zb_96 ?_
  refine z_newaI Z0 0 (List.mem_cons_of_mem _ (List.mem_append_right _ (List.mem_of_getElem? (i := 3) rfl))) rfl (by decide) (by decide) (by decide) (by decide) d_m_init_47 (fun q5 => ?_)
  refine z_putF (ws' := [(h0, .inr (1, [.int 0, .int 0, .int 0, .ref q1, .ref q2, .ref q3, .ref q6, .ref q4, .ref q5, .null, .null, .null, .null, .null, .int 0, .null])), (q1, .inl (cI, 24, .inl (fun _ => 0))), (q2, .inl (cI, 24, .inl (fun _ => 0))), (q3, .inl (cI, 72, .inl (fun _ => 0))), (q6, .inl (cI, 24, .inl (fun _ => 0))), (q4, .inl (cI, 96, .inl (fun _ => 0))), (q5, .inl (cI, 96, .inl (fun _ => 0)))]) Z hnm in_M t_M t_M_ok n_M 0 rfl rfl 8 (by decide) (List.mem_cons_of_mem _ lk_M_values) rfl rfl (ty := .array .int) (by decide +kernel) rfl rfl (Nat.le_of_ble_eq_true rfl) d_m_init_49 rfl ?_
  refine z_aload_n Z 0 d_m_init_52 rfl rfl ?_
  refine z_bipush Z (nI 24) d_m_init_53 zb_24 ?_
  refine z_newaI Z0 0 (List.mem_cons_of_mem _ (List.mem_append_right _ (List.mem_of_getElem? (i := 3) rfl))) rfl (by decide) (by decide) (by decide) (by decide) d_m_init_55 (fun q7 => ?_)
  refine z_putF (ws' := [(h0, .inr (1, [.int 0, .int 0, .int 0, .ref q1, .ref q2, .ref q3, .ref q6, .ref q4, .ref q5, .ref q7, .null, .null, .null, .null, .int 0, .null])), (q1, .inl (cI, 24, .inl (fun _ => 0))), (q2, .inl (cI, 24, .inl (fun _ => 0))), (q3, .inl (cI, 72, .inl (fun _ => 0))), (q6, .inl (cI, 24, .inl (fun _ => 0))), (q4, .inl (cI, 96, .inl (fun _ => 0))), (q5, .inl (cI, 96, .inl (fun _ => 0))), (q7, .inl (cI, 24, .inl (fun _ => 0)))]) Z hnm in_M t_M t_M_ok n_M 0 rfl rfl 9 (by decide) (List.mem_cons_of_mem _ lk_M_states) rfl rfl (ty := .array .int) (by decide +kernel) rfl rfl (Nat.le_of_ble_eq_true rfl) d_m_init_57 rfl ?_
  refine z_aload_n Z 0 d_m_init_60 rfl rfl ?_
  refine z_bipush Z (nI 24) d_m_init_61 zb_24 ?_
  refine z_newaI Z0 0 (List.mem_cons_of_mem _ (List.mem_append_right _ (List.mem_of_getElem? (i := 3) rfl))) rfl (by decide) (by decide) (by decide) (by decide) d_m_init_63 (fun q8 => ?_)
  refine z_putF (ws' := [(h0, .inr (1, [.int 0, .int 0, .int 0, .ref q1, .ref q2, .ref q3, .ref q6, .ref q4, .ref q5, .ref q7, .ref q8, .null, .null, .null, .int 0, .null])), (q1, .inl (cI, 24, .inl (fun _ => 0))), (q2, .inl (cI, 24, .inl (fun _ => 0))), (q3, .inl (cI, 72, .inl (fun _ => 0))), (q6, .inl (cI, 24, .inl (fun _ => 0))), (q4, .inl (cI, 96, .inl (fun _ => 0))), (q5, .inl (cI, 96, .inl (fun _ => 0))), (q7, .inl (cI, 24, .inl (fun _ => 0))), (q8, .inl (cI, 24, .inl (fun _ => 0)))]) Z hnm in_M t_M t_M_ok n_M 0 rfl rfl 10 (by decide) (List.mem_cons_of_mem _ lk_M_actions) rfl rfl (ty := .array .int) (by decide +kernel) rfl rfl (Nat.le_of_ble_eq_true rfl) d_m_init_65 rfl ?_
  refine z_aload_n Z 0 d_m_init_68 rfl rfl ?_
  refine z_bipush Z (nI 24) d_m_init_69 zb_24 ?_
  refine z_newaI Z0 0 (List.mem_cons_of_mem _ (List.mem_append_right _ (List.mem_of_getElem? (i := 3) rfl))) rfl (by decide) (by decide) (by decide) (by decide) d_m_init_71 (fun q9 => ?_)
  refine z_putF (ws' := [(h0, .inr (1, [.int 0, .int 0, .int 0, .ref q1, .ref q2, .ref q3, .ref q6, .ref q4, .ref q5, .ref q7, .ref q8, .ref q9, .null, .null, .int 0, .null])), (q1, .inl (cI, 24, .inl (fun _ => 0))), (q2, .inl (cI, 24, .inl (fun _ => 0))), (q3, .inl (cI, 72, .inl (fun _ => 0))), (q6, .inl (cI, 24, .inl (fun _ => 0))), (q4, .inl (cI, 96, .inl (fun _ => 0))), (q5, .inl (cI, 96, .inl (fun _ => 0))), (q7, .inl (cI, 24, .inl (fun _ => 0))), (q8, .inl (cI, 24, .inl (fun _ => 0))), (q9, .inl (cI, 24, .inl (fun _ => 0)))]) Z hnm in_M t_M t_M_ok n_M 0 rfl rfl 11 (by decide) (List.mem_cons_of_mem _ lk_M_places) rfl rfl (ty := .array .int) (by decide +kernel) rfl rfl (Nat.le_of_ble_eq_true rfl) d_m_init_73 rfl ?_
  refine z_aload_n Z 0 d_m_init_76 rfl rfl ?_
  refine z_bipush Z (nI 6) d_m_init_77 zb_6 ?_
  refine z_newaI Z0 0 (List.mem_cons_of_mem _ (List.mem_append_right _ (List.mem_of_getElem? (i := 3) rfl))) rfl (by decide) (by decide) (by decide) (by decide) d_m_init_79 (fun q10 => ?_)
  refine z_putF (ws' := [(h0, .inr (1, [.int 0, .int 0, .int 0, .ref q1, .ref q2, .ref q3, .ref q6, .ref q4, .ref q5, .ref q7, .ref q8, .ref q9, .ref q10, .null, .int 0, .null])), (q1, .inl (cI, 24, .inl (fun _ => 0))), (q2, .inl (cI, 24, .inl (fun _ => 0))), (q3, .inl (cI, 72, .inl (fun _ => 0))), (q6, .inl (cI, 24, .inl (fun _ => 0))), (q4, .inl (cI, 96, .inl (fun _ => 0))), (q5, .inl (cI, 96, .inl (fun _ => 0))), (q7, .inl (cI, 24, .inl (fun _ => 0))), (q8, .inl (cI, 24, .inl (fun _ => 0))), (q9, .inl (cI, 24, .inl (fun _ => 0))), (q10, .inl (cI, 6, .inl (fun _ => 0)))]) Z hnm in_M t_M t_M_ok n_M 0 rfl rfl 12 (by decide) (List.mem_cons_of_mem _ lk_M_roots) rfl rfl (ty := .array .int) (by decide +kernel) rfl rfl (Nat.le_of_ble_eq_true rfl) d_m_init_81 rfl ?_
  refine z_aload_n Z 0 d_m_init_84 rfl rfl ?_
  refine z_bipush Z (nI 24) d_m_init_85 zb_24 ?_
  refine z_newaI Z0 0 (List.mem_cons_of_mem _ (List.mem_append_right _ (List.mem_of_getElem? (i := 3) rfl))) rfl (by decide) (by decide) (by decide) (by decide) d_m_init_87 (fun q11 => ?_)
  refine z_putF (ws' := [(h0, .inr (1, [.int 0, .int 0, .int 0, .ref q1, .ref q2, .ref q3, .ref q6, .ref q4, .ref q5, .ref q7, .ref q8, .ref q9, .ref q10, .ref q11, .int 0, .null])), (q1, .inl (cI, 24, .inl (fun _ => 0))), (q2, .inl (cI, 24, .inl (fun _ => 0))), (q3, .inl (cI, 72, .inl (fun _ => 0))), (q6, .inl (cI, 24, .inl (fun _ => 0))), (q4, .inl (cI, 96, .inl (fun _ => 0))), (q5, .inl (cI, 96, .inl (fun _ => 0))), (q7, .inl (cI, 24, .inl (fun _ => 0))), (q8, .inl (cI, 24, .inl (fun _ => 0))), (q9, .inl (cI, 24, .inl (fun _ => 0))), (q10, .inl (cI, 6, .inl (fun _ => 0))), (q11, .inl (cI, 24, .inl (fun _ => 0)))]) Z hnm in_M t_M t_M_ok n_M 0 rfl rfl 13 (by decide) (List.mem_cons_of_mem _ lk_M_queue) rfl rfl (ty := .array .int) (by decide +kernel) rfl rfl (Nat.le_of_ble_eq_true rfl) d_m_init_89 rfl ?_
  refine z_aload_n Z 0 d_m_init_92 rfl rfl ?_
  refine z_bipush Z (nI 24) d_m_init_93 zb_24 ?_
  refine z_newaZ Z0 1 (List.mem_cons_of_mem _ (List.mem_append_right _ (List.mem_of_getElem? (i := 4) rfl))) rfl (by decide) (by decide) (by decide) (by decide) d_m_init_95 (fun q12 => ?_)
  refine z_putF (ws' := [(h0, .inr (1, [.int 0, .int 0, .int 0, .ref q1, .ref q2, .ref q3, .ref q6, .ref q4, .ref q5, .ref q7, .ref q8, .ref q9, .ref q10, .ref q11, .int 0, .ref q12])), (q1, .inl (cI, 24, .inl (fun _ => 0))), (q2, .inl (cI, 24, .inl (fun _ => 0))), (q3, .inl (cI, 72, .inl (fun _ => 0))), (q6, .inl (cI, 24, .inl (fun _ => 0))), (q4, .inl (cI, 96, .inl (fun _ => 0))), (q5, .inl (cI, 96, .inl (fun _ => 0))), (q7, .inl (cI, 24, .inl (fun _ => 0))), (q8, .inl (cI, 24, .inl (fun _ => 0))), (q9, .inl (cI, 24, .inl (fun _ => 0))), (q10, .inl (cI, 6, .inl (fun _ => 0))), (q11, .inl (cI, 24, .inl (fun _ => 0))), (q12, .inl (cB, 24, .inl (fun _ => 0)))]) Z hnm in_M t_M t_M_ok n_M 0 rfl rfl 15 (by decide) (List.mem_cons_of_mem _ lk_M_in) rfl rfl (ty := .array .boolean) (by decide +kernel) rfl rfl (Nat.le_of_ble_eq_true rfl) d_m_init_97 rfl ?_
  refine z_perm (ws' := [(h0, .inr (1, [.int 0, .int 0, .int 0, .ref q1, .ref q2, .ref q3, .ref q6, .ref q4, .ref q5, .ref q7, .ref q8, .ref q9, .ref q10, .ref q11, .int 0, .ref q12])), (q1, .inl (cI, 24, .inl (fun _ => 0))), (q2, .inl (cI, 24, .inl (fun _ => 0))), (q3, .inl (cI, 72, .inl (fun _ => 0))), (q4, .inl (cI, 96, .inl (fun _ => 0))), (q5, .inl (cI, 96, .inl (fun _ => 0))), (q6, .inl (cI, 24, .inl (fun _ => 0))), (q7, .inl (cI, 24, .inl (fun _ => 0))), (q8, .inl (cI, 24, .inl (fun _ => 0))), (q9, .inl (cI, 24, .inl (fun _ => 0))), (q10, .inl (cI, 6, .inl (fun _ => 0))), (q11, .inl (cI, 24, .inl (fun _ => 0))), (q12, .inl (cB, 24, .inl (fun _ => 0)))]) [0, 1, 2, 3, 5, 6, 4, 7, 8, 9, 10, 11, 12] (by decide) rfl rfl ?_
  refine z_ws (ws' := wm (hhM h0 q1 q2 q3 q4 q5 q6 q7 q8 q9 q10 q11 q12) cI cB z0) rfl ?_
  refine z_iconst Z (nI 0) d_m_init_100 zi_0 ?_
  refine z_istore_n Z 1 d_m_init_101 rfl (by decide) rfl ?_
  refine z_lv (lv' := [(0, .ref h0), (1, .int (nI 0))]) rfl ?_
  refine z_ws (ws' := wm (hhM h0 q1 q2 q3 q4 q5 q6 q7 q8 q9 q10 q11 q12) cI cB (va_up z0 1 (fllM (z0 1) 0))) (congrArg (wm (hhM h0 q1 q2 q3 q4 q5 q6 q7 q8 q9 q10 q11 q12) cI cB) (va_up_same _ _).symm) ?_
  refine z_loop (fun i : Nat => i ≤ 24) (fun i : Nat => 24 - i) (fun i : Nat => wm (hhM h0 q1 q2 q3 q4 q5 q6 q7 q8 q9 q10 q11 q12) cI cB (va_up z0 1 (fllM (z0 1) i))) (fun i : Nat => [(0, .ref h0), (1, .int (nI i))]) (fun i hi ih => ?_) 0 (by omega)
  refine z_iload_n Z 1 d_m_init_102 rfl rfl ?_
  refine z_bipush Z (nI 24) d_m_init_103 zb_24 ?_
  refine z_icmpN_ge Z 121 d_m_init_105 (by decide) (by omega) (by omega) (fun hg => ?_) (fun hg => ?_)
  rotate_left
  · refine z_aload_n Z 0 d_m_init_108 rfl rfl ?_
    refine mg_1 (h := (hhM h0 q1 q2 q3 q4 q5 q6 q7 q8 q9 q10 q11 q12)) Z d_m_init_109 ?_
    refine z_iload_n Z 1 d_m_init_112 rfl rfl ?_
    refine z_iconst Z (-1) d_m_init_113 zi_m1 ?_
    refine ms_1 (h := (hhM h0 q1 q2 q3 q4 q5 q6 q7 q8 q9 q10 q11 q12)) Z (by omega) d_m_init_114 ?_
    refine z_iincN Z 1 d_m_init_115 rfl (by decide) rfl ?_
    refine z_goto Z 102 d_m_init_118 (by decide) ?_
    exact z_ws rfl (z_lv rfl (ih (i + 1) (by omega) (by omega)))
  obtain rfl : i = 24 := by omega
  clear ih hi hg
  refine z_iconst Z (nI 0) d_m_init_121 zi_0 ?_
  refine z_istore_n Z 1 d_m_init_122 rfl (by decide) rfl ?_
  refine z_lv (lv' := [(0, .ref h0), (1, .int (nI 0))]) rfl ?_
  refine z_ws (ws' := wm (hhM h0 q1 q2 q3 q4 q5 q6 q7 q8 q9 q10 q11 q12) cI cB (va_up (va_up z0 1 (fllM (z0 1) 24)) 10 (fllM ((va_up z0 1 (fllM (z0 1) 24)) 10) 0))) (congrArg (wm (hhM h0 q1 q2 q3 q4 q5 q6 q7 q8 q9 q10 q11 q12) cI cB) (va_up_same _ _).symm) ?_
  refine z_loop (fun i : Nat => i ≤ 6) (fun i : Nat => 6 - i) (fun i : Nat => wm (hhM h0 q1 q2 q3 q4 q5 q6 q7 q8 q9 q10 q11 q12) cI cB (va_up (va_up z0 1 (fllM (z0 1) 24)) 10 (fllM ((va_up z0 1 (fllM (z0 1) 24)) 10) i))) (fun i : Nat => [(0, .ref h0), (1, .int (nI i))]) (fun i hi ih => ?_) 0 (by omega)
  refine z_iload_n Z 1 d_m_init_123 rfl rfl ?_
  refine z_bipush Z (nI 6) d_m_init_124 zb_6 ?_
  refine z_icmpN_ge Z 142 d_m_init_126 (by decide) (by omega) (by omega) (fun hg => ?_) (fun hg => ?_)
  rotate_left
  · refine z_aload_n Z 0 d_m_init_129 rfl rfl ?_
    refine mg_10 (h := (hhM h0 q1 q2 q3 q4 q5 q6 q7 q8 q9 q10 q11 q12)) Z d_m_init_130 ?_
    refine z_iload_n Z 1 d_m_init_133 rfl rfl ?_
    refine z_iconst Z (-1) d_m_init_134 zi_m1 ?_
    refine ms_10 (h := (hhM h0 q1 q2 q3 q4 q5 q6 q7 q8 q9 q10 q11 q12)) Z (by omega) d_m_init_135 ?_
    refine z_iincN Z 1 d_m_init_136 rfl (by decide) rfl ?_
    refine z_goto Z 123 d_m_init_139 (by decide) ?_
    exact z_ws rfl (z_lv rfl (ih (i + 1) (by omega) (by omega)))
  obtain rfl : i = 6 := by omega
  clear ih hi hg
  refine z_rv Z ((hhM h0 q1 q2 q3 q4 q5 q6 q7 q8 q9 q10 q11 q12), (va_up (va_up z0 1 (fllM (z0 1) 24)) 10 (fllM ((va_up z0 1 (fllM (z0 1) 24)) 10) 6))) hr d_m_init_142 (by decide) (by decide) rfl ?_
  exact ⟨rfl, rfl⟩
end
section
/-! the class's state and the reference's: how they belong together -/
def al (σ : St) (c : Nat) : Prop := bt (σ 0 0) c = true
def rC (σ τ : St) (c : Nat) : Prop := σ 1 c = τ 1 c ∧ σ 2 c = τ 2 c ∧ (∀ f, f < fc (σ 1 c) → σ 3 (c * 3 + f) = τ 3 (c * 3 + f)) ∧ (σ 1 c = nI 2 → ent σ c = ent τ c) ∧ σ 7 c = τ 7 c ∧ (¬ σ 7 c = 0 → σ 8 c = τ 8 c ∧ σ 9 c = τ 9 c)
def iE (σ : St) (c : Nat) : Prop := (∀ q ∈ ent σ c, (∃ k, k < 24 ∧ q.1 = nI k ∧ al σ k) ∧ ∃ d, d < 24 ∧ q.2 = nI d ∧ al σ d) ∧ ((ent σ c).map Prod.fst).Nodup
def iC (σ : St) (c : Nat) : Prop := isK (σ 1 c) ∧ (∃ s, s < 4 ∧ σ 7 c = nI s) ∧ (∀ f d, f < fc (σ 1 c) → d < 24 → σ 3 (c * 3 + f) = nI d → al σ d) ∧ (σ 1 c = nI 2 → iE σ c)
def a8 (σ : St) : Prop := ∀ c, c < 24 → ∃ a, a < 4 ∧ σ 8 c = nI a
def rR (σ τ : St) : Prop := ∀ r, r < 6 → σ 10 r = τ 10 r ∧ ∀ d, d < 24 → σ 10 r = nI d → al σ d
def rQ (σ τ : St) : Prop := ∃ w, w ≤ 24 ∧ σ 0 1 = nI w ∧ ∀ i, i < w → σ 11 i = τ 11 i ∧ ∀ d, d < 24 → σ 11 i = nI d → al σ d
def rA (σ τ : St) : Prop := lo24 (σ 0 0) ∧ ∀ c, c < 24 → (al σ c ↔ ¬ τ 1 c < 0)
def rS (σ τ : St) : Prop := σ 0 1 = τ 0 1 ∧ σ 0 2 = τ 0 2 ∧ σ 0 3 = τ 0 3
def Rel (σ τ : St) : Prop := rA σ τ ∧ rS σ τ ∧ (∀ c, c < 24 → al σ c → rC σ τ c ∧ iC σ c) ∧ rR σ τ ∧ rQ σ τ ∧ (wf σ ∧ wf τ) ∧ qI σ ∧ a8 σ ∧ a8 τ
section RelS
variable {σ τ σ' τ' : St}
theorem R_A (h : Rel σ τ) : rA σ τ := h.1
theorem R_S (h : Rel σ τ) : rS σ τ := h.2.1
theorem R_C (h : Rel σ τ) {c : Nat} (hc : c < 24) (ha : al σ c) : rC σ τ c ∧ iC σ c := h.2.2.1 c hc ha
theorem R_R (h : Rel σ τ) : rR σ τ := h.2.2.2.1
theorem R_Q (h : Rel σ τ) : rQ σ τ := h.2.2.2.2.1
theorem R_w1 (h : Rel σ τ) : wf σ := h.2.2.2.2.2.1.1
theorem R_w2 (h : Rel σ τ) : wf τ := h.2.2.2.2.2.1.2
theorem R_q1 (h : Rel σ τ) : qI σ := h.2.2.2.2.2.2.1
theorem R_8 (h : Rel σ τ) : a8 σ := h.2.2.2.2.2.2.2.1
theorem R_8' (h : Rel σ τ) : a8 τ := h.2.2.2.2.2.2.2.2
theorem R_w (h : Rel σ τ) : ∃ w, w ≤ 24 ∧ σ 0 1 = nI w ∧ τ 0 1 = nI w := by
  obtain ⟨w, hw, e, -⟩ := R_Q h
  exact ⟨w, hw, e, (R_S h).1 ▸ e⟩
theorem R_q2 (h : Rel σ τ) : qI τ := by
  obtain ⟨w, hw, ew, h1, h2⟩ := R_q1 h
  obtain ⟨w', hw', ew', h3⟩ := R_Q h
  have e : w' = w := (nI_eq (by omega) (by omega)).mp (ew'.symm.trans ew)
  subst e
  refine ⟨w', hw, (R_S h).1 ▸ ew, fun i hi => ?_, fun i j hi hj q => h2 i j hi hj ?_⟩
  · obtain ⟨d, hd, e1, e2⟩ := h1 i hi
    obtain ⟨e3, e4⟩ := h3 i hi
    exact ⟨d, hd, e3 ▸ e1, by rw [← (R_C h hd (e4 d hd e1)).1.2.2.2.2.1]; exact e2⟩
  · rw [(h3 i hi).1, (h3 j hj).1]; exact q
theorem R_th (h : Rel σ τ) (k : Nat) : Rel σ (th τ k) := h
theorem R_12 (h : Rel σ τ) (g : Nat → Int32) : Rel σ (va_up τ 12 g) := h
theorem R_of12 {g : Nat → Int32} (h : Rel σ (va_up τ 12 g)) : Rel σ τ := h
theorem R_T (h : Rel σ τ) (x : Int32) : isT σ x ↔ tM τ x := by
  constructor
  · rintro ⟨c, hc, e, ha⟩; exact ⟨c, hc, e, ((R_A h).2 c hc).mp ha⟩
  · rintro ⟨c, hc, e, ha⟩; exact ⟨c, hc, e, ((R_A h).2 c hc).mpr ha⟩
theorem R_Tn (h : Rel σ τ) (x : Int32) : (x = -1 ∨ isT σ x) ↔ (x = -1 ∨ tM τ x) := by rw [R_T h x]
theorem R_tab (h : Rel σ τ) {x : Int32} (hx : isT σ x) : isTab σ x ↔ isTab τ x := by
  obtain ⟨c, hc, rfl, ha⟩ := hx
  rw [isTab_nI hc, isTab_nI hc, (R_C h hc ha).1.1]
theorem R_F (h : Rel σ τ) {x f : Int32} (hx : isT σ x) : isF σ x f ↔ isF τ x f := by
  obtain ⟨c, hc, rfl, ha⟩ := hx
  rw [isF_nI hc, isF_nI hc, (R_C h hc ha).1.1]
theorem isK_nn {k : Int32} (h : isK k) : ¬ k < 0 := by
  obtain ⟨i, hi, rfl⟩ := h; exact nI_pos (by omega)
theorem nI_i {a b : Nat} (ha : a < 24) (hb : b < 24) (e : nI a = nI b) : a = b := (nI_eq (by omega) (by omega)).mp e
theorem th_0 (k : Nat) : (th τ k) 0 0 = nI k := rfl
/-- entries -/
theorem cnt_of_ent {c : Nat} (e : ent σ c = ent τ c) : cnt σ c = cnt τ c := by rw [← ent_len, e, ent_len]
theorem ent_at {c i : Nat} (e : ent σ c = ent τ c) (hi : i < cnt σ c) : σ 4 (c * 4 + i) = τ 4 (c * 4 + i) ∧ σ 5 (c * 4 + i) = τ 5 (c * 4 + i) := by
  have h1 := ent_get hi
  rw [e, ent_get (by rw [← cnt_of_ent e]; exact hi)] at h1
  have h2 := Option.some.inj h1
  exact ⟨(congrArg Prod.fst h2).symm, (congrArg Prod.snd h2).symm⟩
theorem ent_key {c i j : Nat} (hn : ((ent σ c).map Prod.fst).Nodup) (hi : i < cnt σ c) (hj : j < cnt σ c) (e : σ 4 (c * 4 + i) = σ 4 (c * 4 + j)) : i = j := by
  have li : i < ((ent σ c).map Prod.fst).length := by rw [List.length_map, ent_len]; exact hi
  have lj : j < ((ent σ c).map Prod.fst).length := by rw [List.length_map, ent_len]; exact hj
  have gi : ((ent σ c).map Prod.fst)[i]? = some (σ 4 (c * 4 + i)) := by rw [List.getElem?_map, ent_get hi]; rfl
  have gj : ((ent σ c).map Prod.fst)[j]? = some (σ 4 (c * 4 + j)) := by rw [List.getElem?_map, ent_get hj]; rfl
  rw [List.getElem?_eq_getElem li] at gi
  rw [List.getElem?_eq_getElem lj] at gj
  have gg : ((ent σ c).map Prod.fst)[i] = ((ent σ c).map Prod.fst)[j] := by rw [Option.some.inj gi, Option.some.inj gj, e]
  have hp := List.pairwise_iff_getElem.mp hn
  rcases Nat.lt_trichotomy i j with q | q | q
  · exact absurd gg (hp i j li lj q)
  · exact q
  · exact absurd gg.symm (hp j i lj li q)
/-- a cell is as it was -/
def sC (σ σ' : St) (c : Nat) : Prop := σ' 1 c = σ 1 c ∧ σ' 2 c = σ 2 c ∧ (∀ f, f < 3 → σ' 3 (c * 3 + f) = σ 3 (c * 3 + f)) ∧ ent σ' c = ent σ c ∧ σ' 7 c = σ 7 c ∧ σ' 8 c = σ 8 c ∧ σ' 9 c = σ 9 c
theorem fc3 {k : Int32} {f : Nat} (h : f < fc k) : f < 3 := Nat.lt_of_lt_of_le h (fc_le k)
theorem sC_ok {c : Nat} (hs : sC σ σ' c) (ht : sC τ τ' c) (hal : ∀ d, d < 24 → al σ d → al σ' d) (h : rC σ τ c ∧ iC σ c) : rC σ' τ' c ∧ iC σ' c := by
  obtain ⟨s1, s2, s3, s4, s7, s8, s9⟩ := hs
  obtain ⟨t1, t2, t3, t4, t7, t8, t9⟩ := ht
  obtain ⟨⟨r1, r2, r3, r4, r7, r8⟩, i1, i7, i3, i4⟩ := h
  refine ⟨⟨by rw [s1, t1]; exact r1, by rw [s2, t2]; exact r2, fun f hf => ?_, fun q => ?_, by rw [s7, t7]; exact r7, fun q => ?_⟩, by rw [s1]; exact i1, by rw [s7]; exact i7, fun f d hf hd e => ?_, fun q => ?_⟩
  · rw [s1] at hf; rw [s3 f (fc3 hf), t3 f (fc3 hf)]; exact r3 f hf
  · rw [s1] at q; rw [s4, t4]; exact r4 q
  · rw [s7] at q; rw [s8, t8, s9, t9]; exact r8 q
  · rw [s1] at hf; rw [s3 f (fc3 hf)] at e; exact hal d hd (i3 f d hf hd e)
  · rw [s1] at q
    obtain ⟨e1, e2⟩ := i4 q
    refine ⟨fun z hz => ?_, by rw [s4]; exact e2⟩
    rw [s4] at hz
    obtain ⟨⟨k, hk, ek, ak⟩, d, hd, ed, ad⟩ := e1 z hz
    exact ⟨⟨k, hk, ek, hal k hk ak⟩, d, hd, ed, hal d hd ad⟩
/-- a call that touches one cell and no more -/
theorem Rel_one {c0 : Nat} (h : Rel σ τ) (h0 : σ' 0 = σ 0) (t0 : τ' 0 1 = τ 0 1 ∧ τ' 0 2 = τ 0 2 ∧ τ' 0 3 = τ 0 3) (t1 : τ' 1 = τ 1) (hr : σ' 10 = σ 10) (tr : τ' 10 = τ 10) (hq : σ' 11 = σ 11) (tq : τ' 11 = τ 11)
    (hs : ∀ c, c < 24 → c ≠ c0 → sC σ σ' c) (ht : ∀ c, c < 24 → c ≠ c0 → sC τ τ' c) (hc : c0 < 24 → al σ c0 → rC σ' τ' c0 ∧ iC σ' c0) (w1 : wf σ') (w2 : wf τ') (q : qI σ') (a1 : a8 σ') (a2 : a8 τ') : Rel σ' τ' := by
  have ea : ∀ d, al σ' d ↔ al σ d := fun d => by unfold al; rw [h0]
  refine ⟨⟨by rw [h0]; exact (R_A h).1, fun c hc => by rw [ea, t1]; exact (R_A h).2 c hc⟩, ?_, fun c hc' ha => ?_, fun r hr' => ?_, ?_, ⟨w1, w2⟩, q, a1, a2⟩
  · unfold rS; rw [h0, t0.1, t0.2.1, t0.2.2]; exact R_S h
  · rw [ea] at ha
    by_cases e : c = c0
    · subst e; exact hc hc' ha
    · exact sC_ok (hs c hc' e) (ht c hc' e) (fun d _ q => (ea d).mpr q) (R_C h hc' ha)
  · rw [hr, tr]
    obtain ⟨q1, q2⟩ := R_R h r hr'
    exact ⟨q1, fun d hd e => (ea d).mpr (q2 d hd e)⟩
  · obtain ⟨w, hw, ew, hi⟩ := R_Q h
    refine ⟨w, hw, by rw [h0]; exact ew, fun i hil => ?_⟩
    rw [hq, tq]
    exact ⟨(hi i hil).1, fun d hd e => (ea d).mpr ((hi i hil).2 d hd e)⟩
/-- set -/
theorem Rel_set {c j : Nat} {t : Int32} (h : Rel σ τ) (hc : c < 24) (ha : al σ c) (hj : j < fc (σ 1 c)) (ht : t = -1 ∨ isT σ t) : Rel (va_up σ 3 (upd (σ 3) (c * 3 + j) t)) (va_up (th τ 0) 3 (upd (τ 3) (c * 3 + j) t)) := by
  have k1 := R_A h
  have k2 := R_S h
  have k3 := R_Q h
  have k4 := R_q1 h
  have k5 := R_8 h
  have k6 := R_8' h
  have hj3 := fc3 hj
  have hnc : nc t := by
    rcases ht with e | ⟨d, hd, e, -⟩
    · exact Or.inl e
    · exact Or.inr ⟨d, hd, e⟩
  have oth : ∀ ρ : St, ∀ c', c' ≠ c → ∀ f, f < 3 → upd (ρ 3) (c * 3 + j) t (c' * 3 + f) = ρ 3 (c' * 3 + f) := fun ρ c' hne f hf => pk_un (by omega)
  refine Rel_one (c0 := c) h rfl ⟨rfl, rfl, rfl⟩ rfl rfl rfl rfl rfl (fun c' _ hne => ⟨rfl, rfl, fun f hf => oth σ c' hne f hf, rfl, rfl, rfl, rfl⟩) (fun c' _ hne => ⟨rfl, rfl, fun f hf => oth τ c' hne f hf, rfl, rfl, rfl, rfl⟩) (fun _ _ => ?_) (wf_3 (R_w1 h) hnc) (wf_3 (R_w2 h) hnc) k4 k5 k6
  obtain ⟨⟨r1, r2, r3, r4, r7, r8⟩, i1, i7, i3, i4⟩ := R_C h hc ha
  refine ⟨⟨r1, r2, fun f hf => ?_, r4, r7, r8⟩, i1, i7, fun f d hf hd e => ?_, i4⟩
  · show upd (σ 3) (c * 3 + j) t (c * 3 + f) = upd (τ 3) (c * 3 + j) t (c * 3 + f)
    by_cases q : f = j
    · rw [q, pk_us, pk_us]
    · rw [pk_un (by omega), pk_un (by omega)]; exact r3 f hf
  · have e : upd (σ 3) (c * 3 + j) t (c * 3 + f) = nI d := e
    by_cases q : f = j
    · rw [q, pk_us] at e
      rcases ht with z | ⟨d', hd', z, az⟩
      · exact absurd (e.symm.trans z) (nI_m1 (by omega))
      · rw [nI_i hd hd' (e.symm.trans z)]; exact az
    · rw [pk_un (by omega)] at e; exact i3 f d hf hd e
/-- root -/
theorem wf_10 {j : Nat} {x : Int32} (hw : wf σ) (hx : nc x) : wf (va_up σ 10 (upd (σ 10) j x)) := by
  obtain ⟨h1, h2, h3, h4, h5, h6, h7⟩ := hw
  refine ⟨h1, h2, h3, h4, h5, fun r hr => ?_, h7⟩
  show nc (upd (σ 10) j x r)
  by_cases e : r = j
  · rw [e, pk_us]; exact hx
  · rw [pk_un e]; exact h6 r hr
theorem nc_T {x : Int32} (h : x = -1 ∨ isT σ x) : nc x := by
  rcases h with e | ⟨d, hd, e, -⟩
  · exact Or.inl e
  · exact Or.inr ⟨d, hd, e⟩
theorem Rel_root {j : Nat} {x : Int32} (h : Rel σ τ) (hx : x = -1 ∨ isT σ x) : Rel (va_up σ 10 (upd (σ 10) j x)) (va_up τ 10 (upd (τ 10) j x)) := by
  have k1 := R_A h
  have k2 := R_S h
  have k3 := R_Q h
  have k4 := R_q1 h
  have k5 := R_8 h
  have k6 := R_8' h
  have k7 := h.2.2.1
  refine ⟨k1, k2, k7, fun r hr => ?_, k3, ⟨wf_10 (R_w1 h) (nc_T hx), wf_10 (R_w2 h) (nc_T hx)⟩, k4, k5, k6⟩
  show upd (σ 10) j x r = upd (τ 10) j x r ∧ ∀ d, d < 24 → upd (σ 10) j x r = nI d → al σ d
  obtain ⟨q1, q2⟩ := R_R h r hr
  by_cases e : r = j
  · rw [e, pk_us, pk_us]
    refine ⟨rfl, fun d hd z => ?_⟩
    rcases hx with y | ⟨d', hd', y, ay⟩
    · exact absurd (z.symm.trans y) (nI_m1 (by omega))
    · rw [nI_i hd hd' (z.symm.trans y)]; exact ay
  · rw [pk_un e, pk_un e]; exact ⟨q1, q2⟩
/-- guard -/
theorem wf_9 {c : Nat} {f g : Nat → Int32} {r : Int32} (hw : wf σ) (hr : isR r) : wf (va_up (va_up (va_up σ 7 f) 8 g) 9 (upd (σ 9) c r)) := by
  obtain ⟨h1, h2, h3, h4, h5, h6⟩ := hw
  refine ⟨h1, h2, h3, h4, fun c' hc' => ?_, h6⟩
  show ∃ t, t < 6 ∧ upd (σ 9) c r c' = nI t
  by_cases e : c' = c
  · rw [e, pk_us]; obtain ⟨j, hj, q⟩ := hr; exact ⟨j, hj, q⟩
  · rw [pk_un e]; exact h5 c' hc'
theorem a8_up {c : Nat} {a : Int32} (h : a8 σ) (ha : isA a) : ∀ c', c' < 24 → ∃ i, i < 4 ∧ upd (σ 8) c a c' = nI i := fun c' hc' => by
  by_cases e : c' = c
  · rw [e, pk_us]; obtain ⟨j, hj, q⟩ := ha; exact ⟨j, hj, q⟩
  · rw [pk_un e]; exact h c' hc'
theorem qI_7 {c : Nat} {x : Int32} (h : qI σ) (hc : ¬ σ 7 c = nI 2) : qI (va_up σ 7 (upd (σ 7) c x)) := by
  obtain ⟨w, hw, ew, h1, h2⟩ := h
  refine ⟨w, hw, ew, fun i hi => ?_, h2⟩
  obtain ⟨d, hd, e1, e2⟩ := h1 i hi
  refine ⟨d, hd, e1, ?_⟩
  show upd (σ 7) c x d = nI 2
  have hne : d ≠ c := fun q => hc (by rw [← q]; exact e2)
  rw [pk_un hne]; exact e2
theorem Rel_guard {c : Nat} {a r : Int32} (h : Rel σ τ) (hc : c < 24) (ha : al σ c) (h7 : σ 7 c = 0) (hA : isA a) (hR : isR r) : Rel (grd σ c a r) (grd (th τ 0) c a r) := by
  have q7 : qI (va_up σ 7 (upd (σ 7) c (nI 1))) := qI_7 (R_q1 h) (fun q => by rw [h7] at q; exact absurd q (by decide))
  refine Rel_one (c0 := c) h rfl ⟨rfl, rfl, rfl⟩ rfl rfl rfl rfl rfl (fun c' _ hne => ⟨rfl, rfl, fun _ _ => rfl, rfl, pk_un hne, pk_un hne, pk_un hne⟩) (fun c' _ hne => ⟨rfl, rfl, fun _ _ => rfl, rfl, pk_un hne, pk_un hne, pk_un hne⟩) (fun _ _ => ?_) (wf_9 (R_w1 h) hR) (wf_9 (R_w2 h) hR) q7 (a8_up (R_8 h) hA) (a8_up (R_8' h) hA)
  obtain ⟨⟨r1, r2, r3, r4, r7, r8⟩, i1, i7, i3, i4⟩ := R_C h hc ha
  have e7 : (grd σ c a r) 7 c = nI 1 := pk_us
  have f7 : (grd (th τ 0) c a r) 7 c = nI 1 := pk_us
  have e8 : (grd σ c a r) 8 c = a := pk_us
  have f8 : (grd (th τ 0) c a r) 8 c = a := pk_us
  have e9 : (grd σ c a r) 9 c = r := pk_us
  have f9 : (grd (th τ 0) c a r) 9 c = r := pk_us
  exact ⟨⟨r1, r2, r3, r4, e7.trans f7.symm, fun _ => ⟨e8.trans f8.symm, e9.trans f9.symm⟩⟩, i1, ⟨1, by decide, e7⟩, i3, i4⟩
end RelS
end
section
/-! put, remove, run, make -/
section RelS2
variable {σ τ σ' τ' : St}
theorem ent_o4 {c c' : Nat} {f4 f5 : Nat → Int32} {x : Int32} (hn : cnt σ c' ≤ 4) (hne : c' ≠ c) (h4 : ∀ j, (j < c * 4 ∨ c * 4 + 4 ≤ j) → f4 j = σ 4 j) (h5 : ∀ j, (j < c * 4 ∨ c * 4 + 4 ≤ j) → f5 j = σ 5 j) : ent (va_up (va_up (va_up σ 4 f4) 5 f5) 6 (upd (σ 6) c x)) c' = ent σ c' :=
  ent_congr (τ := va_up (va_up (va_up σ 4 f4) 5 f5) 6 (upd (σ 6) c x)) (pk_un hne) hn (fun j h1 h2 => ⟨h4 j (by omega), h5 j (by omega)⟩)
theorem cl_T {x : Int32} (h : isT σ x) : cl24 x := by
  obtain ⟨d, hd, e, -⟩ := h; exact ⟨d, hd, e⟩
theorem wf_456 {c n i : Nat} {k v : Int32} (hw : wf σ) (hn : n ≤ 4) (hk : cl24 k) (hv : cl24 v) : wf (va_up (va_up (va_up σ 4 (upd (σ 4) i k)) 5 (upd (σ 5) i v)) 6 (upd (σ 6) c (nI n))) := by
  obtain ⟨h1, h2, h3, h4, h5⟩ := hw
  refine ⟨fun c' hc' => ?_, h2, fun j hj => ?_, fun j hj => ?_, h5⟩
  · show ∃ n', n' ≤ 4 ∧ upd (σ 6) c (nI n) c' = nI n'
    by_cases e : c' = c
    · rw [e, pk_us]; exact ⟨n, hn, rfl⟩
    · rw [pk_un e]; exact h1 c' hc'
  · show cl24 (upd (σ 4) i k j)
    by_cases e : j = i
    · rw [e, pk_us]; exact hk
    · rw [pk_un e]; exact h3 j hj
  · show cl24 (upd (σ 5) i v j)
    by_cases e : j = i
    · rw [e, pk_us]; exact hv
    · rw [pk_un e]; exact h4 j hj
theorem ent_apd {c : Nat} {k v : Int32} (hn : cnt σ c < 4) : ent (apd σ c k v) c = ent σ c ++ [(k, v)] := by
  have e : cnt (apd σ c k v) c = cnt σ c + 1 := by
    show (upd (σ 6) c (nI (cnt σ c + 1)) c).toNatClampNeg = _
    rw [pk_us, nI_clamp (by omega)]
  rw [ent_rws, e, rws_s, ent_rws]
  have e4 : (apd σ c k v) 4 (c * 4 + cnt σ c) = k := pk_us
  have e5 : (apd σ c k v) 5 (c * 4 + cnt σ c) = v := pk_us
  rw [e4, e5, rws_congr (σ := σ) (τ := apd σ c k v) (fun j h1 h2 => ⟨pk_un (by omega), pk_un (by omega)⟩)]
theorem up_out {c i : Nat} {x : Int32} {f : Nat → Int32} (hi : i < 4) : ∀ j, (j < c * 4 ∨ c * 4 + 4 ≤ j) → upd f (c * 4 + i) x j = f j := fun j hj => pk_un (by omega)
theorem Rel_apd {c : Nat} {k v : Int32} (h : Rel σ τ) (hc : c < 24) (ha : al σ c) (h2 : σ 1 c = nI 2) (hk : isT σ k) (hv : isT σ v) (hn : ∀ j, j < cnt σ c → σ 4 (c * 4 + j) ≠ k) (h4 : cnt σ c < 4) : Rel (apd σ c k v) (apd (th τ 0) c k v) := by
  have k4 := R_q1 h
  have k5 := R_8 h
  have k6 := R_8' h
  obtain ⟨⟨r1, r2, r3, r4, r7, r8⟩, i1, i7, i3, i4⟩ := R_C h hc ha
  have ec := cnt_of_ent (r4 h2)
  have h4' : cnt τ c < 4 := by omega
  refine Rel_one (c0 := c) h rfl ⟨rfl, rfl, rfl⟩ rfl rfl rfl rfl rfl (fun c' hc' hne => ⟨rfl, rfl, fun _ _ => rfl, ent_o4 (wf_cnt (R_w1 h) hc').1 hne (up_out h4) (up_out h4), rfl, rfl, rfl⟩) (fun c' hc' hne => ⟨rfl, rfl, fun _ _ => rfl, ent_o4 (σ := th τ 0) (wf_cnt (R_w2 h) hc').1 hne (up_out h4') (up_out h4'), rfl, rfl, rfl⟩) (fun _ _ => ?_) (wf_456 (R_w1 h) (by omega) (cl_T hk) (cl_T hv)) (wf_456 (σ := th τ 0) (R_w2 h) (show cnt τ c + 1 ≤ 4 by omega) (cl_T hk) (cl_T hv)) k4 k5 k6
  have eX : ent (apd σ c k v) c = ent σ c ++ [(k, v)] := ent_apd h4
  have eM : ent (apd (th τ 0) c k v) c = ent τ c ++ [(k, v)] := ent_apd (σ := th τ 0) h4'
  refine ⟨⟨r1, r2, r3, fun _ => by rw [eX, eM, r4 h2], r7, r8⟩, i1, i7, i3, fun _ => ?_⟩
  obtain ⟨e1, e2⟩ := i4 h2
  unfold iE
  rw [eX]
  refine ⟨fun q hq => ?_, ?_⟩
  · rcases List.mem_append.mp hq with z | z
    · exact e1 q z
    · rw [List.mem_singleton.mp z]
      obtain ⟨a, b, c1, d1⟩ := hk
      obtain ⟨a', b', c1', d1'⟩ := hv
      exact ⟨⟨a, b, c1, d1⟩, a', b', c1', d1'⟩
  · rw [List.map_append, List.nodup_append]
    refine ⟨e2, by simp, fun a ha b hb => ?_⟩
    simp only [List.map_cons, List.map_nil, List.mem_singleton] at hb
    rw [hb]
    obtain ⟨q, hq, rfl⟩ := List.mem_map.mp ha
    obtain ⟨i, hi, rfl⟩ := ent_mem.mp hq
    exact hn i hi
theorem ent_set {c i : Nat} {k v : Int32} (hn : cnt σ c ≤ 4) (hi : i < cnt σ c) (hs4 : σ' 4 = upd (σ 4) (c * 4 + i) k) (hs5 : σ' 5 = upd (σ 5) (c * 4 + i) v) (hs6 : σ' 6 c = σ 6 c) : ent σ' c = (ent σ c).set i (k, v) := by
  refine List.ext_getElem? (fun j => ?_)
  rw [List.getElem?_set, ent_rws, ent_rws, cnt_congr hs6, rws_get, rws_get, hs4, hs5]
  have hl : i < (rws σ c (cnt σ c)).length := by rw [← ent_rws, ent_len]; exact hi
  by_cases e : i = j
  · subst e
    rw [if_pos hi, if_pos rfl, if_pos hl, pk_us, pk_us]
  · rw [if_neg e]
    by_cases q : j < cnt σ c
    · rw [if_pos q, if_pos q, pk_un (by omega), pk_un (by omega)]
    · rw [if_neg q, if_neg q]
theorem upd_same' {f : Nat → Int32} {i : Nat} {x : Int32} (h : f i = x) : upd f i x = f := by
  funext j
  by_cases e : j = i
  · rw [e, pk_us]; exact h.symm
  · exact pk_un e
theorem map_fst_set {A : List (Int32 × Int32)} {i : Nat} {k v v0 : Int32} (h : A[i]? = some (k, v0)) : (A.set i (k, v)).map Prod.fst = A.map Prod.fst := by
  refine List.ext_getElem? (fun j => ?_)
  rw [List.getElem?_map, List.getElem?_map, List.getElem?_set]
  obtain ⟨hl, -⟩ := List.getElem?_eq_some_iff.mp h
  by_cases e : i = j
  · subst e; rw [if_pos rfl, if_pos hl, h]; rfl
  · rw [if_neg e]
theorem Rel_put {c i : Nat} {k v : Int32} (h : Rel σ τ) (hc : c < 24) (ha : al σ c) (h2 : σ 1 c = nI 2) (hk : isT σ k) (hv : isT σ v) (hi : i < cnt σ c) (ek : σ 4 (c * 4 + i) = k) : Rel (va_up σ 5 (upd (σ 5) (c * 4 + i) v)) (puR (th τ 0) c i k v) := by
  have k4 := R_q1 h
  have k5 := R_8 h
  have k6 := R_8' h
  have n1 := (wf_cnt (R_w1 h) hc).1
  have n2 := wf_cnt (R_w2 h) hc
  obtain ⟨⟨r1, r2, r3, r4, r7, r8⟩, i1, i7, i3, i4⟩ := R_C h hc ha
  have ec := cnt_of_ent (r4 h2)
  have e6 : (puR (th τ 0) c i k v) 6 c = τ 6 c := (pk_us).trans n2.2.symm
  have eX : ent (va_up σ 5 (upd (σ 5) (c * 4 + i) v)) c = (ent σ c).set i (k, v) := ent_set n1 hi (upd_same' ek).symm rfl rfl
  have eM : ent (puR (th τ 0) c i k v) c = (ent τ c).set i (k, v) := ent_set (σ := τ) n2.1 (by omega) rfl rfl e6
  refine Rel_one (c0 := c) h rfl ⟨rfl, rfl, rfl⟩ rfl rfl rfl rfl rfl (fun c' hc' hne => ⟨rfl, rfl, fun _ _ => rfl, ?_, rfl, rfl, rfl⟩) (fun c' hc' hne => ⟨rfl, rfl, fun _ _ => rfl, ent_o4 (σ := th τ 0) (wf_cnt (R_w2 h) hc').1 hne (up_out (by omega)) (up_out (by omega)), rfl, rfl, rfl⟩) (fun _ _ => ?_) ?_ (wf_456 (σ := th τ 0) (R_w2 h) n2.1 (cl_T hk) (cl_T hv)) k4 k5 k6
  · exact ent_congr (τ := va_up σ 5 (upd (σ 5) (c * 4 + i) v)) rfl (wf_cnt (R_w1 h) hc').1 (fun j h1 h2 => ⟨rfl, pk_un (by omega)⟩)
  · refine ⟨⟨r1, r2, r3, fun _ => by rw [eX, eM, r4 h2], r7, r8⟩, i1, i7, i3, fun _ => ?_⟩
    obtain ⟨e1, e2⟩ := i4 h2
    unfold iE
    rw [eX]
    refine ⟨fun q hq => ?_, ?_⟩
    · rcases List.mem_or_eq_of_mem_set hq with z | z
      · exact e1 q z
      · rw [z]
        obtain ⟨a, b, c1, d1⟩ := hk
        obtain ⟨a', b', c1', d1'⟩ := hv
        exact ⟨⟨a, b, c1, d1⟩, a', b', c1', d1'⟩
    · rw [map_fst_set (by rw [ent_get hi, ek])]; exact e2
  · obtain ⟨w1, w2, w3, w4, w5⟩ := R_w1 h
    refine ⟨w1, w2, w3, fun j hj => ?_, w5⟩
    show cl24 (upd (σ 5) (c * 4 + i) v j)
    by_cases e : j = c * 4 + i
    · rw [e, pk_us]; exact cl_T hv
    · rw [pk_un e]; exact w4 j hj
theorem ent_odrp {c c' d : Nat} (hn : cnt σ c' ≤ 4) (hn2 : cnt σ c ≤ 4) (hne : c' ≠ c) : ent (drp σ c d) c' = ent σ c' := by
  refine ent_congr (τ := drp σ c d) (pk_un hne) hn (fun j h1 h2 => ?_)
  have e4 : (drp σ c d) 4 = shf (σ 4) c d (cnt σ c - 1) := rfl
  have e5 : (drp σ c d) 5 = shf (σ 5) c d (cnt σ c - 1) := rfl
  rw [e4, e5]
  unfold shf
  rw [if_neg (by omega), if_neg (by omega)]
  exact ⟨rfl, rfl⟩
theorem Rel_drp {c i : Nat} (h : Rel σ τ) (hc : c < 24) (ha : al σ c) (h2 : σ 1 c = nI 2) (hi : i < cnt σ c) : Rel (drp σ c i) (drp (th τ 0) c i) := by
  have k4 := R_q1 h
  have k5 := R_8 h
  have k6 := R_8' h
  have n1 := (wf_cnt (R_w1 h) hc).1
  have n2 := (wf_cnt (R_w2 h) hc).1
  obtain ⟨⟨r1, r2, r3, r4, r7, r8⟩, i1, i7, i3, i4⟩ := R_C h hc ha
  have ec := cnt_of_ent (r4 h2)
  have eX : ent (drp σ c i) c = (ent σ c).eraseIdx i := ent_drp n1 hi
  have eM : ent (drp (th τ 0) c i) c = (ent τ c).eraseIdx i := ent_drp (τ := th τ 0) n2 (show i < cnt τ c by omega)
  refine Rel_one (c0 := c) h rfl ⟨rfl, rfl, rfl⟩ rfl rfl rfl rfl rfl (fun c' hc' hne => ⟨rfl, rfl, fun _ _ => rfl, ent_odrp (wf_cnt (R_w1 h) hc').1 n1 hne, rfl, rfl, rfl⟩) (fun c' hc' hne => ⟨rfl, rfl, fun _ _ => rfl, ent_odrp (σ := th τ 0) (wf_cnt (R_w2 h) hc').1 n2 hne, rfl, rfl, rfl⟩) (fun _ _ => ?_) (wf_drp (R_w1 h) hc) (wf_drp (τ := th τ 0) (R_w2 h) hc) k4 k5 k6
  refine ⟨⟨r1, r2, r3, fun _ => by rw [eX, eM, r4 h2], r7, r8⟩, i1, i7, i3, fun _ => ?_⟩
  obtain ⟨e1, e2⟩ := i4 h2
  unfold iE
  rw [eX]
  exact ⟨fun q hq => e1 q (List.mem_of_mem_eraseIdx hq), e2.sublist ((List.eraseIdx_sublist _ _).map _)⟩
/-- an emptied cell -/
theorem empF_at (f : Nat → Int32) {c n j : Nat} (hj : j < n) : empF f c n (c * 3 + j) = -1 := by
  induction n with
  | zero => omega
  | succ n ih =>
    show upd (empF f c n) (c * 3 + n) (-1) (c * 3 + j) = -1
    by_cases e : j = n
    · rw [e, pk_us]
    · rw [pk_un (by omega)]; exact ih (by omega)
theorem empF_o (f : Nat → Int32) {c n j : Nat} (hj : j < c * 3 ∨ c * 3 + n ≤ j) : empF f c n j = f j := by
  induction n with
  | zero => rfl
  | succ n ih =>
    show upd (empF f c n) (c * 3 + n) (-1) j = f j
    rw [pk_un (by omega)]; exact ih (by omega)
theorem ent_emp (c : Nat) : ent (emp σ c) c = [] := by
  have e : cnt (emp σ c) c = 0 := by
    show (upd (σ 6) c (nI 0) c).toNatClampNeg = 0
    rw [pk_us, nI_clamp (by decide)]
  rw [ent_rws, e]; rfl
theorem ent_oemp {c c' : Nat} (hn : cnt σ c' ≤ 4) (hne : c' ≠ c) : ent (emp σ c) c' = ent σ c' := ent_congr (τ := emp σ c) (pk_un hne) hn (fun j h1 h2 => ⟨rfl, rfl⟩)
theorem wf_emp {c : Nat} (hw : wf σ) (hc : c < 24) : wf (emp σ c) := by
  obtain ⟨h1, h2, h3⟩ := hw
  refine ⟨fun c' hc' => ?_, fun j hj => ?_, h3⟩
  · show ∃ n, n ≤ 4 ∧ upd (σ 6) c (nI 0) c' = nI n
    by_cases e : c' = c
    · rw [e, pk_us]; exact ⟨0, by decide, rfl⟩
    · rw [pk_un e]; exact h1 c' hc'
  · show nc (empF (σ 3) c 3 j)
    by_cases e : j < c * 3 ∨ c * 3 + 3 ≤ j
    · rw [empF_o _ e]; exact h2 j hj
    · obtain ⟨f, hf, rfl⟩ : ∃ f, f < 3 ∧ j = c * 3 + f := ⟨j - c * 3, by omega, by omega⟩
      rw [empF_at _ hf]; exact Or.inl rfl
theorem sC_emp {c c' : Nat} (hn : cnt σ c' ≤ 4) (hne : c' ≠ c) : sC σ (emp σ c) c' := ⟨rfl, rfl, fun f hf => empF_o _ (by omega), ent_oemp hn hne, rfl, rfl, rfl⟩
theorem Rel_emp {c : Nat} (h : Rel σ τ) (hc : c < 24) : Rel (emp σ c) (emp τ c) := by
  have k4 := R_q1 h
  have k5 := R_8 h
  have k6 := R_8' h
  refine Rel_one (c0 := c) h rfl ⟨rfl, rfl, rfl⟩ rfl rfl rfl rfl rfl (fun c' hc' hne => sC_emp (wf_cnt (R_w1 h) hc').1 hne) (fun c' hc' hne => sC_emp (wf_cnt (R_w2 h) hc').1 hne) (fun _ ha => ?_) (wf_emp (R_w1 h) hc) (wf_emp (R_w2 h) hc) k4 k5 k6
  obtain ⟨⟨r1, r2, r3, r4, r7, r8⟩, i1, i7, i3, i4⟩ := R_C h hc ha
  refine ⟨⟨r1, r2, fun f hf => (empF_at _ (fc3 hf)).trans (empF_at _ (fc3 hf)).symm, fun _ => (ent_emp c).trans (ent_emp c).symm, r7, r8⟩, i1, i7, fun f d hf hd e => ?_, fun _ => ?_⟩
  · have e : empF (σ 3) c 3 (c * 3 + f) = nI d := e
    rw [empF_at _ (fc3 hf)] at e
    exact absurd e.symm (nI_m1 (by omega))
  · unfold iE
    rw [ent_emp]
    exact ⟨fun q hq => absurd hq List.not_mem_nil, List.nodup_nil⟩
/-- run: the first of the queue leaves it -/
theorem qI_deq {w c : Nat} (h : qI σ) (hw : w < 24) (ew : σ 0 1 = nI (w + 1)) (hc : c < 24) (ec : σ 11 0 = nI c) : qI (va_up (deq σ w) 7 (upd (σ 7) c (nI 3))) := by
  obtain ⟨w', hw', ew', h1, h2⟩ := h
  have e : w' = w + 1 := (nI_eq (by omega) (by omega)).mp (ew'.symm.trans ew)
  subst e
  refine ⟨w, by omega, rfl, fun i hi => ?_, fun i j hi hj q => ?_⟩
  · show ∃ d, d < 24 ∧ shq (σ 11) w i = nI d ∧ upd (σ 7) c (nI 3) d = nI 2
    unfold shq; rw [if_pos hi]
    obtain ⟨d, hd, e1, e2⟩ := h1 (i + 1) (by omega)
    refine ⟨d, hd, e1, ?_⟩
    have hne : d ≠ c := fun z => by
      have := h2 (i + 1) 0 (by omega) (by omega) (by rw [e1, ec, z])
      omega
    rw [pk_un hne]; exact e2
  · have q : shq (σ 11) w i = shq (σ 11) w j := q
    unfold shq at q
    rw [if_pos hi, if_pos hj] at q
    have := h2 (i + 1) (j + 1) (by omega) (by omega) q
    omega
theorem Rel_deq {w c : Nat} (h : Rel σ τ) (hw : w < 24) (ew : σ 0 1 = nI (w + 1)) (hc : c < 24) (ec : σ 11 0 = nI c) : Rel (va_up (deq σ w) 7 (upd (σ 7) c (nI 3))) (va_up (deq (th τ 0) w) 7 (upd (τ 7) c (nI 3))) := by
  have k1 := R_A h
  have k2 := R_S h
  have k3 := R_R h
  have k5 := R_8 h
  have k6 := R_8' h
  obtain ⟨w', hw', ew', hi⟩ := R_Q h
  have e : w' = w + 1 := (nI_eq (by omega) (by omega)).mp (ew'.symm.trans ew)
  subst e
  refine ⟨k1, ⟨rfl, k2.2⟩, fun c' hc' ha => ?_, k3, ⟨w, by omega, rfl, fun i hil => ?_⟩, ⟨wf_run (R_w1 h) hw, wf_run (σ := th τ 0) (R_w2 h) hw⟩, qI_deq (R_q1 h) hw ew hc ec, k5, k6⟩
  · by_cases z : c' = c
    · subst z
      obtain ⟨d, hd, e1, e2⟩ := (R_q1 h).choose_spec.2.2.1 0 (by
        have := (R_q1 h).choose_spec.2.1
        have e3 : (R_q1 h).choose = w + 1 := (nI_eq (by have := (R_q1 h).choose_spec.1; omega) (by omega)).mp (this.symm.trans ew)
        omega)
      have ed : d = c' := nI_i hd hc (e1.symm.trans ec)
      subst ed
      obtain ⟨⟨r1, r2, r3, r4, r7, r8⟩, i1, i7, i3, i4⟩ := R_C h hc' ha
      have s7 : (va_up (deq σ w) 7 (upd (σ 7) d (nI 3))) 7 d = nI 3 := pk_us
      have t7 : (va_up (deq (th τ 0) w) 7 (upd (τ 7) d (nI 3))) 7 d = nI 3 := pk_us
      exact ⟨⟨r1, r2, r3, r4, s7.trans t7.symm, fun _ => r8 (by rw [e2]; decide)⟩, i1, ⟨3, by decide, s7⟩, i3, i4⟩
    · exact sC_ok (σ := σ) (τ := τ) ⟨rfl, rfl, fun _ _ => rfl, rfl, pk_un z, rfl, rfl⟩ ⟨rfl, rfl, fun _ _ => rfl, rfl, pk_un z, rfl, rfl⟩ (fun d _ q => q) (R_C h hc' ha)
  · show shq (σ 11) w i = shq (τ 11) w i ∧ ∀ d, d < 24 → shq (σ 11) w i = nI d → al σ d
    unfold shq; rw [if_pos hil, if_pos hil]
    exact hi (i + 1) (by omega)
theorem Rel_act {c a : Nat} (h : Rel σ τ) (hc : c < 24) (ha : al σ c) (h7 : ¬ σ 7 c = 0) : Rel (act σ c a) (act τ c a) := by
  obtain ⟨⟨r1, r2, r3, r4, r7, r8⟩, i1, i7, i3, i4⟩ := R_C h hc ha
  have e9 := (r8 h7).2
  match a with
  | 0 => exact h
  | 1 =>
    show Rel (va_up σ 10 (upd (σ 10) (σ 9 c).toNatClampNeg (nI c))) (va_up τ 10 (upd (τ 10) (τ 9 c).toNatClampNeg (nI c)))
    rw [← e9]
    exact Rel_root h (Or.inr ⟨c, hc, rfl, ha⟩)
  | 2 =>
    show Rel (if σ 1 c = 0 then va_up σ 10 (upd (σ 10) (σ 9 c).toNatClampNeg (σ 3 (c * 3 + 0))) else σ) (if τ 1 c = 0 then va_up τ 10 (upd (τ 10) (τ 9 c).toNatClampNeg (τ 3 (c * 3 + 0))) else τ)
    rw [← r1, ← e9]
    by_cases q : σ 1 c = 0
    · have f0 : 0 < fc (σ 1 c) := by rw [q]; decide
      rw [if_pos q, if_pos q, ← r3 0 f0]
      refine Rel_root h ?_
      rcases (R_w1 h).2.1 (c * 3 + 0) (by omega) with z | ⟨d, hd, z⟩
      · exact Or.inl z
      · exact Or.inr ⟨d, hd, z, i3 0 d f0 hd z⟩
    · rw [if_neg q, if_neg q]; exact h
  | 3 => exact Rel_emp h hc
  | n + 4 => exact h
end RelS2
end
section
/-! make and collect -/
section RelS3
variable {σ τ σ' τ' : St}
theorem Rel_plc {c : Nat} {k : Int32} (h : Rel σ τ) (hl : lf σ c) (hk : isK k) : Rel (plc σ c k) (plM τ c k) := by
  obtain ⟨hc, hf, -⟩ := hl
  have hna : ¬ al σ c := fun q => by unfold al at q; rw [hf] at q; cases q
  have ea : ∀ d, d < 24 → (al (plc σ c k) d ↔ (al σ d ∨ d = c)) := fun d hd => zb_orc (σ 0 0) hc hd
  have hal : ∀ d, d < 24 → al σ d → al (plc σ c k) d := fun d hd q => (ea d hd).mpr (Or.inl q)
  have k5 := R_8 h
  have k6 := R_8' h
  have w1 := R_w1 h
  have w2 := R_w2 h
  have e2 : (plc σ c k) 2 = upd (σ 2) c (σ 0 2 + nI 1) := rfl
  have f2 : (plM τ c k) 2 = upd (τ 2) c (τ 0 2 + nI 1) := rfl
  have e1 : (plc σ c k) 1 = upd (σ 1) c k := rfl
  have f1 : (plM τ c k) 1 = upd (τ 1) c k := rfl
  have e7 : (plc σ c k) 7 = upd (σ 7) c (nI 0) := rfl
  have f7 : (plM τ c k) 7 = upd (τ 7) c (nI 0) := rfl
  have e3 : (plc σ c k) 3 = empF (σ 3) c 3 := rfl
  have f3 : (plM τ c k) 3 = empF (τ 3) c 3 := rfl
  have eE : ent (plc σ c k) c = [] := ent_emp c
  have fE : ent (plM τ c k) c = [] := ent_emp c
  refine ⟨⟨lo24_or (R_A h).1 (lo24_one hc), fun c' hc' => ?_⟩, ⟨(R_S h).1, ?_, (R_S h).2.2⟩, fun c' hc' ha => ?_, fun r hr => ?_, ?_, ⟨wf_emp (σ := pl5 (pl4 (pl3 (pl2 (pl1 σ) c) c k) c) c) w1 hc, wf_emp (σ := pl5 (pl4 (pl3 (pl1 τ) c k) c) c) w2 hc⟩, ?_, k5, k6⟩
  · rw [ea c' hc', f1]
    by_cases e : c' = c
    · rw [e, pk_us]; exact ⟨fun _ => isK_nn hk, fun _ => Or.inr rfl⟩
    · rw [pk_un e, ← (R_A h).2 c' hc']
      exact ⟨fun q => q.resolve_right e, Or.inl⟩
  · show σ 0 2 + nI 1 = τ 0 2 + nI 1
    rw [(R_S h).2.1]
  · by_cases e : c' = c
    · subst e
      refine ⟨⟨by rw [e1, f1, pk_us, pk_us], by rw [e2, f2, pk_us, pk_us, (R_S h).2.1], fun f hf => ?_, fun _ => eE.trans fE.symm, by rw [e7, f7, pk_us, pk_us], fun q => ?_⟩, by rw [e1, pk_us]; exact hk, ⟨0, by decide, by rw [e7, pk_us]⟩, fun f d hf hd q => ?_, fun _ => ?_⟩
      · rw [e3, f3, empF_at _ (fc3 hf), empF_at _ (fc3 hf)]
      · rw [e7, pk_us] at q; exact absurd rfl q
      · rw [e3, empF_at _ (fc3 hf)] at q; exact absurd q.symm (nI_m1 (by omega))
      · unfold iE; rw [eE]; exact ⟨fun q hq => absurd hq List.not_mem_nil, List.nodup_nil⟩
    · have ha' := ((ea c' hc').mp ha).resolve_right e
      refine sC_ok (σ := σ) (τ := τ) ⟨by rw [e1, pk_un e], by rw [e2, pk_un e], fun f hf => empF_o _ (by omega), ent_oemp (σ := pl5 (pl4 (pl3 (pl2 (pl1 σ) c) c k) c) c) (wf_cnt (R_w1 h) hc').1 e, by rw [e7, pk_un e], rfl, rfl⟩ ⟨by rw [f1, pk_un e], by rw [f2, pk_un e], fun f hf => empF_o _ (by omega), ent_oemp (σ := pl5 (pl4 (pl3 (pl1 τ) c k) c) c) (wf_cnt (R_w2 h) hc').1 e, by rw [f7, pk_un e], rfl, rfl⟩ hal (R_C h hc' ha')
  · exact ⟨(R_R h r hr).1, fun d hd q => hal d hd ((R_R h r hr).2 d hd q)⟩
  · obtain ⟨w, hw, ew, hi⟩ := R_Q h
    exact ⟨w, hw, ew, fun i hil => ⟨(hi i hil).1, fun d hd q => hal d hd ((hi i hil).2 d hd q)⟩⟩
  · obtain ⟨w, hw, ew, hi⟩ := R_Q h
    obtain ⟨w', hw', ew', h1, h2⟩ := R_q1 h
    have e : w' = w := (nI_eq (by omega) (by omega)).mp (ew'.symm.trans ew)
    subst e
    refine ⟨w', hw', ew', fun i hil => ?_, h2⟩
    obtain ⟨d, hd, q1, q2⟩ := h1 i hil
    refine ⟨d, hd, q1, ?_⟩
    have hne : d ≠ c := fun z => hna (z ▸ (hi i hil).2 d hd q1)
    rw [e7, pk_un hne]; exact q2
theorem lf_lfM {c c' : Nat} (h : Rel σ τ) (h1 : lf σ c) (h2 : lfM τ c') : c = c' := by
  have n1 : ¬ al σ c := fun q => by unfold al at q; rw [h1.2.1] at q; cases q
  have n2 : ¬ al σ c' := fun q => ((R_A h).2 c' h2.1).mp q h2.2.1
  rcases Nat.lt_trichotomy c c' with q | q | q
  · exact absurd (((R_A h).2 c h1.1).mpr (h2.2.2 c q)) n1
  · exact q
  · exact absurd (h1.2.2 c' q) n2
theorem lf_full {c : Nat} (h : Rel σ τ) (h1 : lf σ c) (h2 : fullM τ) : False := by
  have n1 : ¬ al σ c := fun q => by unfold al at q; rw [h1.2.1] at q; cases q
  exact n1 (((R_A h).2 c h1.1).mpr (h2 c h1.1))
theorem full_lf {c : Nat} (h : Rel σ τ) (h1 : full σ) (h2 : lfM τ c) : False := ((R_A h).2 c h2.1).mp (h1 c h2.1) h2.2.1
theorem hld_ent {S : Nat → Prop} {c d : Nat} : hld σ S c d ↔ ((σ 1 c = 0 ∧ ∃ f, f < 3 ∧ σ 3 (c * 3 + f) = nI d) ∨ (σ 1 c = nI 2 ∧ ∃ q ∈ ent σ c, (∃ k, k < 24 ∧ q.1 = nI k ∧ S k) ∧ q.2 = nI d)) := by
  constructor
  · rintro (h | ⟨h1, i, hi, h2, h3⟩)
    · exact Or.inl h
    · exact Or.inr ⟨h1, _, ent_mem.mpr ⟨i, hi, rfl⟩, h2, h3⟩
  · rintro (h | ⟨h1, q, hq, h2, h3⟩)
    · exact Or.inl h
    · obtain ⟨i, hi, rfl⟩ := ent_mem.mp hq
      exact Or.inr ⟨h1, i, hi, h2, h3⟩
theorem hld_rel {S : Nat → Prop} {c d : Nat} (h : Rel σ τ) (hc : c < 24) (ha : al σ c) : hld σ S c d ↔ hld τ S c d := by
  obtain ⟨⟨r1, r2, r3, r4, r7, r8⟩, -⟩ := R_C h hc ha
  rw [hld_ent, hld_ent, ← r1]
  constructor
  · rintro (⟨h1, f, hf, e⟩ | ⟨h1, e⟩)
    · exact Or.inl ⟨h1, f, hf, by rw [← r3 f (by rw [h1]; exact hf)]; exact e⟩
    · exact Or.inr ⟨h1, by rw [← r4 h1]; exact e⟩
  · rintro (⟨h1, f, hf, e⟩ | ⟨h1, e⟩)
    · exact Or.inl ⟨h1, f, hf, by rw [r3 f (by rw [h1]; exact hf)]; exact e⟩
    · exact Or.inr ⟨h1, by rw [r4 h1]; exact e⟩
theorem hld_al {S : Nat → Prop} {c d : Nat} (h : Rel σ τ) (hc : c < 24) (hd : d < 24) (ha : al σ c) (hh : hld σ S c d) : al σ d := by
  obtain ⟨-, i1, i7, i3, i4⟩ := R_C h hc ha
  rcases hld_ent.mp hh with ⟨h1, f, hf, e⟩ | ⟨h1, q, hq, -, e⟩
  · exact i3 f d (by rw [h1]; exact hf) hd e
  · obtain ⟨-, d', hd', e', a'⟩ := (i4 h1).1 q hq
    rw [nI_i hd hd' (e.symm.trans e')]; exact a'
theorem rch_al {A : Nat → Prop} {c : Nat} (h : Rel σ τ) (hA : ∀ d, d < 24 → A d → al σ d) (hr : rch σ A c) : al σ c :=
  hr (al σ) hA (fun c d hc hd h1 h2 => hld_al h hc hd h1 h2)
theorem rch_rel {A B : Nat → Prop} {c : Nat} (h : Rel σ τ) (hA : ∀ d, d < 24 → A d → al σ d) (hAB : ∀ d, d < 24 → (A d ↔ B d)) : rch σ A c ↔ rch τ B c := by
  constructor
  · intro hr
    refine (hr (fun d => al σ d ∧ rch τ B d) (fun d hd q => ⟨hA d hd q, rch_base hd ((hAB d hd).mp q)⟩) (fun c d hc hd h1 h2 => ?_)).2
    exact ⟨hld_al h hc hd h1.1 h2, rch_clo τ B c d hc hd h1.2 (hld_mono (fun k _ q => q.2) ((hld_rel h hc h1.1).mp h2))⟩
  · intro hr
    refine (hr (fun d => al σ d ∧ rch σ A d) (fun d hd q => ⟨hA d hd ((hAB d hd).mpr q), rch_base hd ((hAB d hd).mpr q)⟩) (fun c d hc hd h1 h2 => ?_)).2
    have h3 := (hld_rel h hc h1.1).mpr h2
    exact ⟨hld_al h hc hd h1.1 h3, rch_clo σ A c d hc hd h1.2 (hld_mono (fun k _ q => q.2) h3)⟩
/-- what is forgotten -/
theorem fgF_or (S : Nat → Bool) (c f : Nat) : fgF σ S c f = -1 ∨ fgF σ S c f = σ 3 (c * 3 + f) := by
  unfold fgF; split
  · exact Or.inl rfl
  · exact Or.inr rfl
theorem fgF_n {S : Nat → Bool} {c f : Nat} (h : ¬ σ 1 c = nI 1) : fgF σ S c f = σ 3 (c * 3 + f) := by
  unfold fgF; rw [if_neg (fun q => h q.2.1)]
theorem fgF_rel {S S' : Nat → Bool} {c f : Nat} (h : Rel σ τ) (hc : c < 24) (ha : al σ c) (hS : ∀ c, c < 24 → S c = S' c) (hf : f < fc (σ 1 c)) : fgF σ S c f = fgF τ S' c f := by
  obtain ⟨⟨r1, r2, r3, r4, r7, r8⟩, -⟩ := R_C h hc ha
  by_cases q : σ 1 c = nI 1
  · have f0 : 0 < fc (σ 1 c) := by rw [q]; decide
    have e0 := r3 0 f0
    unfold fgF
    rw [← r3 f hf, ← r1, ← e0, ← hS c hc]
    rcases (R_w1 h).2.1 (c * 3 + 0) (by omega) with z | ⟨d, hd, z⟩
    · rw [if_neg (fun y => y.2.2.2.1 z), if_neg (fun y => y.2.2.2.1 z)]
    · rw [z, nI_clamp (by omega), hS d hd]
  · rw [fgF_n q, fgF_n (by rw [← r1]; exact q)]; exact r3 f hf
theorem fgL_sub (S : Nat → Bool) (c : Nat) : (fgL σ S c).Sublist (ent σ c) := by
  unfold fgL; split
  · exact List.filter_sublist
  · exact List.Sublist.refl _
theorem fgL_rel {S S' : Nat → Bool} {c : Nat} (h : Rel σ τ) (hc : c < 24) (ha : al σ c) (hS : ∀ c, c < 24 → S c = S' c) (h2 : σ 1 c = nI 2) : fgL σ S c = fgL τ S' c := by
  obtain ⟨⟨r1, r2, r3, r4, r7, r8⟩, -, -, -, i4⟩ := R_C h hc ha
  unfold fgL
  rw [← r1, ← hS c hc, ← r4 h2]
  split
  · refine List.filter_congr (fun q hq => ?_)
    obtain ⟨⟨k, hk, e, -⟩, -⟩ := (i4 h2).1 q hq
    rw [e, nI_clamp (by omega)]; exact hS k hk
  · rfl
theorem Rel_fgo {S S' : Nat → Bool} (h : Rel σ τ) (hS : ∀ c, c < 24 → S c = S' c) (f1 : fgo σ S 24 σ') (f2 : fgo τ S' 24 τ') : Rel σ' τ' := by
  have e : ∀ k, k ≠ 3 → k ≠ 4 → k ≠ 5 → k ≠ 6 → σ' k = σ k := f1.1
  have g : ∀ k, k ≠ 3 → k ≠ 4 → k ≠ 5 → k ≠ 6 → τ' k = τ k := f2.1
  have e0 := e 0 (by decide) (by decide) (by decide) (by decide)
  have g0 := g 0 (by decide) (by decide) (by decide) (by decide)
  have e1 := e 1 (by decide) (by decide) (by decide) (by decide)
  have g1 := g 1 (by decide) (by decide) (by decide) (by decide)
  have e2 := e 2 (by decide) (by decide) (by decide) (by decide)
  have g2 := g 2 (by decide) (by decide) (by decide) (by decide)
  have e7 := e 7 (by decide) (by decide) (by decide) (by decide)
  have g7 := g 7 (by decide) (by decide) (by decide) (by decide)
  have e8 := e 8 (by decide) (by decide) (by decide) (by decide)
  have g8 := g 8 (by decide) (by decide) (by decide) (by decide)
  have e9 := e 9 (by decide) (by decide) (by decide) (by decide)
  have g9 := g 9 (by decide) (by decide) (by decide) (by decide)
  have e10 := e 10 (by decide) (by decide) (by decide) (by decide)
  have g10 := g 10 (by decide) (by decide) (by decide) (by decide)
  have e11 := e 11 (by decide) (by decide) (by decide) (by decide)
  have g11 := g 11 (by decide) (by decide) (by decide) (by decide)
  have ea : ∀ d, al σ' d ↔ al σ d := fun d => by unfold al; rw [e0]
  refine ⟨⟨by rw [e0]; exact (R_A h).1, fun c hc => by rw [ea, g1]; exact (R_A h).2 c hc⟩, ?_, fun c hc ha => ?_, fun r hr => ?_, ?_, ⟨f1.2.1, f2.2.1⟩, qI_fgo f1 (R_q1 h), fun c hc => by rw [e8]; exact R_8 h c hc, fun c hc => by rw [g8]; exact R_8' h c hc⟩
  · unfold rS; rw [e0, g0]; exact R_S h
  · rw [ea] at ha
    obtain ⟨p3, p4⟩ := f1.2.2.1 c hc hc
    obtain ⟨q3, q4⟩ := f2.2.2.1 c hc hc
    have hR := R_C h hc ha
    obtain ⟨⟨r1, r2, r3, r4, r7, r8⟩, i1, i7, i3, i4⟩ := hR
    refine ⟨⟨by rw [e1, g1]; exact r1, by rw [e2, g2]; exact r2, fun f hf => ?_, fun z => ?_, by rw [e7, g7]; exact r7, fun z => ?_⟩, by rw [e1]; exact i1, by rw [e7]; exact i7, fun f d hf hd z => ?_, fun z => ?_⟩
    · rw [e1] at hf; rw [p3 f (fc3 hf), q3 f (fc3 hf)]; exact fgF_rel h hc ha hS hf
    · rw [e1] at z; rw [p4, q4]; exact fgL_rel h hc ha hS z
    · rw [e7] at z; rw [e8, g8, e9, g9]; exact r8 z
    · rw [e1] at hf; rw [p3 f (fc3 hf)] at z; rw [ea]
      rcases fgF_or (σ := σ) S c f with y | y
      · exact absurd (z.symm.trans y) (nI_m1 (by omega))
      · exact i3 f d hf hd (y.symm.trans z)
    · rw [e1] at z
      obtain ⟨u1, u2⟩ := i4 z
      unfold iE
      rw [p4]
      refine ⟨fun q hq => ?_, u2.sublist ((fgL_sub S c).map _)⟩
      obtain ⟨⟨k, hk, ek, ak⟩, d, hd, ed, ad⟩ := u1 q ((fgL_sub S c).subset hq)
      exact ⟨⟨k, hk, ek, (ea k).mpr ak⟩, d, hd, ed, (ea d).mpr ad⟩
  · rw [e10, g10]; exact ⟨(R_R h r hr).1, fun d hd q => (ea d).mpr ((R_R h r hr).2 d hd q)⟩
  · obtain ⟨w, hw, ew, hi⟩ := R_Q h
    refine ⟨w, hw, by rw [e0]; exact ew, fun i hil => ?_⟩
    rw [e11, g11]
    exact ⟨(hi i hil).1, fun d hd q => (ea d).mpr ((hi i hil).2 d hd q)⟩
/-- what is queued -/
theorem Rel_enq {i : Nat} (h : Rel σ τ) (hi : i < 24) (ha : al σ i) (h1 : σ 7 i = nI 1) : Rel (enq σ i) (enq τ i) := by
  obtain ⟨w, hw, ew, hq⟩ := R_Q h
  have fw : τ 0 1 = nI w := (R_S h).1 ▸ ew
  have hC := R_C h hi ha
  have t1 : τ 7 i = nI 1 := by rw [← hC.1.2.2.2.2.1]; exact h1
  have o1 := enq_ok (R_w1 h) (R_q1 h) hi h1
  have o2 := enq_ok (R_w2 h) (R_q2 h) hi t1
  have hl := qI_room (R_q1 h) ew hw hi h1
  have k1 := R_A h
  have k2 := R_S h
  have k3 := R_R h
  have k5 := R_8 h
  have k6 := R_8' h
  unfold enq at o1 o2 ⊢
  rw [ew, nI_clamp (by omega)] at o1 ⊢
  rw [fw, nI_clamp (by omega)] at o2 ⊢
  refine ⟨k1, ⟨rfl, k2.2⟩, fun c hc hac => ?_, k3, ⟨w + 1, by omega, rfl, fun j hj => ?_⟩, ⟨o1.1, o2.1⟩, o1.2, k5, k6⟩
  · by_cases e : c = i
    · subst e
      obtain ⟨⟨r1, r2, r3, r4, r7, r8⟩, i1, i7, i3, i4⟩ := hC
      have s7 : (enqW σ c w) 7 c = nI 2 := pk_us
      have u7 : (enqW τ c w) 7 c = nI 2 := pk_us
      exact ⟨⟨r1, r2, r3, r4, s7.trans u7.symm, fun _ => r8 (by rw [h1]; decide)⟩, i1, ⟨2, by decide, s7⟩, i3, i4⟩
    · exact sC_ok (σ := σ) (τ := τ) ⟨rfl, rfl, fun _ _ => rfl, rfl, pk_un e, rfl, rfl⟩ ⟨rfl, rfl, fun _ _ => rfl, rfl, pk_un e, rfl, rfl⟩ (fun d _ q => q) (R_C h hc hac)
  · show upd (σ 11) w (nI i) j = upd (τ 11) w (nI i) j ∧ ∀ d, d < 24 → upd (σ 11) w (nI i) j = nI d → al σ d
    by_cases e : j = w
    · rw [e, pk_us, pk_us]
      exact ⟨rfl, fun d hd q => by rw [← nI_i hi hd q]; exact ha⟩
    · rw [pk_un e, pk_un e]; exact hq j (by omega)
theorem enq_0 (i : Nat) : (enq σ i) 0 0 = σ 0 0 := rfl
theorem Rel_qst {S S' : Nat → Bool} (h : Rel σ τ) (hS : ∀ c, c < 24 → S c = S' c) (hSa : ∀ c, c < 24 → S c = true → al σ c) : ∀ {i : Nat}, i ≤ 24 → Rel (qst σ S i) (qst τ S' i) ∧ (qst σ S i) 0 0 = σ 0 0 := by
  intro i
  induction i with
  | zero => intro _; exact ⟨h, rfl⟩
  | succ i ih =>
    intro hi
    obtain ⟨h1, h2⟩ := ih (by omega)
    have hal : S i = true → al (qst σ S i) i := fun q => by unfold al; rw [h2]; exact hSa i (by omega) q
    by_cases q : S i = true ∧ (qst σ S i) 7 i = nI 1
    · have q' : S' i = true ∧ (qst τ S' i) 7 i = nI 1 := ⟨by rw [← hS i (by omega)]; exact q.1, by rw [← (R_C h1 (by omega) (hal q.1)).1.2.2.2.2.1]; exact q.2⟩
      rw [qst_yes q, qst_yes q', enq_0]
      exact ⟨Rel_enq h1 (by omega) (hal q.1) q.2, h2⟩
    · have q' : ¬ (S' i = true ∧ (qst τ S' i) 7 i = nI 1) := fun z => by
        have z1 : S i = true := by rw [hS i (by omega)]; exact z.1
        exact q ⟨z1, by rw [(R_C h1 (by omega) (hal z1)).1.2.2.2.2.1]; exact z.2⟩
      rw [← qst_no q, ← qst_no q']
      exact ⟨h1, h2⟩
/-- what is freed -/
theorem frS_k (D : Nat → Bool) (n : Nat) {k : Nat} (h1 : k ≠ 1) (h3 : k ≠ 3) (h6 : k ≠ 6) (h7 : k ≠ 7) : frS τ D n k = τ k := by
  induction n with
  | zero => rfl
  | succ n ih =>
    cases hd : D n
    · rw [frS_n hd]; exact ih
    · rw [frS_y hd, fr1, va_up_ne _ _ h7, va_up_ne _ _ h3, va_up_ne _ _ h6, va_up_ne _ _ h1]; exact ih
theorem frS_c {D : Nat → Bool} {c : Nat} (hD : D c = false) (n : Nat) : frS τ D n 1 c = τ 1 c ∧ frS τ D n 6 c = τ 6 c ∧ frS τ D n 7 c = τ 7 c ∧ ∀ f, f < 3 → frS τ D n 3 (c * 3 + f) = τ 3 (c * 3 + f) := by
  induction n with
  | zero => exact ⟨rfl, rfl, rfl, fun _ _ => rfl⟩
  | succ n ih =>
    cases hd : D n
    · rw [frS_n hd]; exact ih
    · have hne : c ≠ n := fun q => by rw [q, hd] at hD; cases hD
      rw [frS_y hd]
      obtain ⟨a, b, d, e⟩ := ih
      refine ⟨(pk_un hne).trans a, (pk_un hne).trans b, (pk_un hne).trans d, fun f hf => ?_⟩
      exact (pk_un (by omega)).trans (e f hf)
theorem frS_m {D : Nat → Bool} {c : Nat} (hD : D c = true) {n : Nat} (hn : c < n) : frS τ D n 1 c = -1 := by
  induction n with
  | zero => omega
  | succ n ih =>
    by_cases e : c = n
    · subst e
      rw [frS_y hD]; exact pk_us
    · cases hd : D n
      · rw [frS_n hd]; exact ih (by omega)
      · rw [frS_y hd]; exact (pk_un e).trans (ih (by omega))
theorem wf_fr1 {i : Nat} (hw : wf τ) : wf (fr1 τ i) := by
  obtain ⟨h1, h2, h3⟩ := hw
  refine ⟨fun c' hc' => ?_, fun j hj => ?_, h3⟩
  · show ∃ n, n ≤ 4 ∧ upd (τ 6) i (nI 0) c' = nI n
    by_cases e : c' = i
    · rw [e, pk_us]; exact ⟨0, by decide, rfl⟩
    · rw [pk_un e]; exact h1 c' hc'
  · show nc (upd (τ 3) (i * 3 + 0) (-1) j)
    by_cases e : j = i * 3 + 0
    · rw [e, pk_us]; exact Or.inl rfl
    · rw [pk_un e]; exact h2 j hj
theorem wf_frS {D : Nat → Bool} (n : Nat) (hw : wf τ) : wf (frS τ D n) := by
  induction n with
  | zero => exact hw
  | succ n ih =>
    cases hd : D n
    · rw [frS_n hd]; exact ih
    · rw [frS_y hd]; exact wf_fr1 ih
def kpt (σ : St) (K : Int32) : Prop := (∀ c, c < 24 → bt K c = true → al σ c ∧ (∀ f d, f < fc (σ 1 c) → d < 24 → σ 3 (c * 3 + f) = nI d → bt K d = true) ∧ (σ 1 c = nI 2 → ∀ q ∈ ent σ c, (∃ k, k < 24 ∧ q.1 = nI k ∧ bt K k = true) ∧ ∃ d, d < 24 ∧ q.2 = nI d ∧ bt K d = true)) ∧ (∀ r d, r < 6 → d < 24 → σ 10 r = nI d → bt K d = true) ∧ ∀ w i d, σ 0 1 = nI w → w ≤ 24 → i < w → d < 24 → σ 11 i = nI d → bt K d = true
theorem Rel_free {K : Int32} {g : Nat → Int32} (h : Rel σ τ) (hl : lo24 K) (hb : bl g) (hK : ∀ c, c < 24 → (bt K c = true ↔ g c = nI 1)) (hk : kpt σ K) : Rel (va_up σ 0 (upd (σ 0) 0 K)) (frS τ (qM τ g) 24) := by
  have ea : ∀ d, al (va_up σ 0 (upd (σ 0) 0 K)) d ↔ bt K d = true := fun d => Iff.rfl
  have hD : ∀ c, c < 24 → bt K c = true → qM τ g c = false := fun c hc q => decide_eq_false (fun z => by
    have := (hK c hc).mp q; rw [z.2] at this; exact absurd this (by decide))
  have f0 : frS τ (qM τ g) 24 0 = τ 0 := frS_k _ _ (by decide) (by decide) (by decide) (by decide)
  have f2 : frS τ (qM τ g) 24 2 = τ 2 := frS_k _ _ (by decide) (by decide) (by decide) (by decide)
  have f4 : frS τ (qM τ g) 24 4 = τ 4 := frS_k _ _ (by decide) (by decide) (by decide) (by decide)
  have f5 : frS τ (qM τ g) 24 5 = τ 5 := frS_k _ _ (by decide) (by decide) (by decide) (by decide)
  have f8 : frS τ (qM τ g) 24 8 = τ 8 := frS_k _ _ (by decide) (by decide) (by decide) (by decide)
  have f9 : frS τ (qM τ g) 24 9 = τ 9 := frS_k _ _ (by decide) (by decide) (by decide) (by decide)
  have f10 : frS τ (qM τ g) 24 10 = τ 10 := frS_k _ _ (by decide) (by decide) (by decide) (by decide)
  have f11 : frS τ (qM τ g) 24 11 = τ 11 := frS_k _ _ (by decide) (by decide) (by decide) (by decide)
  have q1 := R_q1 h
  have a1 := R_8 h
  have w1 := R_w1 h
  have s1 := R_S h
  refine ⟨⟨hl, fun c hc => ?_⟩, ?_, fun c hc ha => ?_, fun r hr => ?_, ?_, ⟨w1, wf_frS 24 (R_w2 h)⟩, q1, a1, fun c hc => by rw [f8]; exact R_8' h c hc⟩
  · rw [ea]
    constructor
    · intro q
      rw [(frS_c (hD c hc q) 24).1]
      exact ((R_A h).2 c hc).mp (hk.1 c hc q).1
    · intro q
      by_cases z : qM τ g c = true
      · rw [frS_m z hc] at q; exact absurd (by decide) q
      · have z' : qM τ g c = false := by cases y : qM τ g c; rfl; exact absurd y z
        rw [(frS_c z' 24).1] at q
        refine (hK c hc).mpr ((hb c hc).resolve_left (fun y => z (decide_eq_true ⟨q, y⟩)))
  · unfold rS; rw [f0]; exact s1
  · rw [ea] at ha
    obtain ⟨k1, k3, k4⟩ := hk.1 c hc ha
    obtain ⟨c1, c6, c7, c3⟩ := frS_c (τ := τ) (hD c hc ha) 24
    obtain ⟨⟨r1, r2, r3, r4, r7, r8⟩, i1, i7, i3, i4⟩ := R_C h hc k1
    have eE : ent (frS τ (qM τ g) 24) c = ent τ c := ent_congr c6 (wf_cnt (R_w2 h) hc).1 (fun j _ _ => by rw [f4, f5]; exact ⟨rfl, rfl⟩)
    refine ⟨⟨by rw [c1]; exact r1, by rw [f2]; exact r2, fun f hf => by rw [c3 f (fc3 hf)]; exact r3 f hf, fun z => by rw [eE]; exact r4 z, by rw [c7]; exact r7, fun z => by rw [f8, f9]; exact r8 z⟩, i1, i7, fun f d hf hd z => k3 f d hf hd z, fun z => ⟨k4 z, (i4 z).2⟩⟩
  · rw [f10]; exact ⟨(R_R h r hr).1, fun d hd q => hk.2.1 r d hr hd q⟩
  · obtain ⟨w, hw, ew, hi⟩ := R_Q h
    exact ⟨w, hw, ew, fun i hil => ⟨by rw [f11]; exact (hi i hil).1, fun d hd q => hk.2.2 w i d ew hw hil hd q⟩⟩
theorem num_32 {S : Nat → Bool} (h : ∀ c, 24 ≤ c → S c = false) : num S 32 = num S 24 := by
  have a : ∀ n, 24 ≤ n → num S (n + 1) = num S n := fun n hn => num_n (h n hn)
  rw [a 31 (by decide), a 30 (by decide), a 29 (by decide), a 28 (by decide), a 27 (by decide), a 26 (by decide), a 25 (by decide), a 24 (by decide)]
theorem Rel_col1 (h : Rel σ τ) : Rel (col1 σ) (col1 τ) := by
  have k1 := R_A h
  have k2 := R_S h
  have k3 := h.2.2.1
  have k4 := R_R h
  have k5 := R_Q h
  have k6 := R_w1 h
  have k7 := R_w2 h
  have k8 := R_q1 h
  have k9 := R_8 h
  have k10 := R_8' h
  refine ⟨k1, ⟨k2.1, k2.2.1, ?_⟩, k3, k4, k5, ⟨k6, k7⟩, k8, k9, k10⟩
  show σ 0 3 + nI 1 = τ 0 3 + nI 1
  rw [k2.2.2]
theorem kpt_of {ρ : St} {A : Nat → Prop} {K : Int32} (h : Rel ρ τ) (hA : ∀ d, d < 24 → A d → al ρ d) (hK : ∀ c, c < 24 → (bt K c = true ↔ rch ρ A c)) (hf : fgo ρ (fun d => bt K d) 24 σ) (hr : ∀ r d, r < 6 → d < 24 → ρ 10 r = nI d → A d) (hq : ∀ w i d, ρ 0 1 = nI w → w ≤ 24 → i < w → d < 24 → ρ 11 i = nI d → A d) : kpt σ K := by
  have e : ∀ k, k ≠ 3 → k ≠ 4 → k ≠ 5 → k ≠ 6 → σ k = ρ k := hf.1
  have e0 := e 0 (by decide) (by decide) (by decide) (by decide)
  have e1 := e 1 (by decide) (by decide) (by decide) (by decide)
  have e10 := e 10 (by decide) (by decide) (by decide) (by decide)
  have e11 := e 11 (by decide) (by decide) (by decide) (by decide)
  have hc2 : ∀ c d, c < 24 → d < 24 → bt K c = true → hld ρ (fun k => bt K k = true) c d → bt K d = true := fun c d hc hd h1 h2 =>
    (hK d hd).mpr (rch_clo ρ A c d hc hd ((hK c hc).mp h1) (hld_mono (fun k hk q => (hK k hk).mp q) h2))
  refine ⟨fun c hc ha => ?_, fun r d hr' hd q => ?_, fun w i d ew hw hi hd q => ?_⟩
  · have hal := rch_al h hA ((hK c hc).mp ha)
    obtain ⟨-, i1, i7, i3, i4⟩ := R_C h hc hal
    obtain ⟨p3, p4⟩ := hf.2.2.1 c hc hc
    refine ⟨by unfold al; rw [e0]; exact hal, fun f d hf' hd q => ?_, fun z q hq' => ?_⟩
    · rw [e1] at hf'
      rw [p3 f (fc3 hf')] at q
      obtain ⟨j, hj, ej⟩ := i1
      rcases (show j = 0 ∨ j = 1 ∨ j = 2 by omega) with rfl | rfl | rfl
      · rw [fgF_n (by rw [ej]; decide)] at q
        exact hc2 c d hc hd ha (Or.inl ⟨ej, f, fc3 hf', q⟩)
      · have f1 : fc (nI 1) = 1 := by decide
        have f0 : f = 0 := by
          rw [ej, f1] at hf'; omega
        subst f0
        unfold fgF at q
        split at q
        · exact absurd q.symm (nI_m1 (by omega))
        · rename_i y
          cases z : bt K d
          · refine absurd ⟨ha, ej, rfl, ?_, ?_⟩ y
            · rw [q]; exact nI_m1 (by omega)
            · show bt K _ = false
              rw [q, nI_clamp (by omega)]; exact z
          · rfl
      · rw [ej, show fc (nI 2) = 0 from by decide] at hf'; exact absurd hf' (Nat.not_lt_zero _)
    · rw [e1] at z
      rw [p4] at hq'
      unfold fgL at hq'
      rw [if_pos ⟨ha, z⟩] at hq'
      obtain ⟨m1, m2⟩ := List.mem_filter.mp hq'
      obtain ⟨⟨k, hk, ek, -⟩, d, hd, ed, -⟩ := (i4 z).1 q m1
      have kk : bt K k = true := by
        have : bt K q.1.toNatClampNeg = true := m2
        rw [ek, nI_clamp (by omega)] at this; exact this
      exact ⟨⟨k, hk, ek, kk⟩, d, hd, ed, hc2 c d hc hd ha (hld_ent.mpr (Or.inr ⟨z, q, m1, ⟨k, hk, ek, kk⟩, ed⟩))⟩
  · rw [e10] at q; exact (hK d hd).mpr (rch_base hd (hr r d hr' hd q))
  · rw [e0] at ew; rw [e11] at q; exact (hK d hd).mpr (rch_base hd (hq w i d ew hw hi hd q))
theorem gB_iff {g : Nat → Int32} {c : Nat} : gB g c = true ↔ g c = nI 1 := decide_eq_true_iff
theorem boolEq {a b : Bool} (h : a = true ↔ b = true) : a = b := by
  cases a <;> cases b <;> simp_all
theorem bt_nk (x K : Int32) {c : Nat} (hc : c < 32) : bt (x &&& (K ^^^ -1)) c = true ↔ (bt x c = true ∧ ¬ bt K c = true) := by
  rw [b_and, zb_not K hc, Bool.and_eq_true]
  cases bt K c <;> simp
theorem qM_iff {g : Nat → Int32} {c : Nat} : qM τ g c = true ↔ (¬ τ 1 c < 0 ∧ g c = nI 0) := decide_eq_true_iff
theorem bl_0 {g : Nat → Int32} {c : Nat} (hb : bl g) (hc : c < 24) : g c = nI 0 ↔ ¬ g c = nI 1 := by
  rcases hb c hc with e | e
  · rw [e]; exact ⟨fun _ => by decide, fun _ => rfl⟩
  · rw [e]; exact ⟨fun q => absurd q (by decide), fun q => absurd rfl q⟩
theorem Rel_collect {v v' : Int32} (h0 : Rel σ τ) (hx : colX σ v σ') (hm : gatM τ v' τ') : v = v' ∧ Rel σ' τ' := by
  obtain ⟨x0, L, σ2, q, w, K, σ4, ⟨-, x1⟩, ⟨L0, L1⟩, fx, hw, ew, ⟨-, q1⟩, ⟨K0, K1⟩, gx, ev, eu⟩ := hx
  obtain ⟨g0, g1, τ2, w', g2, g3, τ4, y1, ⟨M0, M1⟩, fy, hw', ew', y2, ⟨N0, N1⟩, gy, ev', eu'⟩ := hm
  have h := Rel_col1 h0
  have hA1 : ∀ d, d < 24 → bt x0 d = true → al (col1 σ) d := fun d hd z => by
    obtain ⟨r, hr, e⟩ := (x1 d hd).mp z
    exact (R_R h r hr).2 d hd e
  have hB1 : ∀ d, d < 24 → (bt x0 d = true ↔ g0 d = nI 1) := fun d hd => by
    rw [x1 d hd, y1 d hd]
    exact ⟨fun ⟨r, hr, e⟩ => ⟨r, hr, by rw [← (R_R h r hr).1]; exact e⟩, fun ⟨r, hr, e⟩ => ⟨r, hr, by rw [(R_R h r hr).1]; exact e⟩⟩
  have hL : ∀ c, c < 24 → (bt L c = true ↔ g1 c = nI 1) := fun c hc => by rw [L1 c hc, M1 c hc]; exact rch_rel h hA1 hB1
  have hLal : ∀ c, c < 24 → bt L c = true → al (col1 σ) c := fun c hc z => rch_al h hA1 ((L1 c hc).mp z)
  have h2 : Rel σ2 τ2 := Rel_fgo (R_12 h g1) (fun c hc => boolEq (by rw [gB_iff]; exact hL c hc)) fx fy
  have e20 : σ2 0 = (col1 σ) 0 := fx.1 0 (by decide) (by decide) (by decide) (by decide)
  have e2a : ∀ d, al σ2 d ↔ al (col1 σ) d := fun d => by unfold al; rw [e20]
  have hS : ∀ c, c < 24 → bt (σ2 0 0 &&& (L ^^^ -1)) c = qM τ2 g1 c := fun c hc => boolEq (by
    rw [bt_nk _ _ (by omega), qM_iff, bl_0 M0 hc, ← hL c hc]
    exact and_congr ((R_A h2).2 c hc) Iff.rfl)
  have h3 := Rel_qst h2 hS (fun c hc z => ((bt_nk _ _ (by omega)).mp z).1) (Nat.le_refl 24)
  obtain ⟨h3, e3⟩ := h3
  have e3a : ∀ d, al (qst σ2 (fun d => bt (σ2 0 0 &&& (L ^^^ -1)) d) 24) d ↔ al σ2 d := fun d => by unfold al; rw [e3]
  have eww : w' = w := (nI_eq (by omega) (by omega)).mp (ew'.symm.trans ((R_S h3).1.symm.trans ew))
  subst eww
  have hQ : ∀ i, i < w' → (qst σ2 (fun d => bt (σ2 0 0 &&& (L ^^^ -1)) d) 24) 11 i = (qst τ2 (qM τ2 g1) 24) 11 i ∧ ∀ d, d < 24 → (qst σ2 (fun d => bt (σ2 0 0 &&& (L ^^^ -1)) d) 24) 11 i = nI d → al (qst σ2 (fun d => bt (σ2 0 0 &&& (L ^^^ -1)) d) 24) d := by
    obtain ⟨w2, hw2, ew2, hi⟩ := R_Q h3
    have : w2 = w' := (nI_eq (by omega) (by omega)).mp (ew2.symm.trans ew)
    subst this
    exact hi
  have hor : ∀ d, bt (L ||| q) d = true ↔ (bt L d = true ∨ bt q d = true) := fun d => by rw [b_or, Bool.or_eq_true]
  have hA2 : ∀ d, d < 24 → bt (L ||| q) d = true → al (qst σ2 (fun d => bt (σ2 0 0 &&& (L ^^^ -1)) d) 24) d := fun d hd z => by
    rcases (hor d).mp z with z | z
    · exact (e3a d).mpr ((e2a d).mpr (hLal d hd z))
    · obtain ⟨r, hr, e⟩ := (q1 d hd).mp z
      exact (hQ r hr).2 d hd e
  have hB2 : ∀ d, d < 24 → (bt (L ||| q) d = true ↔ g2 d = nI 1) := fun d hd => by
    rw [hor d, y2 d hd, hL d hd, q1 d hd]
    exact or_congr Iff.rfl ⟨fun ⟨r, hr, e⟩ => ⟨r, hr, by rw [← (hQ r hr).1]; exact e⟩, fun ⟨r, hr, e⟩ => ⟨r, hr, by rw [(hQ r hr).1]; exact e⟩⟩
  have hK : ∀ c, c < 24 → (bt K c = true ↔ g3 c = nI 1) := fun c hc => by rw [K1 c hc, N1 c hc]; exact rch_rel h3 hA2 hB2
  have h4 : Rel σ4 τ4 := Rel_fgo (R_12 h3 g3) (fun c hc => boolEq (by rw [gB_iff]; exact hK c hc)) gx gy
  have e40 : σ4 0 = (qst σ2 (fun d => bt (σ2 0 0 &&& (L ^^^ -1)) d) 24) 0 := gx.1 0 (by decide) (by decide) (by decide) (by decide)
  have hkp : kpt σ4 K := kpt_of h3 hA2 K1 gx (fun r d hr hd z => by
      have e10 : (qst σ2 (fun d => bt (σ2 0 0 &&& (L ^^^ -1)) d) 24) 10 = (col1 σ) 10 := (qst_k _ _ _ (by decide) (by decide) (by decide)).trans (fx.1 10 (by decide) (by decide) (by decide) (by decide))
      rw [e10] at z
      exact (hor d).mpr (Or.inl ((L1 d hd).mpr (rch_base hd ((x1 d hd).mpr ⟨r, hr, z⟩))))) (fun w2 i d ew2 hw2 hi hd z => by
      have : w2 = w' := (nI_eq (by omega) (by omega)).mp (ew2.symm.trans ew)
      subst this
      exact (hor d).mpr (Or.inr ((q1 d hd).mpr ⟨i, hi, z⟩)))
  constructor
  · rw [ev, ev', num_32 (fun c hc => by
      rw [b_and, (R_A h4).1 c hc]; rfl)]
    refine congrArg nI (num_congr (fun c hc => boolEq ?_))
    rw [bt_nk _ _ (by omega), qM_iff, bl_0 N0 hc, ← hK c hc]
    exact and_congr ((R_A h4).2 c hc) Iff.rfl
  · rw [eu, eu']
    exact Rel_free h4 K0 N0 hK hkp
end RelS3
end
section
/-! call by call: the same answer, the same exception, and the states belong together again -/
theorem c_T {σ : St} {c : Nat} {x : Int32} (hc : c < 24) (e : x = nI c) (hb : bt (σ 0 0) c = true) : isT σ x := ⟨c, hc, e, hb⟩
theorem T_c {σ : St} {c : Nat} (hc : c < 24) (h : isT σ (nI c)) : al σ c := (isT_nI hc).mp h
theorem xx {s t : String} {A : Prop} {B : Prop} (hne : s ≠ t) (h : (s = s ∧ A) ∨ (s = t ∧ B)) : A := by
  rcases h with h | h
  · exact h.2
  · exact absurd h.1 hne
theorem o_kind {σ τ : St} (h : Rel σ τ) {x : Int32} {y : Int32} {τ' : St} (hm : (fun v u => (¬ tM τ x ∧ u = th τ 1) ∨ (∃ c, c < 24 ∧ x = nI c ∧ tM τ x ∧ v = τ 1 c + nI 4 * τ 7 c ∧ u = th τ 0)) y τ') : Rel σ τ' ∧ (∀ z, (fun v => ∃ c, c < 24 ∧ x = nI c ∧ bt (σ 0 0) c = true ∧ v = σ 1 c + nI 4 * σ 7 c) z → τ' 0 0 = nI 0 ∧ z = y) ∧ ((fun E => E = "java/util/NoSuchElementException" ∧ ¬ isT σ x) "java/util/NoSuchElementException" → τ' 0 0 = nI 1) := by
  rcases hm with ⟨q, rfl⟩ | ⟨c, hc, rfl, q, rfl, rfl⟩
  · refine ⟨h, fun z ⟨c, hc, e, hb, _⟩ => absurd ((R_T h _).mp (c_T hc e hb)) q, fun _ => rfl⟩
  · refine ⟨h, fun z ⟨c', hc', e, hb, ez⟩ => ⟨rfl, ?_⟩, fun hX => absurd ((R_T h _).mpr q) hX.2⟩
    obtain rfl := nI_i hc hc' e
    obtain ⟨r1, r2, r3, r4, r7, r8⟩ := (R_C h hc hb).1
    rw [ez, r1, r7]
theorem o_serial {σ τ : St} (h : Rel σ τ) {x : Int32} {y : Int32} {τ' : St} (hm : (fun v u => (¬ tM τ x ∧ u = th τ 1) ∨ (∃ c, c < 24 ∧ x = nI c ∧ tM τ x ∧ v = τ 2 c ∧ u = th τ 0)) y τ') : Rel σ τ' ∧ (∀ z, (fun v => ∃ c, c < 24 ∧ x = nI c ∧ bt (σ 0 0) c = true ∧ v = σ 2 c) z → τ' 0 0 = nI 0 ∧ z = y) ∧ ((fun E => E = "java/util/NoSuchElementException" ∧ ¬ isT σ x) "java/util/NoSuchElementException" → τ' 0 0 = nI 1) := by
  rcases hm with ⟨q, rfl⟩ | ⟨c, hc, rfl, q, rfl, rfl⟩
  · refine ⟨h, fun z ⟨c, hc, e, hb, _⟩ => absurd ((R_T h _).mp (c_T hc e hb)) q, fun _ => rfl⟩
  · refine ⟨h, fun z ⟨c', hc', e, hb, ez⟩ => ⟨rfl, ?_⟩, fun hX => absurd ((R_T h _).mpr q) hX.2⟩
    obtain rfl := nI_i hc hc' e
    obtain ⟨r1, r2, r3, r4, r7, r8⟩ := (R_C h hc hb).1
    rw [ez, r2]
theorem o_rootAt {σ τ : St} (h : Rel σ τ) {r : Int32} {y : Int32} {τ' : St} (hm : (fun v u => (¬ isR r ∧ u = th τ 1) ∨ (∃ j, j < 6 ∧ r = nI j ∧ v = τ 10 j ∧ u = th τ 0)) y τ') : Rel σ τ' ∧ (∀ z, (fun v => ∃ j, j < 6 ∧ r = nI j ∧ v = σ 10 j) z → τ' 0 0 = nI 0 ∧ z = y) ∧ ((fun E => E = "java/lang/IndexOutOfBoundsException" ∧ ¬ isR r) "java/lang/IndexOutOfBoundsException" → τ' 0 0 = nI 1) := by
  rcases hm with ⟨q, rfl⟩ | ⟨j, hj, rfl, rfl, rfl⟩
  · exact ⟨h, fun z ⟨j, hj, e, _⟩ => absurd ⟨j, hj, e⟩ q, fun _ => rfl⟩
  · refine ⟨h, fun z ⟨j', hj', e, ez⟩ => ⟨rfl, ?_⟩, fun hX => absurd ⟨j, hj, rfl⟩ hX.2⟩
    obtain rfl := nI_i (by omega) (by omega) e
    rw [ez, (R_R h j hj).1]
theorem o_get {σ τ : St} (h : Rel σ τ) {x f : Int32} {y : Int32} {τ' : St} (hm : (fun v u => (¬ tM τ x ∧ u = th τ 1) ∨ (tM τ x ∧ ¬ isF τ x f ∧ u = th τ 2) ∨ (∃ c j, c < 24 ∧ x = nI c ∧ tM τ x ∧ j < fc (τ 1 c) ∧ f = nI j ∧ v = τ 3 (c * 3 + j) ∧ u = th τ 0)) y τ') : Rel σ τ' ∧ (∀ z, (fun v => ∃ c j, c < 24 ∧ x = nI c ∧ bt (σ 0 0) c = true ∧ j < fc (σ 1 c) ∧ f = nI j ∧ v = σ 3 (c * 3 + j)) z → τ' 0 0 = nI 0 ∧ z = y) ∧ ((fun E => (E = "java/util/NoSuchElementException" ∧ ¬ isT σ x) ∨ (E = "java/lang/IllegalArgumentException" ∧ isT σ x ∧ ¬ isF σ x f)) "java/util/NoSuchElementException" → τ' 0 0 = nI 1) ∧ ((fun E => (E = "java/util/NoSuchElementException" ∧ ¬ isT σ x) ∨ (E = "java/lang/IllegalArgumentException" ∧ isT σ x ∧ ¬ isF σ x f)) "java/lang/IllegalArgumentException" → τ' 0 0 = nI 2) := by
  rcases hm with ⟨q, rfl⟩ | ⟨q1, q2, rfl⟩ | ⟨c, j, hc, rfl, q, hj, rfl, rfl, rfl⟩
  · refine ⟨h, fun z ⟨c, j, hc, e, hb, _⟩ => absurd ((R_T h _).mp (c_T hc e hb)) q, fun _ => rfl, fun hX => ?_⟩
    rcases hX with ⟨e, -⟩ | ⟨-, hT, -⟩
    · exact absurd e (by decide)
    · exact absurd ((R_T h _).mp hT) q
  · have hT := (R_T h _).mpr q1
    refine ⟨h, fun z ⟨c, j, hc, e, hb, hj, ef, _⟩ => absurd ⟨c, j, hc, e, hj, ef⟩ (fun y => q2 ((R_F h hT).mp y)), fun hX => ?_, fun _ => rfl⟩
    exact absurd hT (xx (by decide) hX)
  · have hT := (R_T h _).mpr q
    have hb := T_c hc hT
    obtain ⟨r1, r2, r3, r4, r7, r8⟩ := (R_C h hc hb).1
    rw [← r1] at hj
    refine ⟨h, fun z ⟨c', j', hc', e, hb', hj', ef, ez⟩ => ⟨rfl, ?_⟩, fun hX => ?_, fun hX => ?_⟩
    · obtain rfl := nI_i hc hc' e
      have f1 := fc_le (σ 1 c)
      obtain rfl := nI_i (a := j) (b := j') (by omega) (by omega) ef
      rw [ez, r3 j hj]
    · exact absurd hT (xx (by decide) hX)
    · rcases hX with ⟨e, -⟩ | ⟨-, -, hn⟩
      · exact absurd e (by decide)
      · exact absurd ⟨c, j, hc, rfl, hj, rfl⟩ hn
theorem o_find {σ τ : St} (h : Rel σ τ) {x k : Int32} {y : Int32} {τ' : St} (hm : (fun v u => fndM τ x k v u) y τ') : Rel σ τ' ∧ (∀ z, (fun v => ∃ c, c < 24 ∧ x = nI c ∧ bt (σ 0 0) c = true ∧ isT σ k ∧ σ 1 c = nI 2 ∧ ((∃ i, i < cnt σ c ∧ σ 4 (c * 4 + i) = k ∧ v = σ 5 (c * 4 + i)) ∨ ((∀ j, j < cnt σ c → σ 4 (c * 4 + j) ≠ k) ∧ v = -1))) z → τ' 0 0 = nI 0 ∧ z = y) ∧ ((fun E => (E = "java/util/NoSuchElementException" ∧ ¬ (isT σ x ∧ isT σ k)) ∨ (E = "java/lang/IllegalArgumentException" ∧ (isT σ x ∧ isT σ k) ∧ ¬ isTab σ x)) "java/util/NoSuchElementException" → τ' 0 0 = nI 1) ∧ ((fun E => (E = "java/util/NoSuchElementException" ∧ ¬ (isT σ x ∧ isT σ k)) ∨ (E = "java/lang/IllegalArgumentException" ∧ (isT σ x ∧ isT σ k) ∧ ¬ isTab σ x)) "java/lang/IllegalArgumentException" → τ' 0 0 = nI 2) := by
  rcases hm with ⟨c, hc, rfl, qx, qk, q2, rfl, hv⟩ | ⟨⟨qx, qk⟩, qt, rfl⟩ | ⟨q, rfl⟩
  · have hT := (R_T h _).mpr qx
    have hK := (R_T h _).mpr qk
    have hb := T_c hc hT
    obtain ⟨⟨r1, r2, r3, r4, r7, r8⟩, -, -, -, i4⟩ := R_C h hc hb
    rw [← r1] at q2
    have eE := r4 q2
    have eC := cnt_of_ent eE
    refine ⟨h, fun z ⟨c', hc', e, hb', _, _, hz⟩ => ⟨rfl, ?_⟩, fun hX => ?_, fun hX => ?_⟩
    · obtain rfl := nI_i hc hc' e
      rcases hz with ⟨i, hi, ek, ez⟩ | ⟨hno, ez⟩ <;> rcases hv with ⟨j, hj, ek', ey⟩ | ⟨hno', ey⟩
      · obtain ⟨a4, a5⟩ := ent_at eE hi
        have : j = i := by
          refine (ent_key (i4 q2).2 (by omega) hi ?_)
          rw [(ent_at eE (show j < cnt σ c by omega)).1, ek', ek]
        subst this
        rw [ez, ey, a5]
      · exact absurd (by rw [← (ent_at eE hi).1]; exact ek) (hno' i (by omega))
      · exact absurd (by rw [(ent_at eE (show j < cnt σ c by omega)).1]; exact ek') (hno j (by omega))
      · rw [ez, ey]
    · exact absurd ⟨hT, hK⟩ (xx (by decide) hX)
    · rcases hX with ⟨e, -⟩ | ⟨-, -, hn⟩
      · exact absurd e (by decide)
      · exact absurd ((isTab_nI hc).mpr q2) hn
  · have hT := (R_T h _).mpr qx
    have hK := (R_T h _).mpr qk
    refine ⟨h, fun z ⟨c', hc', e, hb', _, q2, hz⟩ => absurd ((R_tab h hT).mp (by rw [e]; exact (isTab_nI hc').mpr q2)) qt, fun hX => ?_, fun _ => rfl⟩
    exact absurd ⟨hT, hK⟩ (xx (by decide) hX)
  · refine ⟨h, fun z ⟨c', hc', e, hb', hk, _⟩ => absurd ⟨(R_T h _).mp (c_T hc' e hb'), (R_T h _).mp hk⟩ q, fun _ => rfl, fun hX => ?_⟩
    rcases hX with ⟨e, -⟩ | ⟨-, ⟨a, b⟩, -⟩
    · exact absurd e (by decide)
    · exact absurd ⟨(R_T h _).mp a, (R_T h _).mp b⟩ q
theorem k3 {σ : St} {x i : Int32} {E : String} (hX : (fun E => (E = "java/util/NoSuchElementException" ∧ ¬ isT σ x) ∨ (E = "java/lang/IllegalArgumentException" ∧ isT σ x ∧ ¬ isTab σ x) ∨ (E = "java/lang/IndexOutOfBoundsException" ∧ isT σ x ∧ ∃ c, c < 24 ∧ x = nI c ∧ σ 1 c = nI 2 ∧ ¬ ∃ j, j < cnt σ c ∧ i = nI j)) E) : (E = "java/util/NoSuchElementException" → ¬ isT σ x) ∧ (E = "java/lang/IllegalArgumentException" → ¬ isTab σ x) := by
  rcases hX with ⟨rfl, hX⟩ | ⟨rfl, hX⟩ | ⟨rfl, hX⟩
  · exact ⟨fun _ => hX, fun e => absurd e (by decide)⟩
  · exact ⟨fun e => absurd e (by decide), fun _ => hX.2⟩
  · exact ⟨fun e => absurd e (by decide), fun e => absurd e (by decide)⟩
theorem o_key {σ τ : St} (h : Rel σ τ) {x i : Int32} {y : Int32} {τ' : St} (hm : (fun v u => (¬ tM τ x ∧ u = th τ 1) ∨ (tM τ x ∧ ¬ isTab τ x ∧ u = th τ 2) ∨ (∃ c, c < 24 ∧ x = nI c ∧ tM τ x ∧ τ 1 c = nI 2 ∧ ((¬ (∃ j, j < cnt τ c ∧ i = nI j) ∧ u = th τ 3) ∨ (∃ j, j < cnt τ c ∧ i = nI j ∧ v = τ 4 (c * 4 + j) ∧ u = th τ 0)))) y τ') : Rel σ τ' ∧ (∀ z, (fun v => ∃ c j, c < 24 ∧ x = nI c ∧ bt (σ 0 0) c = true ∧ σ 1 c = nI 2 ∧ j < cnt σ c ∧ i = nI j ∧ v = σ 4 (c * 4 + j)) z → τ' 0 0 = nI 0 ∧ z = y) ∧ ((fun E => (E = "java/util/NoSuchElementException" ∧ ¬ isT σ x) ∨ (E = "java/lang/IllegalArgumentException" ∧ isT σ x ∧ ¬ isTab σ x) ∨ (E = "java/lang/IndexOutOfBoundsException" ∧ isT σ x ∧ ∃ c, c < 24 ∧ x = nI c ∧ σ 1 c = nI 2 ∧ ¬ ∃ j, j < cnt σ c ∧ i = nI j)) "java/util/NoSuchElementException" → τ' 0 0 = nI 1) ∧ ((fun E => (E = "java/util/NoSuchElementException" ∧ ¬ isT σ x) ∨ (E = "java/lang/IllegalArgumentException" ∧ isT σ x ∧ ¬ isTab σ x) ∨ (E = "java/lang/IndexOutOfBoundsException" ∧ isT σ x ∧ ∃ c, c < 24 ∧ x = nI c ∧ σ 1 c = nI 2 ∧ ¬ ∃ j, j < cnt σ c ∧ i = nI j)) "java/lang/IllegalArgumentException" → τ' 0 0 = nI 2) ∧ ((fun E => (E = "java/util/NoSuchElementException" ∧ ¬ isT σ x) ∨ (E = "java/lang/IllegalArgumentException" ∧ isT σ x ∧ ¬ isTab σ x) ∨ (E = "java/lang/IndexOutOfBoundsException" ∧ isT σ x ∧ ∃ c, c < 24 ∧ x = nI c ∧ σ 1 c = nI 2 ∧ ¬ ∃ j, j < cnt σ c ∧ i = nI j)) "java/lang/IndexOutOfBoundsException" → τ' 0 0 = nI 3) := by
  rcases hm with ⟨q, rfl⟩ | ⟨q1, q2, rfl⟩ | ⟨c, hc, rfl, q, q2, hv⟩
  · refine ⟨h, fun z ⟨c, j, hc, e, hb, _⟩ => absurd ((R_T h _).mp (c_T hc e hb)) q, fun _ => rfl, fun hX => ?_, fun hX => ?_⟩
    · rcases hX with ⟨e, -⟩ | ⟨-, hT, -⟩ | ⟨e, -⟩
      · exact absurd e (by decide)
      · exact absurd ((R_T h _).mp hT) q
      · exact absurd e (by decide)
    · rcases hX with ⟨e, -⟩ | ⟨e, -⟩ | ⟨-, hT, -⟩
      · exact absurd e (by decide)
      · exact absurd e (by decide)
      · exact absurd ((R_T h _).mp hT) q
  · have hT := (R_T h _).mpr q1
    refine ⟨h, fun z ⟨c, j, hc, e, hb, h2, _⟩ => absurd ((R_tab h hT).mp (by rw [e]; exact (isTab_nI hc).mpr h2)) q2, fun hX => ?_, fun _ => rfl, fun hX => ?_⟩
    · rcases hX with ⟨-, hn⟩ | ⟨e, -⟩ | ⟨e, -⟩
      · exact absurd hT hn
      · exact absurd e (by decide)
      · exact absurd e (by decide)
    · rcases hX with ⟨e, -⟩ | ⟨e, -⟩ | ⟨-, -, c, hc, e, h2, -⟩
      · exact absurd e (by decide)
      · exact absurd e (by decide)
      · exact absurd ((R_tab h hT).mp (by rw [e]; exact (isTab_nI hc).mpr h2)) q2
  · have hT := (R_T h _).mpr q
    have hb := T_c hc hT
    obtain ⟨r1, r2, r3, r4, r7, r8⟩ := (R_C h hc hb).1
    rw [← r1] at q2
    have eE := r4 q2
    have eC := cnt_of_ent eE
    have n4 := (wf_cnt (R_w1 h) hc).1
    rcases hv with ⟨hno, rfl⟩ | ⟨j, hj, rfl, rfl, rfl⟩
    · refine ⟨h, fun z ⟨c', j, hc', e, hb', _, hj, ei, _⟩ => ?_, fun hX => ((k3 hX).1 rfl hT).elim, fun hX => ((k3 hX).2 rfl ((isTab_nI hc).mpr q2)).elim, fun _ => rfl⟩
      obtain rfl := nI_i hc hc' e
      exact absurd ⟨j, by omega, ei⟩ hno
    · refine ⟨h, fun z ⟨c', j', hc', e, hb', _, hj', ei, ez⟩ => ⟨rfl, ?_⟩, fun hX => ((k3 hX).1 rfl hT).elim, fun hX => ((k3 hX).2 rfl ((isTab_nI hc).mpr q2)).elim, fun hX => ?_⟩
      · obtain rfl := nI_i hc hc' e
        obtain rfl := nI_i (a := j) (b := j') (by omega) (by omega) ei
        rw [ez, (ent_at eE hj').1]
      · rcases hX with ⟨e, -⟩ | ⟨e, -⟩ | ⟨-, -, c', hc', e, -, hno⟩
        · exact absurd e (by decide)
        · exact absurd e (by decide)
        · obtain rfl := nI_i hc hc' e
          exact absurd ⟨j, by omega, rfl⟩ hno
theorem o_set {σ τ : St} (h : Rel σ τ) {x f t : Int32} {τ' : St} (hm : (fun u => (¬ (tM τ x ∧ (t = -1 ∨ tM τ t)) ∧ u = th τ 1) ∨ ((tM τ x ∧ (t = -1 ∨ tM τ t)) ∧ ¬ isF τ x f ∧ u = th τ 2) ∨ (∃ c j, c < 24 ∧ x = nI c ∧ tM τ x ∧ (t = -1 ∨ tM τ t) ∧ j < fc (τ 1 c) ∧ f = nI j ∧ u = va_up (th τ 0) 3 (upd (τ 3) (c * 3 + j) t))) τ') : (∀ s, (fun u => ∃ c j, c < 24 ∧ x = nI c ∧ bt (σ 0 0) c = true ∧ (t = -1 ∨ isT σ t) ∧ j < fc (σ 1 c) ∧ f = nI j ∧ u = va_up σ 3 (upd (σ 3) (c * 3 + j) t)) s → τ' 0 0 = nI 0 ∧ Rel s τ') ∧ (∀ s, (fun E u => u = σ ∧ ((E = "java/util/NoSuchElementException" ∧ ¬ (isT σ x ∧ (t = -1 ∨ isT σ t))) ∨ (E = "java/lang/IllegalArgumentException" ∧ (isT σ x ∧ (t = -1 ∨ isT σ t)) ∧ ¬ isF σ x f))) "java/util/NoSuchElementException" s → τ' 0 0 = nI 1 ∧ Rel s τ') ∧ (∀ s, (fun E u => u = σ ∧ ((E = "java/util/NoSuchElementException" ∧ ¬ (isT σ x ∧ (t = -1 ∨ isT σ t))) ∨ (E = "java/lang/IllegalArgumentException" ∧ (isT σ x ∧ (t = -1 ∨ isT σ t)) ∧ ¬ isF σ x f))) "java/lang/IllegalArgumentException" s → τ' 0 0 = nI 2 ∧ Rel s τ') := by
  rcases hm with ⟨q, rfl⟩ | ⟨⟨qx, qt⟩, qf, rfl⟩ | ⟨c, j, hc, rfl, qx, qt, hj, rfl, rfl⟩
  · have hn : ¬ (isT σ x ∧ (t = -1 ∨ isT σ t)) := fun y => q ⟨(R_T h _).mp y.1, (R_Tn h _).mp y.2⟩
    refine ⟨fun s ⟨c, j, hc, e, hb, ht, _⟩ => absurd ⟨c_T hc e hb, ht⟩ hn, fun s hX => ?_, fun s hX => ?_⟩
    · obtain ⟨rfl, -⟩ := hX
      exact ⟨rfl, h⟩
    · obtain ⟨-, ⟨e, -⟩ | ⟨-, y, -⟩⟩ := hX
      · exact absurd e (by decide)
      · exact absurd y hn
  · have hT := (R_T h _).mpr qx
    refine ⟨fun s ⟨c, j, hc, e, hb, ht, hj, ef, _⟩ => absurd ((R_F h hT).mp ⟨c, j, hc, e, hj, ef⟩) qf, fun s hX => ?_, fun s hX => ?_⟩
    · obtain ⟨-, hX⟩ := hX
      exact absurd ⟨hT, (R_Tn h _).mpr qt⟩ (xx (by decide) hX)
    · obtain ⟨rfl, -⟩ := hX
      exact ⟨rfl, h⟩
  · have hT := (R_T h _).mpr qx
    have ht := (R_Tn h _).mpr qt
    have hb := T_c hc hT
    have r1 := (R_C h hc hb).1.1
    rw [← r1] at hj
    refine ⟨fun s ⟨c', j', hc', e, hb', _, hj', ef, es⟩ => ⟨rfl, ?_⟩, fun s hX => ?_, fun s hX => ?_⟩
    · obtain rfl := nI_i hc hc' e
      have f1 := fc_le (σ 1 c)
      obtain rfl := nI_i (a := j) (b := j') (by omega) (by omega) ef
      rw [es]
      exact Rel_set h hc hb hj ht
    · exact absurd ⟨hT, ht⟩ (xx (by decide) hX.2)
    · obtain ⟨-, ⟨e, -⟩ | ⟨-, -, hn⟩⟩ := hX
      · exact absurd e (by decide)
      · exact absurd ⟨c, j, hc, rfl, hj, rfl⟩ hn
theorem o_root {σ τ : St} (h : Rel σ τ) {r x : Int32} {τ' : St} (hm : (fun u => (¬ isR r ∧ u = th τ 1) ∨ (isR r ∧ ¬ (x = -1 ∨ tM τ x) ∧ u = th τ 2) ∨ (∃ j, j < 6 ∧ r = nI j ∧ (x = -1 ∨ tM τ x) ∧ u = va_up (th τ 0) 10 (upd (τ 10) j x))) τ') : (∀ s, (fun u => ∃ j, j < 6 ∧ r = nI j ∧ (x = -1 ∨ isT σ x) ∧ u = va_up σ 10 (upd (σ 10) j x)) s → τ' 0 0 = nI 0 ∧ Rel s τ') ∧ (∀ s, (fun E u => u = σ ∧ ((E = "java/lang/IndexOutOfBoundsException" ∧ ¬ isR r) ∨ (E = "java/util/NoSuchElementException" ∧ isR r ∧ ¬ (x = -1 ∨ isT σ x)))) "java/lang/IndexOutOfBoundsException" s → τ' 0 0 = nI 1 ∧ Rel s τ') ∧ (∀ s, (fun E u => u = σ ∧ ((E = "java/lang/IndexOutOfBoundsException" ∧ ¬ isR r) ∨ (E = "java/util/NoSuchElementException" ∧ isR r ∧ ¬ (x = -1 ∨ isT σ x)))) "java/util/NoSuchElementException" s → τ' 0 0 = nI 2 ∧ Rel s τ') := by
  rcases hm with ⟨q, rfl⟩ | ⟨qr, q, rfl⟩ | ⟨j, hj, rfl, q, rfl⟩
  · refine ⟨fun s ⟨j, hj, e, _⟩ => absurd ⟨j, hj, e⟩ q, fun s hX => ?_, fun s hX => ?_⟩
    · obtain ⟨rfl, -⟩ := hX
      exact ⟨rfl, h⟩
    · obtain ⟨-, ⟨e, -⟩ | ⟨-, y, -⟩⟩ := hX
      · exact absurd e (by decide)
      · exact absurd y q
  · refine ⟨fun s ⟨j, hj, e, hx, _⟩ => absurd ((R_Tn h _).mp hx) q, fun s hX => ?_, fun s hX => ?_⟩
    · exact absurd qr (xx (by decide) hX.2)
    · obtain ⟨rfl, -⟩ := hX
      exact ⟨rfl, h⟩
  · have hx := (R_Tn h _).mpr q
    refine ⟨fun s ⟨j', hj', e, _, es⟩ => ⟨rfl, ?_⟩, fun s hX => ?_, fun s hX => ?_⟩
    · obtain rfl := nI_i (a := j) (b := j') (by omega) (by omega) e
      rw [es]
      exact Rel_root (τ := th τ 0) h hx
    · exact absurd ⟨j, hj, rfl⟩ (xx (by decide) hX.2)
    · obtain ⟨-, ⟨e, -⟩ | ⟨-, -, hn⟩⟩ := hX
      · exact absurd e (by decide)
      · exact absurd hx hn
theorem g4 {σ : St} {x a r : Int32} {E : String} {s : St} (hX : (fun E u => u = σ ∧ ((E = "java/util/NoSuchElementException" ∧ ¬ isT σ x) ∨ (E = "java/lang/IllegalArgumentException" ∧ isT σ x ∧ ¬ isA a) ∨ (E = "java/lang/IndexOutOfBoundsException" ∧ isT σ x ∧ isA a ∧ ¬ isR r) ∨ (E = "java/lang/IllegalStateException" ∧ isT σ x ∧ isA a ∧ isR r ∧ ∃ c, c < 24 ∧ x = nI c ∧ ¬ σ 7 c = 0))) E s) : s = σ ∧ (E = "java/util/NoSuchElementException" → ¬ isT σ x) ∧ (E = "java/lang/IllegalArgumentException" → isT σ x ∧ ¬ isA a) ∧ (E = "java/lang/IndexOutOfBoundsException" → isT σ x ∧ isA a ∧ ¬ isR r) ∧ (E = "java/lang/IllegalStateException" → isT σ x ∧ isA a ∧ isR r ∧ ∃ c, c < 24 ∧ x = nI c ∧ ¬ σ 7 c = 0) := by
  obtain ⟨rfl, hX⟩ := hX
  rcases hX with ⟨rfl, hX⟩ | ⟨rfl, hX⟩ | ⟨rfl, hX⟩ | ⟨rfl, hX⟩
  · exact ⟨rfl, fun _ => hX, fun e => absurd e (by decide), fun e => absurd e (by decide), fun e => absurd e (by decide)⟩
  · exact ⟨rfl, fun e => absurd e (by decide), fun _ => hX, fun e => absurd e (by decide), fun e => absurd e (by decide)⟩
  · exact ⟨rfl, fun e => absurd e (by decide), fun e => absurd e (by decide), fun _ => hX, fun e => absurd e (by decide)⟩
  · exact ⟨rfl, fun e => absurd e (by decide), fun e => absurd e (by decide), fun e => absurd e (by decide), fun _ => hX⟩
theorem o_guard {σ τ : St} (h : Rel σ τ) {x a r : Int32} {τ' : St} (hm : (fun u => (¬ tM τ x ∧ u = th τ 1) ∨ (tM τ x ∧ ¬ isA a ∧ u = th τ 2) ∨ (tM τ x ∧ isA a ∧ ¬ isR r ∧ u = th τ 3) ∨ (∃ c, c < 24 ∧ x = nI c ∧ tM τ x ∧ isA a ∧ isR r ∧ ((¬ τ 7 c ≤ 0 ∧ u = th τ 4) ∨ (τ 7 c ≤ 0 ∧ u = grd (th τ 0) c a r)))) τ') : (∀ s, (fun u => ∃ c i j, c < 24 ∧ x = nI c ∧ bt (σ 0 0) c = true ∧ i < 4 ∧ a = nI i ∧ j < 6 ∧ r = nI j ∧ σ 7 c = 0 ∧ u = grd σ c a r) s → τ' 0 0 = nI 0 ∧ Rel s τ') ∧ (∀ s, (fun E u => u = σ ∧ ((E = "java/util/NoSuchElementException" ∧ ¬ isT σ x) ∨ (E = "java/lang/IllegalArgumentException" ∧ isT σ x ∧ ¬ isA a) ∨ (E = "java/lang/IndexOutOfBoundsException" ∧ isT σ x ∧ isA a ∧ ¬ isR r) ∨ (E = "java/lang/IllegalStateException" ∧ isT σ x ∧ isA a ∧ isR r ∧ ∃ c, c < 24 ∧ x = nI c ∧ ¬ σ 7 c = 0))) "java/util/NoSuchElementException" s → τ' 0 0 = nI 1 ∧ Rel s τ') ∧ (∀ s, (fun E u => u = σ ∧ ((E = "java/util/NoSuchElementException" ∧ ¬ isT σ x) ∨ (E = "java/lang/IllegalArgumentException" ∧ isT σ x ∧ ¬ isA a) ∨ (E = "java/lang/IndexOutOfBoundsException" ∧ isT σ x ∧ isA a ∧ ¬ isR r) ∨ (E = "java/lang/IllegalStateException" ∧ isT σ x ∧ isA a ∧ isR r ∧ ∃ c, c < 24 ∧ x = nI c ∧ ¬ σ 7 c = 0))) "java/lang/IllegalArgumentException" s → τ' 0 0 = nI 2 ∧ Rel s τ') ∧ (∀ s, (fun E u => u = σ ∧ ((E = "java/util/NoSuchElementException" ∧ ¬ isT σ x) ∨ (E = "java/lang/IllegalArgumentException" ∧ isT σ x ∧ ¬ isA a) ∨ (E = "java/lang/IndexOutOfBoundsException" ∧ isT σ x ∧ isA a ∧ ¬ isR r) ∨ (E = "java/lang/IllegalStateException" ∧ isT σ x ∧ isA a ∧ isR r ∧ ∃ c, c < 24 ∧ x = nI c ∧ ¬ σ 7 c = 0))) "java/lang/IndexOutOfBoundsException" s → τ' 0 0 = nI 3 ∧ Rel s τ') ∧ (∀ s, (fun E u => u = σ ∧ ((E = "java/util/NoSuchElementException" ∧ ¬ isT σ x) ∨ (E = "java/lang/IllegalArgumentException" ∧ isT σ x ∧ ¬ isA a) ∨ (E = "java/lang/IndexOutOfBoundsException" ∧ isT σ x ∧ isA a ∧ ¬ isR r) ∨ (E = "java/lang/IllegalStateException" ∧ isT σ x ∧ isA a ∧ isR r ∧ ∃ c, c < 24 ∧ x = nI c ∧ ¬ σ 7 c = 0))) "java/lang/IllegalStateException" s → τ' 0 0 = nI 4 ∧ Rel s τ') := by
  rcases hm with ⟨q, rfl⟩ | ⟨qx, qa, rfl⟩ | ⟨qx, qa, qr, rfl⟩ | ⟨c, hc, rfl, qx, qa, qr, hv⟩
  · have hn : ¬ isT σ x := fun y => q ((R_T h _).mp y)
    refine ⟨fun s ⟨c, i, j, hc, e, hb, _⟩ => absurd (c_T hc e hb) hn, fun s hX => ?_, fun s hX => ?_, fun s hX => ?_, fun s hX => ?_⟩
    · rw [(g4 hX).1]; exact ⟨rfl, h⟩
    · exact absurd ((g4 hX).2.2.1 rfl).1 hn
    · exact absurd ((g4 hX).2.2.2.1 rfl).1 hn
    · exact absurd ((g4 hX).2.2.2.2 rfl).1 hn
  · have hT := (R_T h _).mpr qx
    refine ⟨fun s ⟨c, i, j, hc, e, hb, hi, ea, _⟩ => absurd ⟨i, hi, ea⟩ qa, fun s hX => ?_, fun s hX => ?_, fun s hX => ?_, fun s hX => ?_⟩
    · exact absurd hT ((g4 hX).2.1 rfl)
    · rw [(g4 hX).1]; exact ⟨rfl, h⟩
    · exact absurd ((g4 hX).2.2.2.1 rfl).2.1 qa
    · exact absurd ((g4 hX).2.2.2.2 rfl).2.1 qa
  · have hT := (R_T h _).mpr qx
    refine ⟨fun s ⟨c, i, j, hc, e, hb, hi, ea, hj, er, _⟩ => absurd ⟨j, hj, er⟩ qr, fun s hX => ?_, fun s hX => ?_, fun s hX => ?_, fun s hX => ?_⟩
    · exact absurd hT ((g4 hX).2.1 rfl)
    · exact absurd qa ((g4 hX).2.2.1 rfl).2
    · rw [(g4 hX).1]; exact ⟨rfl, h⟩
    · exact absurd ((g4 hX).2.2.2.2 rfl).2.2.1 qr
  · have hT := (R_T h _).mpr qx
    have hb := T_c hc hT
    obtain ⟨⟨r1, r2, r3, r4, r7, r8⟩, i1, ⟨t, ht4, et⟩, -⟩ := R_C h hc hb
    rcases hv with ⟨h7, rfl⟩ | ⟨h7, rfl⟩
    · have h0 : ¬ σ 7 c = 0 := fun y => h7 (by rw [← r7, y]; decide)
      refine ⟨fun s ⟨c', i, j, hc', e, _, _, _, _, _, z, _⟩ => ?_, fun s hX => ?_, fun s hX => ?_, fun s hX => ?_, fun s hX => ?_⟩
      · obtain rfl := nI_i hc hc' e
        exact absurd z h0
      · exact absurd hT ((g4 hX).2.1 rfl)
      · exact absurd qa ((g4 hX).2.2.1 rfl).2
      · exact absurd qr ((g4 hX).2.2.2.1 rfl).2.2
      · rw [(g4 hX).1]; exact ⟨rfl, h⟩
    · have h0 : σ 7 c = 0 := by
        rw [← r7, et] at h7
        have : t ≤ 0 := (nI_leI (by omega) (by decide)).mp h7
        rw [et, show t = 0 by omega]; rfl
      refine ⟨fun s ⟨c', i, j, hc', e, _, hi, ea, hj, er, _, es⟩ => ⟨rfl, ?_⟩, fun s hX => ?_, fun s hX => ?_, fun s hX => ?_, fun s hX => ?_⟩
      · obtain rfl := nI_i hc hc' e
        rw [es]; exact Rel_guard h hc hb h0 qa qr
      · exact absurd hT ((g4 hX).2.1 rfl)
      · exact absurd qa ((g4 hX).2.2.1 rfl).2
      · exact absurd qr ((g4 hX).2.2.2.1 rfl).2.2
      · obtain ⟨-, -, -, c', hc', e, z⟩ := (g4 hX).2.2.2.2 rfl
        obtain rfl := nI_i hc hc' e
        exact absurd h0 z
theorem o_remove {σ τ : St} (h : Rel σ τ) {x k : Int32} {y : Int32} {τ' : St} (hm : (fun v u => remM τ x k v u) y τ') : (∀ z s, (fun v u => ∃ c, c < 24 ∧ x = nI c ∧ bt (σ 0 0) c = true ∧ isT σ k ∧ σ 1 c = nI 2 ∧ ((∃ i, i < cnt σ c ∧ σ 4 (c * 4 + i) = k ∧ v = nI 1 ∧ u = drp σ c i) ∨ ((∀ j, j < cnt σ c → σ 4 (c * 4 + j) ≠ k) ∧ v = nI 0 ∧ u = σ))) z s → τ' 0 0 = nI 0 ∧ z = y ∧ Rel s τ') ∧ (∀ s, (fun E u => u = σ ∧ ((E = "java/util/NoSuchElementException" ∧ ¬ (isT σ x ∧ isT σ k)) ∨ (E = "java/lang/IllegalArgumentException" ∧ (isT σ x ∧ isT σ k) ∧ ¬ isTab σ x))) "java/util/NoSuchElementException" s → τ' 0 0 = nI 1 ∧ Rel s τ') ∧ (∀ s, (fun E u => u = σ ∧ ((E = "java/util/NoSuchElementException" ∧ ¬ (isT σ x ∧ isT σ k)) ∨ (E = "java/lang/IllegalArgumentException" ∧ (isT σ x ∧ isT σ k) ∧ ¬ isTab σ x))) "java/lang/IllegalArgumentException" s → τ' 0 0 = nI 2 ∧ Rel s τ') := by
  rcases hm with ⟨c, hc, rfl, qx, qk, q2, hv⟩ | ⟨⟨qx, qk⟩, qt, rfl⟩ | ⟨q, rfl⟩
  · have hT := (R_T h _).mpr qx
    have hK := (R_T h _).mpr qk
    have hb := T_c hc hT
    obtain ⟨⟨r1, r2, r3, r4, r7, r8⟩, -, -, -, i4⟩ := R_C h hc hb
    rw [← r1] at q2
    have eE := r4 q2
    have eC := cnt_of_ent eE
    refine ⟨fun z s ⟨c', hc', e, hb', _, _, hz⟩ => ?_, fun s hX => ?_, fun s hX => ?_⟩
    · obtain rfl := nI_i hc hc' e
      rcases hz with ⟨i, hi, ek, ez, es⟩ | ⟨hno, ez, es⟩ <;> rcases hv with ⟨j, hj, ek', ey, et⟩ | ⟨hno', ey, et⟩
      · have : j = i := by
          refine (ent_key (i4 q2).2 (by omega) hi ?_)
          rw [(ent_at eE (show j < cnt σ c by omega)).1, ek', ek]
        subst this
        rw [et]
        exact ⟨rfl, ez.trans ey.symm, by rw [es]; exact Rel_drp h hc hb q2 hi⟩
      · exact absurd (by rw [← (ent_at eE hi).1]; exact ek) (hno' i (by omega))
      · exact absurd (by rw [(ent_at eE (show j < cnt σ c by omega)).1]; exact ek') (hno j (by omega))
      · rw [et]
        exact ⟨rfl, ez.trans ey.symm, by rw [es]; exact h⟩
    · exact absurd ⟨hT, hK⟩ (xx (by decide) hX.2)
    · obtain ⟨-, ⟨e, -⟩ | ⟨-, -, hn⟩⟩ := hX
      · exact absurd e (by decide)
      · exact absurd ((isTab_nI hc).mpr q2) hn
  · have hT := (R_T h _).mpr qx
    have hK := (R_T h _).mpr qk
    refine ⟨fun z s ⟨c', hc', e, hb', _, q2, hz⟩ => absurd ((R_tab h hT).mp (by rw [e]; exact (isTab_nI hc').mpr q2)) qt, fun s hX => ?_, fun s hX => ?_⟩
    · exact absurd ⟨hT, hK⟩ (xx (by decide) hX.2)
    · obtain ⟨rfl, -⟩ := hX
      exact ⟨rfl, h⟩
  · refine ⟨fun z s ⟨c', hc', e, hb', hk, _⟩ => absurd ⟨(R_T h _).mp (c_T hc' e hb'), (R_T h _).mp hk⟩ q, fun s hX => ?_, fun s hX => ?_⟩
    · obtain ⟨rfl, -⟩ := hX
      exact ⟨rfl, h⟩
    · obtain ⟨-, ⟨e, -⟩ | ⟨-, ⟨a, b⟩, -⟩⟩ := hX
      · exact absurd e (by decide)
      · exact absurd ⟨(R_T h _).mp a, (R_T h _).mp b⟩ q
theorem p3 {σ : St} {x k v : Int32} {E : String} {s : St} (hX : (fun E u => u = σ ∧ ((E = "java/util/NoSuchElementException" ∧ ¬ (isT σ x ∧ isT σ k ∧ isT σ v)) ∨ (E = "java/lang/IllegalArgumentException" ∧ (isT σ x ∧ isT σ k ∧ isT σ v) ∧ ¬ isTab σ x) ∨ (E = "java/lang/IllegalStateException" ∧ (isT σ x ∧ isT σ k ∧ isT σ v) ∧ ∃ c, c < 24 ∧ x = nI c ∧ σ 1 c = nI 2 ∧ cnt σ c = 4 ∧ ∀ j, j < cnt σ c → σ 4 (c * 4 + j) ≠ k))) E s) : s = σ ∧ (E = "java/util/NoSuchElementException" → ¬ (isT σ x ∧ isT σ k ∧ isT σ v)) ∧ (E = "java/lang/IllegalArgumentException" → (isT σ x ∧ isT σ k ∧ isT σ v) ∧ ¬ isTab σ x) ∧ (E = "java/lang/IllegalStateException" → (isT σ x ∧ isT σ k ∧ isT σ v) ∧ ∃ c, c < 24 ∧ x = nI c ∧ σ 1 c = nI 2 ∧ cnt σ c = 4 ∧ ∀ j, j < cnt σ c → σ 4 (c * 4 + j) ≠ k) := by
  obtain ⟨rfl, hX⟩ := hX
  rcases hX with ⟨rfl, hX⟩ | ⟨rfl, hX⟩ | ⟨rfl, hX⟩
  · exact ⟨rfl, fun _ => hX, fun e => absurd e (by decide), fun e => absurd e (by decide)⟩
  · exact ⟨rfl, fun e => absurd e (by decide), fun _ => hX, fun e => absurd e (by decide)⟩
  · exact ⟨rfl, fun e => absurd e (by decide), fun e => absurd e (by decide), fun _ => hX⟩
theorem o_put {σ τ : St} (h : Rel σ τ) {x k v : Int32} {y : Int32} {τ' : St} (hm : (fun r u => putM τ x k v r u) y τ') : (∀ z s, (fun r u => ∃ c, c < 24 ∧ x = nI c ∧ bt (σ 0 0) c = true ∧ isT σ k ∧ isT σ v ∧ σ 1 c = nI 2 ∧ ((∃ i, i < cnt σ c ∧ σ 4 (c * 4 + i) = k ∧ r = nI 0 ∧ u = va_up σ 5 (upd (σ 5) (c * 4 + i) v)) ∨ ((∀ j, j < cnt σ c → σ 4 (c * 4 + j) ≠ k) ∧ cnt σ c < 4 ∧ r = nI 1 ∧ u = apd σ c k v))) z s → τ' 0 0 = nI 0 ∧ z = y ∧ Rel s τ') ∧ (∀ s, (fun E u => u = σ ∧ ((E = "java/util/NoSuchElementException" ∧ ¬ (isT σ x ∧ isT σ k ∧ isT σ v)) ∨ (E = "java/lang/IllegalArgumentException" ∧ (isT σ x ∧ isT σ k ∧ isT σ v) ∧ ¬ isTab σ x) ∨ (E = "java/lang/IllegalStateException" ∧ (isT σ x ∧ isT σ k ∧ isT σ v) ∧ ∃ c, c < 24 ∧ x = nI c ∧ σ 1 c = nI 2 ∧ cnt σ c = 4 ∧ ∀ j, j < cnt σ c → σ 4 (c * 4 + j) ≠ k))) "java/util/NoSuchElementException" s → τ' 0 0 = nI 1 ∧ Rel s τ') ∧ (∀ s, (fun E u => u = σ ∧ ((E = "java/util/NoSuchElementException" ∧ ¬ (isT σ x ∧ isT σ k ∧ isT σ v)) ∨ (E = "java/lang/IllegalArgumentException" ∧ (isT σ x ∧ isT σ k ∧ isT σ v) ∧ ¬ isTab σ x) ∨ (E = "java/lang/IllegalStateException" ∧ (isT σ x ∧ isT σ k ∧ isT σ v) ∧ ∃ c, c < 24 ∧ x = nI c ∧ σ 1 c = nI 2 ∧ cnt σ c = 4 ∧ ∀ j, j < cnt σ c → σ 4 (c * 4 + j) ≠ k))) "java/lang/IllegalArgumentException" s → τ' 0 0 = nI 2 ∧ Rel s τ') ∧ (∀ s, (fun E u => u = σ ∧ ((E = "java/util/NoSuchElementException" ∧ ¬ (isT σ x ∧ isT σ k ∧ isT σ v)) ∨ (E = "java/lang/IllegalArgumentException" ∧ (isT σ x ∧ isT σ k ∧ isT σ v) ∧ ¬ isTab σ x) ∨ (E = "java/lang/IllegalStateException" ∧ (isT σ x ∧ isT σ k ∧ isT σ v) ∧ ∃ c, c < 24 ∧ x = nI c ∧ σ 1 c = nI 2 ∧ cnt σ c = 4 ∧ ∀ j, j < cnt σ c → σ 4 (c * 4 + j) ≠ k))) "java/lang/IllegalStateException" s → τ' 0 0 = nI 3 ∧ Rel s τ') := by
  rcases hm with ⟨q, rfl⟩ | ⟨⟨qx, qk, qv⟩, hm⟩
  · have hn : ¬ (isT σ x ∧ isT σ k ∧ isT σ v) := fun y => q ⟨(R_T h _).mp y.1, (R_T h _).mp y.2.1, (R_T h _).mp y.2.2⟩
    refine ⟨fun z s ⟨c, hc, e, hb, hk, hv, _⟩ => absurd ⟨c_T hc e hb, hk, hv⟩ hn, fun s hX => ?_, fun s hX => ?_, fun s hX => ?_⟩
    · rw [(p3 hX).1]; exact ⟨rfl, h⟩
    · exact absurd ((p3 hX).2.2.1 rfl).1 hn
    · exact absurd ((p3 hX).2.2.2 rfl).1 hn
  · have hT := (R_T h _).mpr qx
    have hK := (R_T h _).mpr qk
    have hV := (R_T h _).mpr qv
    rcases hm with ⟨qt, rfl⟩ | ⟨c, hc, rfl, q2, hm⟩
    · refine ⟨fun z s ⟨c, hc, e, hb, hk, hv, h2, _⟩ => absurd ((R_tab h hT).mp (by rw [e]; exact (isTab_nI hc).mpr h2)) qt, fun s hX => ?_, fun s hX => ?_, fun s hX => ?_⟩
      · exact absurd ⟨hT, hK, hV⟩ ((p3 hX).2.1 rfl)
      · rw [(p3 hX).1]; exact ⟨rfl, h⟩
      · obtain ⟨-, c, hc, e, h2, -⟩ := (p3 hX).2.2.2 rfl
        exact absurd ((R_tab h hT).mp (by rw [e]; exact (isTab_nI hc).mpr h2)) qt
    · have hb := T_c hc hT
      obtain ⟨⟨r1, r2, r3, r4, r7, r8⟩, -, -, -, i4⟩ := R_C h hc hb
      rw [← r1] at q2
      have eE := r4 q2
      have eC := cnt_of_ent eE
      rcases hm with ⟨h4, hno, rfl⟩ | ⟨j, hj, ek', rfl, rfl⟩ | ⟨hno, h4, rfl, rfl⟩
      · refine ⟨fun z s ⟨c', hc', e, _, _, _, _, hz⟩ => ?_, fun s hX => ((p3 hX).2.1 rfl ⟨hT, hK, hV⟩).elim, fun s hX => (((p3 hX).2.2.1 rfl).2 ((isTab_nI hc).mpr q2)).elim, fun s hX => ?_⟩
        · obtain rfl := nI_i hc hc' e
          rcases hz with ⟨i, hi, ek, -⟩ | ⟨-, hl, -⟩
          · exact absurd (by rw [← (ent_at eE hi).1]; exact ek) (hno i (by omega))
          · omega
        · rw [(p3 hX).1]; exact ⟨rfl, h⟩
      · refine ⟨fun z s ⟨c', hc', e, _, _, _, _, hz⟩ => ?_, fun s hX => ((p3 hX).2.1 rfl ⟨hT, hK, hV⟩).elim, fun s hX => (((p3 hX).2.2.1 rfl).2 ((isTab_nI hc).mpr q2)).elim, fun s hX => ?_⟩
        · obtain rfl := nI_i hc hc' e
          rcases hz with ⟨i, hi, ek, ez, es⟩ | ⟨hno, hl, -⟩
          · have : j = i := by
              refine (ent_key (i4 q2).2 (by omega) hi ?_)
              rw [(ent_at eE (show j < cnt σ c by omega)).1, ek', ek]
            subst this
            rw [es, ez]
            exact ⟨rfl, rfl, Rel_put h hc hb q2 hK hV hi ek⟩
          · exact absurd (by rw [(ent_at eE (show j < cnt σ c by omega)).1]; exact ek') (hno j (by omega))
        · obtain ⟨-, c', hc', e, -, -, hno⟩ := (p3 hX).2.2.2 rfl
          obtain rfl := nI_i hc hc' e
          exact absurd (by rw [(ent_at eE (show j < cnt σ c by omega)).1]; exact ek') (hno j (by omega))
      · refine ⟨fun z s ⟨c', hc', e, _, _, _, _, hz⟩ => ?_, fun s hX => ((p3 hX).2.1 rfl ⟨hT, hK, hV⟩).elim, fun s hX => (((p3 hX).2.2.1 rfl).2 ((isTab_nI hc).mpr q2)).elim, fun s hX => ?_⟩
        · obtain rfl := nI_i hc hc' e
          rcases hz with ⟨i, hi, ek, ez, es⟩ | ⟨hno', hl, ez, es⟩
          · exact absurd (by rw [← (ent_at eE hi).1]; exact ek) (hno i (by omega))
          · rw [es, ez]
            exact ⟨rfl, rfl, Rel_apd h hc hb q2 hK hV hno' hl⟩
        · obtain ⟨-, c', hc', e, -, h5, -⟩ := (p3 hX).2.2.2 rfl
          obtain rfl := nI_i hc hc' e
          omega
theorem o_make {σ τ : St} (h : Rel σ τ) {k : Int32} {y : Int32} {τ' : St} (hm : (fun v u => mkM τ k v u) y τ') : (∀ z s, (fun v u => isK k ∧ ((∃ c, lf σ c ∧ v = nI c ∧ u = plc σ c k) ∨ (full σ ∧ ∃ v1 σ1 c, colX σ v1 σ1 ∧ lf σ1 c ∧ v = nI c ∧ u = plc σ1 c k))) z s → τ' 0 0 = nI 0 ∧ z = y ∧ Rel s τ') ∧ (∀ s, (fun E u => (E = "java/lang/IllegalArgumentException" ∧ ¬ isK k ∧ u = σ) ∨ (E = "java/lang/IllegalStateException" ∧ isK k ∧ full σ ∧ ∃ v1, colX σ v1 u ∧ full u)) "java/lang/IllegalArgumentException" s → τ' 0 0 = nI 1 ∧ Rel s τ') ∧ (∀ s, (fun E u => (E = "java/lang/IllegalArgumentException" ∧ ¬ isK k ∧ u = σ) ∨ (E = "java/lang/IllegalStateException" ∧ isK k ∧ full σ ∧ ∃ v1, colX σ v1 u ∧ full u)) "java/lang/IllegalStateException" s → τ' 0 0 = nI 2 ∧ Rel s τ') := by
  rcases hm with ⟨q, rfl⟩ | ⟨hk, hm⟩
  · refine ⟨fun z s hz => absurd hz.1 q, fun s hX => ?_, fun s hX => ?_⟩
    · rcases hX with ⟨-, -, rfl⟩ | ⟨e, -⟩
      · exact ⟨rfl, h⟩
      · exact absurd e (by decide)
    · rcases hX with ⟨e, -⟩ | ⟨-, y, -⟩
      · exact absurd e (by decide)
      · exact absurd y q
  · have x1 : ∀ s, (fun E u => (E = "java/lang/IllegalArgumentException" ∧ ¬ isK k ∧ u = σ) ∨ (E = "java/lang/IllegalStateException" ∧ isK k ∧ full σ ∧ ∃ v1, colX σ v1 u ∧ full u)) "java/lang/IllegalArgumentException" s → False := fun s hX => by
      rcases hX with ⟨-, y, -⟩ | ⟨e, -⟩
      · exact y hk
      · exact absurd e (by decide)
    rcases hm with ⟨c, hl, rfl, rfl⟩ | ⟨hf, v1, σ1, hg, hm⟩
    · refine ⟨fun z s hz => ?_, fun s hX => (x1 s hX).elim, fun s hX => ?_⟩
      · rcases hz.2 with ⟨c', hl', rfl, rfl⟩ | ⟨hf, -⟩
        · obtain rfl := lf_lfM h hl' hl
          exact ⟨rfl, rfl, Rel_plc (τ := th (th τ 0) 0) h hl' hk⟩
        · exact (full_lf h hf hl).elim
      · rcases hX with ⟨e, -⟩ | ⟨-, -, hf, -⟩
        · exact absurd e (by decide)
        · exact (full_lf h hf hl).elim
    · have hh : ∀ v2 s1, colX σ v2 s1 → Rel s1 σ1 := fun v2 s1 hc => (Rel_collect (τ := th τ 0) h hc hg).2
      refine ⟨fun z s hz => ?_, fun s hX => (x1 s hX).elim, fun s hX => ?_⟩
      · rcases hz.2 with ⟨c', hl', -⟩ | ⟨-, v2, s1, c', hc', hl', rfl, rfl⟩
        · exact (lf_full h hl' hf).elim
        · have h1 := hh v2 s1 hc'
          rcases hm with ⟨c, hl, rfl, rfl⟩ | ⟨hf1, -⟩
          · obtain rfl := lf_lfM h1 hl' hl
            exact ⟨rfl, rfl, Rel_plc (τ := th σ1 0) h1 hl' hk⟩
          · exact (lf_full h1 hl' hf1).elim
      · rcases hX with ⟨e, -⟩ | ⟨-, -, -, v2, hc', hf'⟩
        · exact absurd e (by decide)
        · have h1 := hh v2 s hc'
          rcases hm with ⟨c, hl, -⟩ | ⟨hf1, rfl⟩
          · exact (full_lf h1 hf' hl).elim
          · exact ⟨rfl, h1⟩
theorem o_run {σ τ : St} (h : Rel σ τ) {w : Nat} (hw24 : w ≤ 24) (ew : σ 0 1 = nI w) {y : Int32} {τ' : St} (hm : (fun v u => (w = 0 ∧ u = th τ 1) ∨ ∃ w0 c a, w = w0 + 1 ∧ c < 24 ∧ τ 11 0 = nI c ∧ a < 4 ∧ τ 8 c = nI a ∧ v = nI c ∧ u = act (va_up (deq (th τ 0) w0) 7 (upd (τ 7) c (nI 3))) c a) y τ') : (∀ z s, (fun v u => ∃ w0 c a, w = w0 + 1 ∧ c < 24 ∧ σ 11 0 = nI c ∧ a < 4 ∧ σ 8 c = nI a ∧ v = nI c ∧ u = act (va_up (deq σ w0) 7 (upd (σ 7) c (nI 3))) c a) z s → τ' 0 0 = nI 0 ∧ z = y ∧ Rel s τ') ∧ (∀ s, (fun E u => u = σ ∧ E = "java/util/NoSuchElementException" ∧ w = 0) "java/util/NoSuchElementException" s → τ' 0 0 = nI 1 ∧ Rel s τ') := by
  rcases hm with ⟨e0, rfl⟩ | ⟨w0, c, a, e0, hc, ec, ha, ea, rfl, rfl⟩
  · refine ⟨fun z s ⟨w0, c, a, e, _⟩ => by omega, fun s hX => ?_⟩
    rw [hX.1]; exact ⟨rfl, h⟩
  · refine ⟨fun z s ⟨w1, c', a', e, hc', ec', ha', ea', ez, es⟩ => ?_, fun s hX => by have := hX.2.2; omega⟩
    obtain rfl : w1 = w0 := by omega
    subst e0
    obtain ⟨w2, hw2, ew2, hi⟩ := R_Q h
    have e2 : w2 = w1 + 1 := (nI_eq (by omega) (by omega)).mp (ew2.symm.trans ew)
    subst e2
    obtain ⟨q1, q2⟩ := hi 0 (by omega)
    obtain rfl : c' = c := nI_i hc' hc (ec'.symm.trans (q1.trans ec))
    have hb := q2 c' hc ec'
    obtain ⟨d, hd, e3, e4⟩ : ∃ d, d < 24 ∧ σ 11 0 = nI d ∧ σ 7 d = nI 2 := by
      obtain ⟨w3, hw3, ew3, h1, -⟩ := R_q1 h
      have : w3 = w1 + 1 := (nI_eq (by omega) (by omega)).mp (ew3.symm.trans ew)
      exact h1 0 (by omega)
    obtain rfl : d = c' := nI_i hd hc (e3.symm.trans ec')
    have e8 : σ 8 d = τ 8 d := ((R_C h hc hb).1.2.2.2.2.2 (by rw [e4]; decide)).1
    obtain rfl : a' = a := (nI_eq (by omega) (by omega)).mp (ea'.symm.trans (e8.trans ea))
    have h1 := Rel_deq h (by omega) ew hc ec'
    have h7 : ¬ (va_up (deq σ w1) 7 (upd (σ 7) d (nI 3))) 7 d = 0 := fun z => by
      have z : upd (σ 7) d (nI 3) d = 0 := z
      rw [pk_us] at z; exact absurd z (by decide)
    have h2 : Rel (act (va_up (deq σ w1) 7 (upd (σ 7) d (nI 3))) d a') (act (va_up (deq (th τ 0) w1) 7 (upd (τ 7) d (nI 3))) d a') := Rel_act h1 hc hb h7
    refine ⟨?_, ez, by rw [es]; exact h2⟩
    show (act (va_up (deq (th τ 0) w1) 7 (upd (τ 7) d (nI 3))) d a') 0 0 = nI 0
    match a' with
    | 0 => rfl
    | 1 => rfl
    | 2 =>
      show (if _ then _ else _ : St) 0 0 = nI 0
      split <;> rfl
    | 3 => rfl
    | n + 4 => rfl
theorem o_collect {σ τ : St} (h : Rel σ τ) {z y : Int32} {s τ' : St} (hx : colX σ z s) (hm : gatM (th τ 0) y τ') : z = y ∧ Rel s τ' := Rel_collect (τ := th τ 0) h hx hm
theorem o_used {σ τ : St} (h : Rel σ τ) {y : Int32} (hm : lo24 y ∧ ∀ c, c < 24 → (bt y c = true ↔ ¬ τ 1 c < 0)) : σ 0 0 = y := lo24_ext (R_A h).1 hm.1 (fun c hc => boolEq (((R_A h).2 c hc).trans (hm.2 c hc).symm))
theorem Rel_0 : Rel sX0 sM0 := by
  have m1 : ∀ c, c < 24 → sM0 1 c = -1 := fun c hc => fllM_lt _ hc
  have na : ∀ c, ¬ al sX0 c := fun c q => by
    have : bt (0 : Int32) c = true := q
    rw [b_0] at this; cases this
  have r10 : ∀ r, r < 6 → sX0 10 r = -1 := fun r hr => fllM_lt _ hr
  have wz : ∀ ρ : St, (∀ k, k ≠ 1 → k ≠ 10 → ρ k = z0 k) → (∀ r, r < 6 → ρ 10 r = -1) → wf ρ := fun ρ hz hr =>
    ⟨fun c _ => ⟨0, by decide, by rw [hz 6 (by decide) (by decide)]; rfl⟩, fun j _ => Or.inr ⟨0, by decide, by rw [hz 3 (by decide) (by decide)]; rfl⟩, fun j _ => ⟨0, by decide, by rw [hz 4 (by decide) (by decide)]; rfl⟩, fun j _ => ⟨0, by decide, by rw [hz 5 (by decide) (by decide)]; rfl⟩, fun c _ => ⟨0, by decide, by rw [hz 9 (by decide) (by decide)]; rfl⟩, fun r hr' => Or.inl (hr r hr'), fun i _ => ⟨0, by decide, by rw [hz 11 (by decide) (by decide)]; rfl⟩, 0, by decide, by rw [hz 0 (by decide) (by decide)]; rfl⟩
  refine ⟨⟨lo24_0, fun c hc => ⟨fun q => absurd q (na c), fun q => ?_⟩⟩, ⟨rfl, rfl, rfl⟩, fun c _ q => absurd q (na c), fun r hr => ⟨(r10 r hr).trans (fllM_lt _ hr).symm, fun d hd q => ?_⟩, ⟨0, by decide, rfl, fun i hi => absurd hi (Nat.not_lt_zero _)⟩, ⟨wz sX0 (fun k h1 h10 => va_up_ne _ _ h10) r10, wz sM0 (fun k h1 h10 => (va_up_ne _ _ h10).trans (va_up_ne _ _ h1)) (fun r hr => fllM_lt _ hr)⟩, ⟨0, by decide, rfl, fun i hi => absurd hi (Nat.not_lt_zero _), fun i j hi => absurd hi (Nat.not_lt_zero _)⟩, fun c _ => ⟨0, by decide, rfl⟩, fun c _ => ⟨0, by decide, rfl⟩⟩
  · rw [m1 c hc] at q; exact absurd (by decide) q
  · rw [r10 r hr] at q; exact absurd q.symm (nI_m1 (by omega))
end
