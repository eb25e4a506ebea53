section
/-! bits (the family bt out of kit/laws/BITS.to-paste), sets of cells as bits, the heap's graph -/
def bt (x : Int32) (i : Nat) : Bool := x.toBitVec.getLsbD i
theorem b_ext {x y : Int32} (h : ∀ i, i < 32 → bt x i = bt y i) : x = y := Int32.toBitVec_inj.mp (BitVec.eq_of_getLsbD_eq (fun i hi => h i hi))
theorem b_or (x y : Int32) (i : Nat) : bt (x ||| y) i = (bt x i || bt y i) := by unfold bt; rw [Int32.toBitVec_or, BitVec.getLsbD_or]
theorem b_and (x y : Int32) (i : Nat) : bt (x &&& y) i = (bt x i && bt y i) := by unfold bt; rw [Int32.toBitVec_and, BitVec.getLsbD_and]
theorem b_xor (x y : Int32) (i : Nat) : bt (x ^^^ y) i = (bt x i ^^ bt y i) := by unfold bt; rw [Int32.toBitVec_xor, BitVec.getLsbD_xor]
theorem b_big {x : Int32} {i : Nat} (h : 32 ≤ i) : bt x i = false := BitVec.getLsbD_of_ge _ _ h
theorem b_m1 : ∀ i, i < 32 → bt (-1) i = true := by decide +kernel
theorem b_0 (i : Nat) : bt 0 i = false := BitVec.getLsbD_zero
theorem s_l : ∀ n, n < 32 → ((nI n &&& 31).toBitVec.smod 32).toNat = n := by decide +kernel
theorem b_shl (n : Nat) (hn : n < 32) (x : Int32) {i : Nat} (hi : i < 32) : bt (x <<< (nI n &&& 31)) i = (decide (n ≤ i) && bt x (i - n)) := by
  unfold bt
  rw [Int32.toBitVec_shiftLeft]
  show (x.toBitVec <<< ((nI n &&& 31).toBitVec.smod 32).toNat).getLsbD i = _
  rw [s_l n hn, BitVec.getLsbD_shiftLeft]
  rcases Nat.lt_or_ge i n with h | h
  · simp [h, Nat.not_le.mpr h]
  · simp [hi, h, Nat.not_lt.mpr h]
theorem zb_1 : ∀ i, i < 32 → bt 1 i = decide (i = 0) := by decide +kernel
theorem zb_one {c i : Nat} (hc : c < 32) (hi : i < 32) : bt ((1 : Int32) <<< (nI c &&& 31)) i = decide (i = c) := by
  rw [b_shl c hc 1 hi]
  by_cases h : c ≤ i
  · rw [zb_1 (i - c) (by omega)]
    by_cases h2 : i = c
    · subst h2; simp
    · have h3 : ¬ (i - c = 0) := by omega
      simp [h2, h3]
  · have h2 : ¬ i = c := by omega
    simp [h, h2]
theorem zb_has (x : Int32) {c : Nat} (hc : c < 32) : (x &&& ((1 : Int32) <<< (nI c &&& 31))) = 0 ↔ bt x c = false := by
  constructor
  · intro h
    have h1 := b_and x ((1 : Int32) <<< (nI c &&& 31)) c
    rw [h, b_0, zb_one hc hc] at h1
    simpa using h1.symm
  · intro h
    refine b_ext (fun i hi => ?_)
    rw [b_and, zb_one hc hi, b_0]
    by_cases h2 : i = c
    · subst h2; rw [h]; rfl
    · simp [h2]
theorem zb_or (x : Int32) {c i : Nat} (hc : c < 32) (hi : i < 32) : bt (x ||| ((1 : Int32) <<< (nI c &&& 31))) i = (bt x i || decide (i = c)) := by
  rw [b_or, zb_one hc hi]
theorem zb_not (x : Int32) {i : Nat} (hi : i < 32) : bt (x ^^^ (-1)) i = !bt x i := by
  rw [b_xor, b_m1 i hi]; cases bt x i <;> rfl
/-- an object's state: 0 its numbers, 1 kinds, 2 serials, 3 fields, 4 keys, 5 values, 6 counts, 7 states, 8 actions, 9 targets, 10 roots, 11 queue, 12 in -/
abbrev St : Type := Nat → Nat → Int32
/-- a set of cells: no bit beyond the 24th -/
def lo24 (x : Int32) : Prop := ∀ i, 24 ≤ i → bt x i = false
theorem lo24_0 : lo24 0 := fun i _ => b_0 i
theorem lo24_or {x y : Int32} (hx : lo24 x) (hy : lo24 y) : lo24 (x ||| y) := fun i hi => by rw [b_or, hx i hi, hy i hi]; rfl
theorem lo24_one {c : Nat} (hc : c < 24) : lo24 ((1 : Int32) <<< (nI c &&& 31)) := fun i hi => by
  rcases Nat.lt_or_ge i 32 with h | h
  · rw [zb_one (by omega) h, decide_eq_false (by omega)]
  · exact b_big h
theorem lo24_and {x y : Int32} (hx : lo24 x) : lo24 (x &&& y) := fun i hi => by rw [b_and, hx i hi]; rfl
theorem lo24_ext {x y : Int32} (hx : lo24 x) (hy : lo24 y) (h : ∀ c, c < 24 → bt x c = bt y c) : x = y := b_ext (fun i _ => by
  rcases Nat.lt_or_ge i 24 with h1 | h1
  · exact h i h1
  · rw [hx i h1, hy i h1])
theorem zb_orc (x : Int32) {c i : Nat} (hc : c < 24) (hi : i < 24) : (bt (x ||| ((1 : Int32) <<< (nI c &&& 31))) i = true) ↔ (bt x i = true ∨ i = c) := by
  rw [zb_or x (by omega) (by omega)]; simp
/-- -1, or the number of a cell -/
def nc (x : Int32) : Prop := x = -1 ∨ ∃ d, d < 24 ∧ x = nI d
def cl24 (x : Int32) : Prop := ∃ d, d < 24 ∧ x = nI d
theorem nI_m1 {d : Nat} (h : d < 2 ^ 31) : nI d ≠ -1 := fun e => by
  have h1 := nI_toInt h
  rw [e] at h1
  have h2 : (-1 : Int32).toInt = -1 := by decide
  rw [h2] at h1
  omega
theorem cl24_nc {x : Int32} (h : cl24 x) : nc x := Or.inr h
theorem nc_cl {x : Int32} (h : nc x) (hx : x ≠ -1) : cl24 x := by
  rcases h with h | h
  · exact absurd h hx
  · exact h
def cnt (σ : St) (c : Nat) : Nat := (σ 6 c).toNatClampNeg
def ent (σ : St) (c : Nat) : List (Int32 × Int32) := (List.range (cnt σ c)).map (fun i => (σ 4 (c * 4 + i), σ 5 (c * 4 + i)))
/-- all numbers lie in their ranges -/
def wf (σ : St) : Prop := (∀ c, c < 24 → ∃ n, n ≤ 4 ∧ σ 6 c = nI n) ∧ (∀ j, j < 72 → nc (σ 3 j)) ∧ (∀ j, j < 96 → cl24 (σ 4 j)) ∧ (∀ j, j < 96 → cl24 (σ 5 j)) ∧ (∀ c, c < 24 → ∃ t, t < 6 ∧ σ 9 c = nI t) ∧ (∀ r, r < 6 → nc (σ 10 r)) ∧ (∀ i, i < 24 → cl24 (σ 11 i)) ∧ ∃ w, w ≤ 24 ∧ σ 0 1 = nI w
theorem wf_cnt {σ : St} (h : wf σ) {c : Nat} (hc : c < 24) : cnt σ c ≤ 4 ∧ σ 6 c = nI (cnt σ c) := by
  obtain ⟨n, hn, e⟩ := h.1 c hc
  unfold cnt
  rw [e, nI_clamp (by omega)]
  exact ⟨hn, rfl⟩
theorem ent_len (σ : St) (c : Nat) : (ent σ c).length = cnt σ c := by simp [ent]
theorem ent_get {σ : St} {c i : Nat} (h : i < cnt σ c) : (ent σ c)[i]? = some (σ 4 (c * 4 + i), σ 5 (c * 4 + i)) := by
  simp [ent, h]
theorem ent_mem {σ : St} {c : Nat} {q : Int32 × Int32} : q ∈ ent σ c ↔ ∃ i, i < cnt σ c ∧ q = (σ 4 (c * 4 + i), σ 5 (c * 4 + i)) := by
  simp only [ent, List.mem_map, List.mem_range]
  constructor
  · rintro ⟨i, hi, e⟩; exact ⟨i, hi, e.symm⟩
  · rintro ⟨i, hi, e⟩; exact ⟨i, hi, e.symm⟩
/-- d is held by c, where the things of S live -/
def hld (σ : St) (S : Nat → Prop) (c d : Nat) : Prop := (σ 1 c = 0 ∧ ∃ f, f < 3 ∧ σ 3 (c * 3 + f) = nI d) ∨ (σ 1 c = 2 ∧ ∃ i, i < cnt σ c ∧ (∃ k, k < 24 ∧ σ 4 (c * 4 + i) = nI k ∧ S k) ∧ σ 5 (c * 4 + i) = nI d)
def clo (σ : St) (S : Nat → Prop) : Prop := ∀ c d, c < 24 → d < 24 → S c → hld σ S c d → S d
/-- the least closed set over S0 -/
def rch (σ : St) (S0 : Nat → Prop) (c : Nat) : Prop := ∀ T : Nat → Prop, (∀ d, d < 24 → S0 d → T d) → clo σ T → T c
theorem hld_mono {σ : St} {S S' : Nat → Prop} {c d : Nat} (h : ∀ k, k < 24 → S k → S' k) (hh : hld σ S c d) : hld σ S' c d := by
  rcases hh with hh | ⟨h1, i, hi, ⟨k, hk, e, hs⟩, h2⟩
  · exact Or.inl hh
  · exact Or.inr ⟨h1, i, hi, ⟨k, hk, e, h k hk hs⟩, h2⟩
theorem rch_base {σ : St} {S0 : Nat → Prop} {c : Nat} (hc : c < 24) (h : S0 c) : rch σ S0 c := fun _ h1 _ => h1 c hc h
theorem rch_clo (σ : St) (S0 : Nat → Prop) : clo σ (rch σ S0) := fun c d hc hd h1 h2 T hT hcl =>
  hcl c d hc hd (h1 T hT hcl) (hld_mono (fun k _ hk => hk T hT hcl) h2)
theorem rch_iff {σ : St} {S0 S : Nat → Prop} (h0 : ∀ d, d < 24 → S0 d → S d) (hc : clo σ S) (hl : ∀ d, d < 24 → S d → rch σ S0 d) : ∀ d, d < 24 → (S d ↔ rch σ S0 d) :=
  fun d hd => ⟨hl d hd, fun h => h S h0 hc⟩
/-- how many of the first n cells are in S -/
def num (S : Nat → Bool) : Nat → Nat
  | 0 => 0
  | n + 1 => num S n + (if S n then 1 else 0)
theorem num_le (S : Nat → Bool) (n : Nat) : num S n ≤ n := by
  induction n with
  | zero => exact Nat.le_refl _
  | succ n ih => unfold num; split <;> omega
theorem num_mono {S S' : Nat → Bool} {n : Nat} (h : ∀ c, c < n → S c = true → S' c = true) : num S n ≤ num S' n := by
  induction n with
  | zero => exact Nat.le_refl _
  | succ n ih =>
    have h1 := ih (fun c hc => h c (by omega))
    have h2 := h n (by omega)
    unfold num
    cases hs : S n
    · simp; split <;> omega
    · rw [h2 hs]; simp; omega
theorem num_lt {S S' : Nat → Bool} {n c : Nat} (h : ∀ c, c < n → S c = true → S' c = true) (hc : c < n) (h1 : S c = false) (h2 : S' c = true) : num S n < num S' n := by
  induction n with
  | zero => omega
  | succ n ih =>
    have hm := num_mono (n := n) (fun c hc => h c (by omega))
    unfold num
    by_cases e : c = n
    · subst e; rw [h1, h2]; simp; omega
    · have h3 := ih (fun c hc => h c (by omega)) (by omega)
      have h4 := h n (by omega)
      cases hs : S n
      · simp; split <;> omega
      · rw [h4 hs]; simp; omega
theorem num_full {S : Nat → Bool} {n : Nat} (h : n ≤ num S n) : ∀ c, c < n → S c = true := by
  induction n with
  | zero => intro c hc; omega
  | succ n ih =>
    have hm := num_le S n
    unfold num at h
    intro c hc
    cases hs : S n
    · rw [hs] at h; simp at h; omega
    · by_cases e : c = n
      · subst e; exact hs
      · exact ih (by rw [hs] at h; simp at h; omega) c (by omega)
end
section
/-! names, worlds, words of the two classes; the constants that the messages are -/
def R_X : String := "EphemeronHeap"
def F_X : u_T := fun k => match k with
  | 0 => ("EphemeronHeap", "occupied", "I", false)
  | 1 => ("EphemeronHeap", "kinds", "[I", true)
  | 2 => ("EphemeronHeap", "serials", "[I", true)
  | 3 => ("EphemeronHeap", "fields", "[I", true)
  | 4 => ("EphemeronHeap", "keys", "[I", true)
  | 5 => ("EphemeronHeap", "values", "[I", true)
  | 6 => ("EphemeronHeap", "entryCounts", "[I", true)
  | 7 => ("EphemeronHeap", "states", "[I", true)
  | 8 => ("EphemeronHeap", "actions", "[I", true)
  | 9 => ("EphemeronHeap", "targets", "[I", true)
  | 10 => ("EphemeronHeap", "roots", "[I", true)
  | 11 => ("EphemeronHeap", "queue", "[I", true)
  | 12 => ("EphemeronHeap", "queueLength", "I", false)
  | 13 => ("EphemeronHeap", "thingsMade", "I", false)
  | _ => ("EphemeronHeap", "timesCollected", "I", false)
def t_X : Nat → FieldType := fun k => match k with
  | 0 => .int
  | 1 => .array .int
  | 2 => .array .int
  | 3 => .array .int
  | 4 => .array .int
  | 5 => .array .int
  | 6 => .array .int
  | 7 => .array .int
  | 8 => .array .int
  | 9 => .array .int
  | 10 => .array .int
  | 11 => .array .int
  | 12 => .int
  | 13 => .int
  | _ => .int
theorem n_X : ∀ a, a < 15 → ∀ b, b < 15 → a ≠ b → (F_X a).2.1 ≠ (F_X b).2.1 := by decide +kernel
theorem t_X_ok : ∀ k, k < 15 → parseFieldDescriptor (F_X k).2.2.1 = some (t_X k) := by decide +kernel
def R_M : String := "EphemeronHeapModel"
def F_M : u_T := fun k => match k with
  | 0 => ("EphemeronHeapModel", "thrown", "I", false)
  | 1 => ("EphemeronHeapModel", "made", "I", false)
  | 2 => ("EphemeronHeapModel", "collections", "I", false)
  | 3 => ("EphemeronHeapModel", "kinds", "[I", true)
  | 4 => ("EphemeronHeapModel", "serials", "[I", true)
  | 5 => ("EphemeronHeapModel", "fields", "[I", true)
  | 6 => ("EphemeronHeapModel", "entries", "[I", true)
  | 7 => ("EphemeronHeapModel", "keys", "[I", true)
  | 8 => ("EphemeronHeapModel", "values", "[I", true)
  | 9 => ("EphemeronHeapModel", "states", "[I", true)
  | 10 => ("EphemeronHeapModel", "actions", "[I", true)
  | 11 => ("EphemeronHeapModel", "places", "[I", true)
  | 12 => ("EphemeronHeapModel", "roots", "[I", true)
  | 13 => ("EphemeronHeapModel", "queue", "[I", true)
  | 14 => ("EphemeronHeapModel", "waiting", "I", false)
  | _ => ("EphemeronHeapModel", "in", "[Z", true)
def t_M : Nat → FieldType := fun k => match k with
  | 0 => .int
  | 1 => .int
  | 2 => .int
  | 3 => .array .int
  | 4 => .array .int
  | 5 => .array .int
  | 6 => .array .int
  | 7 => .array .int
  | 8 => .array .int
  | 9 => .array .int
  | 10 => .array .int
  | 11 => .array .int
  | 12 => .array .int
  | 13 => .array .int
  | 14 => .int
  | _ => .array .boolean
theorem n_M : ∀ a, a < 16 → ∀ b, b < 16 → a ≠ b → (F_M a).2.1 ≠ (F_M b).2.1 := by decide +kernel
theorem t_M_ok : ∀ k, k < 16 → parseFieldDescriptor (F_M k).2.2.1 = some (t_M k) := by decide +kernel
def zCl : List vw_C := [(R_X, F_X, 15), (R_M, F_M, 16)]
def zTy (cI cB cL : ClassId) : List (ClassId × FieldType) := [(cI, .int), (cB, .boolean), (cL, .long)]
def wx (h : Nat → Nat) (cI : ClassId) (σ : St) : va_W := [(h 0, .inr (0, [.int (σ 0 0), .ref (h 1), .ref (h 2), .ref (h 3), .ref (h 4), .ref (h 5), .ref (h 6), .ref (h 7), .ref (h 8), .ref (h 9), .ref (h 10), .ref (h 11), .int (σ 0 1), .int (σ 0 2), .int (σ 0 3)])), (h 1, .inl (cI, 24, .inl (σ 1))), (h 2, .inl (cI, 24, .inl (σ 2))), (h 3, .inl (cI, 72, .inl (σ 3))), (h 4, .inl (cI, 96, .inl (σ 4))), (h 5, .inl (cI, 96, .inl (σ 5))), (h 6, .inl (cI, 24, .inl (σ 6))), (h 7, .inl (cI, 24, .inl (σ 7))), (h 8, .inl (cI, 24, .inl (σ 8))), (h 9, .inl (cI, 24, .inl (σ 9))), (h 10, .inl (cI, 6, .inl (σ 10))), (h 11, .inl (cI, 24, .inl (σ 11)))]
def wm (h : Nat → Nat) (cI cB : ClassId) (σ : St) : va_W := [(h 0, .inr (1, [.int (σ 0 0), .int (σ 0 2), .int (σ 0 3), .ref (h 1), .ref (h 2), .ref (h 3), .ref (h 6), .ref (h 4), .ref (h 5), .ref (h 7), .ref (h 8), .ref (h 9), .ref (h 10), .ref (h 11), .int (σ 0 1), .ref (h 12)])), (h 1, .inl (cI, 24, .inl (σ 1))), (h 2, .inl (cI, 24, .inl (σ 2))), (h 3, .inl (cI, 72, .inl (σ 3))), (h 4, .inl (cI, 96, .inl (σ 4))), (h 5, .inl (cI, 96, .inl (σ 5))), (h 6, .inl (cI, 24, .inl (σ 6))), (h 7, .inl (cI, 24, .inl (σ 7))), (h 8, .inl (cI, 24, .inl (σ 8))), (h 9, .inl (cI, 24, .inl (σ 9))), (h 10, .inl (cI, 6, .inl (σ 10))), (h 11, .inl (cI, 24, .inl (σ 11))), (h 12, .inl (cB, 24, .inl (σ 12)))]
abbrev b_init : ByteArray := prog_1_method_1_code
def y_init : MethodName := ⟨R_X, "<init>", "()V"⟩
abbrev b_make : ByteArray := prog_1_method_2_code
def y_make : MethodName := ⟨R_X, "make", "(I)I"⟩
abbrev b_set : ByteArray := prog_1_method_3_code
def y_set : MethodName := ⟨R_X, "set", "(III)V"⟩
abbrev b_get : ByteArray := prog_1_method_4_code
def y_get : MethodName := ⟨R_X, "get", "(II)I"⟩
abbrev b_put : ByteArray := prog_1_method_5_code
def y_put : MethodName := ⟨R_X, "put", "(III)Z"⟩
abbrev b_find : ByteArray := prog_1_method_6_code
def y_find : MethodName := ⟨R_X, "find", "(II)I"⟩
abbrev b_remove : ByteArray := prog_1_method_7_code
def y_remove : MethodName := ⟨R_X, "remove", "(II)Z"⟩
abbrev b_key : ByteArray := prog_1_method_8_code
def y_key : MethodName := ⟨R_X, "key", "(II)I"⟩
abbrev b_root : ByteArray := prog_1_method_9_code
def y_root : MethodName := ⟨R_X, "root", "(II)V"⟩
abbrev b_rootAt : ByteArray := prog_1_method_10_code
def y_rootAt : MethodName := ⟨R_X, "rootAt", "(I)I"⟩
abbrev b_guard : ByteArray := prog_1_method_11_code
def y_guard : MethodName := ⟨R_X, "guard", "(III)V"⟩
abbrev b_collect : ByteArray := prog_1_method_12_code
def y_collect : MethodName := ⟨R_X, "collect", "()I"⟩
abbrev b_run : ByteArray := prog_1_method_13_code
def y_run : MethodName := ⟨R_X, "run", "()I"⟩
abbrev b_queued : ByteArray := prog_1_method_14_code
def y_queued : MethodName := ⟨R_X, "queued", "()I"⟩
abbrev b_used : ByteArray := prog_1_method_15_code
def y_used : MethodName := ⟨R_X, "used", "()I"⟩
abbrev b_kind : ByteArray := prog_1_method_16_code
def y_kind : MethodName := ⟨R_X, "kind", "(I)I"⟩
abbrev b_serial : ByteArray := prog_1_method_17_code
def y_serial : MethodName := ⟨R_X, "serial", "(I)I"⟩
abbrev b_collections : ByteArray := prog_1_method_18_code
def y_collections : MethodName := ⟨R_X, "collections", "()I"⟩
abbrev b_contains : ByteArray := prog_1_method_19_code
def y_contains : MethodName := ⟨R_X, "contains", "(II)Z"⟩
abbrev b_hasThing : ByteArray := prog_1_method_20_code
def y_hasThing : MethodName := ⟨R_X, "hasThing", "(I)Z"⟩
abbrev b_requireThing : ByteArray := prog_1_method_21_code
def y_requireThing : MethodName := ⟨R_X, "requireThing", "(I)V"⟩
abbrev b_requireThingOrNone : ByteArray := prog_1_method_22_code
def y_requireThingOrNone : MethodName := ⟨R_X, "requireThingOrNone", "(I)V"⟩
abbrev b_requireField : ByteArray := prog_1_method_23_code
def y_requireField : MethodName := ⟨R_X, "requireField", "(II)V"⟩
abbrev b_requireTable : ByteArray := prog_1_method_24_code
def y_requireTable : MethodName := ⟨R_X, "requireTable", "(I)V"⟩
abbrev b_requireRoot : ByteArray := prog_1_method_25_code
def y_requireRoot : MethodName := ⟨R_X, "requireRoot", "(I)V"⟩
abbrev b_fieldCount : ByteArray := prog_1_method_26_code
def y_fieldCount : MethodName := ⟨R_X, "fieldCount", "(I)I"⟩
abbrev b_fieldSlot : ByteArray := prog_1_method_27_code
def y_fieldSlot : MethodName := ⟨R_X, "fieldSlot", "(II)I"⟩
abbrev b_entrySlot : ByteArray := prog_1_method_28_code
def y_entrySlot : MethodName := ⟨R_X, "entrySlot", "(II)I"⟩
abbrev b_leastFreeCell : ByteArray := prog_1_method_29_code
def y_leastFreeCell : MethodName := ⟨R_X, "leastFreeCell", "()I"⟩
abbrev b_placeThing : ByteArray := prog_1_method_30_code
def y_placeThing : MethodName := ⟨R_X, "placeThing", "(II)V"⟩
abbrev b_emptyThing : ByteArray := prog_1_method_31_code
def y_emptyThing : MethodName := ⟨R_X, "emptyThing", "(I)V"⟩
abbrev b_entryOf : ByteArray := prog_1_method_32_code
def y_entryOf : MethodName := ⟨R_X, "entryOf", "(II)I"⟩
abbrev b_appendEntry : ByteArray := prog_1_method_33_code
def y_appendEntry : MethodName := ⟨R_X, "appendEntry", "(III)V"⟩
abbrev b_dropEntry : ByteArray := prog_1_method_34_code
def y_dropEntry : MethodName := ⟨R_X, "dropEntry", "(II)V"⟩
abbrev b_copyEntry : ByteArray := prog_1_method_35_code
def y_copyEntry : MethodName := ⟨R_X, "copyEntry", "(III)V"⟩
abbrev b_thingsInRoots : ByteArray := prog_1_method_36_code
def y_thingsInRoots : MethodName := ⟨R_X, "thingsInRoots", "()I"⟩
abbrev b_thingsInQueue : ByteArray := prog_1_method_37_code
def y_thingsInQueue : MethodName := ⟨R_X, "thingsInQueue", "()I"⟩
abbrev b_closureOf : ByteArray := prog_1_method_38_code
def y_closureOf : MethodName := ⟨R_X, "closureOf", "(I)I"⟩
abbrev b_withThingsHeld : ByteArray := prog_1_method_39_code
def y_withThingsHeld : MethodName := ⟨R_X, "withThingsHeld", "(I)I"⟩
abbrev b_thingsHeldBy : ByteArray := prog_1_method_40_code
def y_thingsHeldBy : MethodName := ⟨R_X, "thingsHeldBy", "(II)I"⟩
abbrev b_thingsInFields : ByteArray := prog_1_method_41_code
def y_thingsInFields : MethodName := ⟨R_X, "thingsInFields", "(I)I"⟩
abbrev b_valuesOfKeysIn : ByteArray := prog_1_method_42_code
def y_valuesOfKeysIn : MethodName := ⟨R_X, "valuesOfKeysIn", "(II)I"⟩
abbrev b_forgetOutside : ByteArray := prog_1_method_43_code
def y_forgetOutside : MethodName := ⟨R_X, "forgetOutside", "(I)V"⟩
abbrev b_forgetReferentOutside : ByteArray := prog_1_method_44_code
def y_forgetReferentOutside : MethodName := ⟨R_X, "forgetReferentOutside", "(II)V"⟩
abbrev b_forgetEntriesOutside : ByteArray := prog_1_method_45_code
def y_forgetEntriesOutside : MethodName := ⟨R_X, "forgetEntriesOutside", "(II)V"⟩
abbrev b_queueWaiting : ByteArray := prog_1_method_46_code
def y_queueWaiting : MethodName := ⟨R_X, "queueWaiting", "(I)V"⟩
abbrev b_takeFirstQueued : ByteArray := prog_1_method_47_code
def y_takeFirstQueued : MethodName := ⟨R_X, "takeFirstQueued", "()I"⟩
abbrev b_performAction : ByteArray := prog_1_method_48_code
def y_performAction : MethodName := ⟨R_X, "performAction", "(I)V"⟩
abbrev b_m_init : ByteArray := prog_3_method_1_code
def y_m_init : MethodName := ⟨R_M, "<init>", "()V"⟩
abbrev b_m_thrown : ByteArray := prog_3_method_2_code
def y_m_thrown : MethodName := ⟨R_M, "thrown", "()I"⟩
abbrev b_m_isThing : ByteArray := prog_3_method_3_code
def y_m_isThing : MethodName := ⟨R_M, "isThing", "(I)Z"⟩
abbrev b_m_isRoot : ByteArray := prog_3_method_4_code
def y_m_isRoot : MethodName := ⟨R_M, "isRoot", "(I)Z"⟩
abbrev b_m_isField : ByteArray := prog_3_method_5_code
def y_m_isField : MethodName := ⟨R_M, "isField", "(II)Z"⟩
abbrev b_m_freeCell : ByteArray := prog_3_method_6_code
def y_m_freeCell : MethodName := ⟨R_M, "freeCell", "()I"⟩
abbrev b_m_make : ByteArray := prog_3_method_7_code
def y_m_make : MethodName := ⟨R_M, "make", "(I)I"⟩
abbrev b_m_lose : ByteArray := prog_3_method_8_code
def y_m_lose : MethodName := ⟨R_M, "lose", "(I)V"⟩
abbrev b_m_set : ByteArray := prog_3_method_9_code
def y_m_set : MethodName := ⟨R_M, "set", "(III)V"⟩
abbrev b_m_get : ByteArray := prog_3_method_10_code
def y_m_get : MethodName := ⟨R_M, "get", "(II)I"⟩
abbrev b_m_entryOf : ByteArray := prog_3_method_11_code
def y_m_entryOf : MethodName := ⟨R_M, "entryOf", "(II)I"⟩
abbrev b_m_dropEntry : ByteArray := prog_3_method_12_code
def y_m_dropEntry : MethodName := ⟨R_M, "dropEntry", "(II)V"⟩
abbrev b_m_put : ByteArray := prog_3_method_13_code
def y_m_put : MethodName := ⟨R_M, "put", "(III)Z"⟩
abbrev b_m_isTable : ByteArray := prog_3_method_14_code
def y_m_isTable : MethodName := ⟨R_M, "isTable", "(II)Z"⟩
abbrev b_m_find : ByteArray := prog_3_method_15_code
def y_m_find : MethodName := ⟨R_M, "find", "(II)I"⟩
abbrev b_m_remove : ByteArray := prog_3_method_16_code
def y_m_remove : MethodName := ⟨R_M, "remove", "(II)Z"⟩
abbrev b_m_key : ByteArray := prog_3_method_17_code
def y_m_key : MethodName := ⟨R_M, "key", "(II)I"⟩
abbrev b_m_root : ByteArray := prog_3_method_18_code
def y_m_root : MethodName := ⟨R_M, "root", "(II)V"⟩
abbrev b_m_rootAt : ByteArray := prog_3_method_19_code
def y_m_rootAt : MethodName := ⟨R_M, "rootAt", "(I)I"⟩
abbrev b_m_guard : ByteArray := prog_3_method_20_code
def y_m_guard : MethodName := ⟨R_M, "guard", "(III)V"⟩
abbrev b_m_close : ByteArray := prog_3_method_21_code
def y_m_close : MethodName := ⟨R_M, "close", "()V"⟩
abbrev b_m_add : ByteArray := prog_3_method_22_code
def y_m_add : MethodName := ⟨R_M, "add", "(I)Z"⟩
abbrev b_m_forget : ByteArray := prog_3_method_23_code
def y_m_forget : MethodName := ⟨R_M, "forget", "()V"⟩
abbrev b_m_gather : ByteArray := prog_3_method_24_code
def y_m_gather : MethodName := ⟨R_M, "gather", "()I"⟩
abbrev b_m_collect : ByteArray := prog_3_method_25_code
def y_m_collect : MethodName := ⟨R_M, "collect", "()I"⟩
abbrev b_m_run : ByteArray := prog_3_method_26_code
def y_m_run : MethodName := ⟨R_M, "run", "()I"⟩
abbrev b_m_queued : ByteArray := prog_3_method_27_code
def y_m_queued : MethodName := ⟨R_M, "queued", "()I"⟩
abbrev b_m_used : ByteArray := prog_3_method_28_code
def y_m_used : MethodName := ⟨R_M, "used", "()I"⟩
abbrev b_m_kind : ByteArray := prog_3_method_29_code
def y_m_kind : MethodName := ⟨R_M, "kind", "(I)I"⟩
abbrev b_m_serial : ByteArray := prog_3_method_30_code
def y_m_serial : MethodName := ⟨R_M, "serial", "(I)I"⟩
abbrev b_m_collections : ByteArray := prog_3_method_31_code
def y_m_collections : MethodName := ⟨R_M, "collections", "()I"⟩
abbrev b_bitCount : ByteArray := prog_8_method_49_code
def y_bitCount : MethodName := ⟨"java/lang/Integer", "bitCount", "(I)I"⟩
def zStrs : List (String × Nat × String) := [("EphemeronHeap", 45, "no such kind"), ("EphemeronHeap", 59, "no cell is free"), ("EphemeronHeap", 160, "no thing in this cell"), ("EphemeronHeap", 165, "no such field"), ("EphemeronHeap", 167, "no table"), ("EphemeronHeap", 89, "the table is full"), ("EphemeronHeap", 100, "no such entry"), ("EphemeronHeap", 169, "no such root"), ("EphemeronHeap", 106, "no such action"), ("EphemeronHeap", 108, "the thing has a finaliser"), ("EphemeronHeap", 143, "the queue is empty")]
def zDecl : List MethodName := [⟨"java/lang/RuntimeException", "<init>", "(Ljava/lang/String;)V"⟩, ⟨"java/lang/Exception", "<init>", "(Ljava/lang/String;)V"⟩, ⟨"java/lang/Throwable", "<init>", "(Ljava/lang/String;)V"⟩]
def zCast : List (String × String) := [("java/lang/IllegalArgumentException", "java/lang/IllegalArgumentException"), ("java/lang/IllegalStateException", "java/lang/IllegalStateException"), ("java/util/NoSuchElementException", "java/util/NoSuchElementException"), ("java/lang/IndexOutOfBoundsException", "java/lang/IndexOutOfBoundsException")]
def zNcast : List (String × String) := [("java/lang/IllegalStateException", "java/lang/IllegalArgumentException"), ("java/util/NoSuchElementException", "java/lang/IllegalArgumentException"), ("java/lang/IndexOutOfBoundsException", "java/lang/IllegalArgumentException"), ("java/lang/IllegalArgumentException", "java/lang/IllegalStateException"), ("java/util/NoSuchElementException", "java/lang/IllegalStateException"), ("java/lang/IndexOutOfBoundsException", "java/lang/IllegalStateException"), ("java/lang/IllegalArgumentException", "java/util/NoSuchElementException"), ("java/lang/IllegalStateException", "java/util/NoSuchElementException"), ("java/lang/IndexOutOfBoundsException", "java/util/NoSuchElementException"), ("java/lang/IllegalArgumentException", "java/lang/IndexOutOfBoundsException"), ("java/lang/IllegalStateException", "java/lang/IndexOutOfBoundsException"), ("java/util/NoSuchElementException", "java/lang/IndexOutOfBoundsException")]
end
section
/-! Rows of my own: a frame's judgement with its heap hidden (zAt), contracts with throws (zMet), rows an instruction -/
def zg (lv : List (Nat × Value)) (i : Nat) : Option Value := match lv with
  | [] => none
  | q :: t => bif Nat.beq q.1 i then some q.2 else zg t i
def zu (lv : List (Nat × Value)) (i : Nat) (v : Value) : List (Nat × Value) := match lv with
  | [] => [(i, v)]
  | q :: t => bif Nat.beq q.1 i then zu t i v else q :: zu t i v
theorem zg_mem {lv : List (Nat × Value)} {i : Nat} {v : Value} (h : zg lv i = some v) : (i, v) ∈ lv := by
  induction lv with
  | nil => cases h
  | cons q t ih =>
    unfold zg at h
    cases hb : Nat.beq q.1 i with
    | true =>
      rw [hb] at h
      have h1 : q.1 = i := Nat.eq_of_beq_eq_true hb
      have h2 : q.2 = v := Option.some.inj h
      subst h1; subst h2
      exact List.mem_cons_self
    | false =>
      rw [hb] at h
      exact List.mem_cons_of_mem _ (ih h)
theorem zu_mem {lv : List (Nat × Value)} {i : Nat} {v : Value} {q : Nat × Value} (h : q ∈ zu lv i v) : q = (i, v) ∨ (q ∈ lv ∧ q.1 ≠ i) := by
  induction lv with
  | nil =>
    rcases List.mem_cons.mp h with h | h
    · exact Or.inl h
    · cases h
  | cons a t ih =>
    unfold zu at h
    cases hb : Nat.beq a.1 i with
    | true =>
      rw [hb] at h
      rcases ih h with h | ⟨h1, h2⟩
      · exact Or.inl h
      · exact Or.inr ⟨List.mem_cons_of_mem _ h1, h2⟩
    | false =>
      rw [hb] at h
      have hne : a.1 ≠ i := Nat.ne_of_beq_eq_false hb
      rcases List.mem_cons.mp h with h | h
      · subst h
        exact Or.inr ⟨List.mem_cons_self, hne⟩
      · rcases ih h with h | ⟨h1, h2⟩
        · exact Or.inl h
        · exact Or.inr ⟨List.mem_cons_of_mem _ h1, h2⟩
def zn (lv : List (Nat × Value)) : Bool := match lv with
  | [] => true
  | q :: t => Nat.beq q.2.category 1 && zn t
theorem zn_mem {lv : List (Nat × Value)} (h : zn lv = true) {q : Nat × Value} (hq : q ∈ lv) : q.2.category = 1 := by
  induction lv with
  | nil => cases hq
  | cons a t ih =>
    unfold zn at h
    rw [Bool.and_eq_true] at h
    rcases List.mem_cons.mp hq with hq | hq
    · subst hq
      exact Nat.eq_of_beq_eq_true h.1
    · exact ih h.2 hq
theorem zg_has {ls : Array Slot} {nL : Nat} {lv : List (Nat × Value)} {i : Nat} {v : Value} (h : lv_has ls nL lv) (hg : zg lv i = some v) : ls[i]? = some (.val v) := h.2.2 (i, v) (zg_mem hg)
theorem zu_has {ls : Array Slot} {nL : Nat} {lv : List (Nat × Value)} {i : Nat} {v : Value} (hn : zn lv = true) (h : lv_has ls nL ((i, v) :: lv.filter (fun q => !(q.1 == i) && !(q.1 + 1 == i && q.2.category == 2)))) : lv_has ls nL (zu lv i v) := by
  refine ⟨h.1, h.2.1, fun q hq => h.2.2 q ?_⟩
  rcases zu_mem hq with hq | ⟨h1, h2⟩
  · rw [hq]; exact List.mem_cons_self
  · refine List.mem_cons_of_mem _ (List.mem_filter.mpr ⟨h1, ?_⟩)
    have h3 := zn_mem hn h1
    simp [h2, h3]
/-- the two static fields that a Throwable's making reads -/
def zT1 (n d : String) (U : State) : Prop := (Cond.laysStatic Jvm.Bundle.tN n d).before #[] U = true ∧ (Cond.initialized Jvm.Bundle.tN).before #[] U = true ∧ (Cond.isRef (.static Jvm.Bundle.tN n d)).before #[] U = true
/-- .. and the constants that the messages are -/
def zT (U : State) : Prop := zT1 "UNASSIGNED_STACK" Jvm.Bundle.steD U ∧ zT1 "SUPPRESSED_SENTINEL" Jvm.Bundle.listD U ∧ (∀ q ∈ zStrs, ∃ a : Nat, vk_R q.1 q.2.1 q.2.2 a U) ∧ (∀ x ∈ zDecl, va_Nw (.declares x) U) ∧ (∀ q ∈ zCast, va_Nw (.castable q.1 q.2) U) ∧ ∀ q ∈ zNcast, va_Nc q.1 q.2 U
/-- what stays the same through a body -/
def zC (p : Program) (s : State) (m : MethodId) (args : Array Value) (meth : Method) (c : Code) (cc : ByteArray) (nL : Nat) (own : String) (Ts : List Cond) (D : va_G) (cl : List vw_C) (tys : List (ClassId × FieldType)) (w0 : va_W) : Prop :=
  p.tables.exec = Jvm.exec ∧ c.code = cc ∧ c.maxLocals = nL ∧ s.vm.findClass own = some m.cls ∧ (∀ w ∈ Ts, w.before args s = true) ∧ va_K D cl tys s ∧ va_P D cl w0 s.heap ∧ meth.locks = false ∧ zT s
/-- the machine at pc, its locals and stack as listed, its heap any that holds the world ws -/
def zAt (p : Program) (l : Launch) (e : Env) (R : Room) (s : State) (m : MethodId) (args : Array Value) (below : List Frame) (meth : Method) (c : Code) (D : va_G) (cl : List vw_C) (w0 : va_W) (nL cells slots : Nat) (Q : State → Prop) (ws : va_W) (pc : Nat) (lv : List (Nat × Value)) (st : List Value) : Prop :=
  ∀ (H : Heap) (locs : List Loc) (ls : Array Slot), va_P D cl ws H → va_D (va_A w0 s.heap.size) ws → va_S (va_A w0 s.heap.size) s.heap H locs → lv_has ls nL lv → W p l e R s m args below meth c H locs cells slots Q (F0 m pc ls st)
/-- an exception of the class E is on its way at pc -/
def zX (p : Program) (l : Launch) (e : Env) (R : Room) (s : State) (m : MethodId) (args : Array Value) (below : List Frame) (meth : Method) (c : Code) (D : va_G) (cl : List vw_C) (w0 : va_W) (nL cells slots : Nat) (Q : State → Prop) (ws : va_W) (pc : Nat) (lv : List (Nat × Value)) (E : String) : Prop :=
  ∀ (H : Heap) (locs : List Loc) (ls : Array Slot) (st : List Value) (q : Nat) (ce : Cell), va_P D cl ws H → va_D (va_A w0 s.heap.size) ws → va_S (va_A w0 s.heap.size) s.heap H locs → lv_has ls nL lv → H[q]? = some ce → ce.vm = .none → s.vm.findClass E = some ce.cls →
    ∀ T : State, T.heap = H → Stand p l e R s m args below meth c T locs cells slots → ∃ t, Steps p.tables e below ((T.setTop (F0 m pc ls st)).pushFrame (.throwing q)) t ∧ Q t
/-- how a method ends: with an answer, or with an exception of a class -/
abbrev zRes : Type := Option Value ⊕ String
def zR (s : State) (r : zRes) (o : Outcome) (t : State) : Prop := match r with
  | .inl v => o = .returned v
  | .inr E => ∃ (q : Nat) (ce : Cell), o = .threw q ∧ t.heap[q]? = some ce ∧ ce.vm = .none ∧ s.vm.findClass E = some ce.cls
def zO (D : va_G) (cl : List vw_C) (A : Nat → Prop) (post : zRes → va_W → Prop) (s : State) (o : Outcome) (t : State) : Prop :=
  va_F A s t ∧ ∃ (r : zRes) (w : va_W), post r w ∧ va_P D cl w t.heap ∧ va_D A w ∧ zR s r o t
def zF (A : Nat → Prop) (s : State) (mc ms : Nat) (t : State) : Prop := s.WarmedH t.vm ∧ ∃ L : List Loc, s.sameButNew ({ t with vm := s.vm } : State) L mc ms ∧ ∀ q ∈ L, A q.base
def zEnd (below : List Frame) (D : va_G) (cl : List vw_C) (w0 : va_W) (post : zRes → va_W → Prop) (s : State) (mc ms : Nat) : State → Prop := fun t =>
  ∃ o, t.status = .running ∧ Ended t below o ∧ zO D cl (va_A w0 s.heap.size) post s o t ∧ zF (va_A w0 s.heap.size) s mc ms t
def zPre (D : va_G) (cl : List vw_C) (tys : List (ClassId × FieldType)) (w0 : va_W) (av : List Value) (a : Array Value) (U : State) : Prop := a = av.toArray ∧ va_P D cl w0 U.heap ∧ va_K D cl tys U ∧ va_D (fun _ => True) w0 ∧ zT U
/-- a contract: from the world w0 and the arguments av the method y ends as post says; at most mc new cells of ms slots -/
def zMet (l : Launch) (y : MethodName) (ws : List Cond) (rm : Room) (D : va_G) (cl : List vw_C) (tys : List (ClassId × FieldType)) (w0 : va_W) (av : List Value) (post : zRes → va_W → Prop) (mc ms : Nat) : Prop :=
  Jvm.Free.MetFree l y (headSpec ws rm) (zPre D cl tys w0 av) (fun _ _ _ _ _ => True) (fun _ st o t => zO D cl (va_A w0 st.heap.size) post st o t ∧ zF (va_A w0 st.heap.size) st mc ms t)
section ZR
variable {p : Program} {l : Launch} {e : Env} {R : Room} {s : State} {m : MethodId} {args : Array Value} {below : List Frame} {meth : Method} {c : Code} {cells slots nL : Nat} {Q : State → Prop} {D : va_G} {cl : List vw_C} {tys : List (ClassId × FieldType)} {w0 : va_W} {cc : ByteArray} {own : String} {Ts : List Cond} {ws ws' : va_W} {pc : Nat} {lv lv' : List (Nat × Value)} {st : List Value}
theorem z_new_in {q : Nat} (h : s.heap.size ≤ q) : va_A w0 s.heap.size q := Or.inr h
theorem z_mono {Q' : State → Prop} {H : Heap} {locs : List Loc} {g : JFrame} (k : W p l e R s m args below meth c H locs cells slots Q g) (h : ∀ t, Q t → Q' t) : W p l e R s m args below meth c H locs cells slots Q' g := fun T hT X => by
  obtain ⟨t, a, b⟩ := k T hT X
  exact ⟨t, a, h t b⟩
theorem z_lv (hs : lv'.map (fun q => zg lv q.1) = lv'.map (fun q => some q.2)) (k : zAt p l e R s m args below meth c D cl w0 nL cells slots Q ws pc lv' st) : zAt p l e R s m args below meth c D cl w0 nL cells slots Q ws pc lv st := fun H locs ls hP hD hS hl =>
  k H locs ls hP hD hS ⟨hl.1, hl.2.1, fun q hq => by
    have h1 : ∀ z ∈ lv', zg lv z.1 = some z.2 := fun z hz => by
      have := List.map_inj_left.mp hs z hz
      exact this
    exact zg_has hl (h1 q hq)⟩
theorem z_widen {k n : Nat} (h1 : cells ≤ k) (h2 : slots ≤ n) (kk : zAt p l e R s m args below meth c D cl w0 nL k n Q ws pc lv st) : zAt p l e R s m args below meth c D cl w0 nL cells slots Q ws pc lv st := fun H locs ls hP hD hS hl => W.widen h1 h2 (kk H locs ls hP hD hS hl)
/-- a loop: its head at pc, its states a with a measure that falls -/
theorem z_loop {α : Type} (I : α → Prop) (μ : α → Nat) (wsf : α → va_W) (lvf : α → List (Nat × Value)) (body : ∀ a, I a → (∀ b, I b → μ b < μ a → zAt p l e R s m args below meth c D cl w0 nL cells slots Q (wsf b) pc (lvf b) []) → zAt p l e R s m args below meth c D cl w0 nL cells slots Q (wsf a) pc (lvf a) []) (a : α) (h : I a) : zAt p l e R s m args below meth c D cl w0 nL cells slots Q (wsf a) pc (lvf a) [] := by
  have go : ∀ n a, μ a < n → I a → zAt p l e R s m args below meth c D cl w0 nL cells slots Q (wsf a) pc (lvf a) [] := by
    intro n
    induction n with
    | zero => intro a h0; exact absurd h0 (Nat.not_lt_zero _)
    | succ n ih => intro a h0 h1; exact body a h1 (fun b hb hl => ih b (Nat.lt_of_lt_of_le hl (Nat.le_of_lt_succ h0)) hb)
  exact go (μ a + 1) a (Nat.lt_succ_self _) h
/-- roads that meet at pcJ -/
theorem z_cut {α : Type} (P : α → Prop) (pcJ : Nat) (wsf : α → va_W) (lvf : α → List (Nat × Value)) (stf : α → List Value) (k2 : ∀ a, P a → zAt p l e R s m args below meth c D cl w0 nL cells slots Q (wsf a) pcJ (lvf a) (stf a)) (k1 : (∀ a, P a → zAt p l e R s m args below meth c D cl w0 nL cells slots Q (wsf a) pcJ (lvf a) (stf a)) → zAt p l e R s m args below meth c D cl w0 nL cells slots Q ws pc lv st) : zAt p l e R s m args below meth c D cl w0 nL cells slots Q ws pc lv st := k1 k2
theorem z_ws (h : ws = ws') (k : zAt p l e R s m args below meth c D cl w0 nL cells slots Q ws' pc lv st) : zAt p l e R s m args below meth c D cl w0 nL cells slots Q ws pc lv st := h ▸ k
theorem z_st {st' : List Value} (h : st = st') (k : zAt p l e R s m args below meth c D cl w0 nL cells slots Q ws pc lv st') : zAt p l e R s m args below meth c D cl w0 nL cells slots Q ws pc lv st := h ▸ k
theorem z_eqi {x y : Int32} (h : x = y) (k : zAt p l e R s m args below meth c D cl w0 nL cells slots Q ws pc lv (.int y :: st)) : zAt p l e R s m args below meth c D cl w0 nL cells slots Q ws pc lv (.int x :: st) := h ▸ k
theorem z_eqi2 {v : Value} {x y : Int32} (h : x = y) (k : zAt p l e R s m args below meth c D cl w0 nL cells slots Q ws pc lv (v :: .int y :: st)) : zAt p l e R s m args below meth c D cl w0 nL cells slots Q ws pc lv (v :: .int x :: st) := h ▸ k
theorem z_iload (Z : zC p s m args meth c cc nL own Ts D cl tys w0) (i : Nat) {x : Int32} (d : decode cc pc = .ok (.iload i, 2)) (hg : zg lv i = some (.int x)) (k : zAt p l e R s m args below meth c D cl w0 nL cells slots Q ws (pc + 2) lv (.int x :: st)) : zAt p l e R s m args below meth c D cl w0 nL cells slots Q ws pc lv st := fun H locs ls hP hD hS hl => lv_iload Z.1 Z.2.1 d (zg_has hl hg) (k H locs ls hP hD hS hl)
theorem z_iload_n (Z : zC p s m args meth c cc nL own Ts D cl tys w0) (i : Nat) {f : Fin 4} {x : Int32} (d : decode cc pc = .ok (.iload_n f, 1)) (hi : (f : Nat) = i) (hg : zg lv i = some (.int x)) (k : zAt p l e R s m args below meth c D cl w0 nL cells slots Q ws (pc + 1) lv (.int x :: st)) : zAt p l e R s m args below meth c D cl w0 nL cells slots Q ws pc lv st := fun H locs ls hP hD hS hl => lv_iload_n Z.1 Z.2.1 d hi (zg_has hl hg) (k H locs ls hP hD hS hl)
theorem z_aload (Z : zC p s m args meth c cc nL own Ts D cl tys w0) (i : Nat) {x : Nat} (d : decode cc pc = .ok (.aload i, 2)) (hg : zg lv i = some (.ref x)) (k : zAt p l e R s m args below meth c D cl w0 nL cells slots Q ws (pc + 2) lv (.ref x :: st)) : zAt p l e R s m args below meth c D cl w0 nL cells slots Q ws pc lv st := fun H locs ls hP hD hS hl => lv_aload Z.1 Z.2.1 d (zg_has hl hg) (k H locs ls hP hD hS hl)
theorem z_aload_n (Z : zC p s m args meth c cc nL own Ts D cl tys w0) (i : Nat) {f : Fin 4} {x : Nat} (d : decode cc pc = .ok (.aload_n f, 1)) (hi : (f : Nat) = i) (hg : zg lv i = some (.ref x)) (k : zAt p l e R s m args below meth c D cl w0 nL cells slots Q ws (pc + 1) lv (.ref x :: st)) : zAt p l e R s m args below meth c D cl w0 nL cells slots Q ws pc lv st := fun H locs ls hP hD hS hl => lv_aload_n Z.1 Z.2.1 d hi (zg_has hl hg) (k H locs ls hP hD hS hl)
theorem z_istore (Z : zC p s m args meth c cc nL own Ts D cl tys w0) (i : Nat) {x : Int32} (d : decode cc pc = .ok (.istore i, 2)) (hn : i < nL) (hz : zn lv = true) (k : zAt p l e R s m args below meth c D cl w0 nL cells slots Q ws (pc + 2) (zu lv i (.int x)) st) : zAt p l e R s m args below meth c D cl w0 nL cells slots Q ws pc lv (.int x :: st) := fun H locs ls hP hD hS hl => lv_istore Z.1 Z.2.1 d hl hn rfl (fun ls' hl' => k H locs ls' hP hD hS (zu_has hz hl'))
theorem z_istore_n (Z : zC p s m args meth c cc nL own Ts D cl tys w0) (i : Nat) {f : Fin 4} {x : Int32} (d : decode cc pc = .ok (.istore_n f, 1)) (hi : (f : Nat) = i) (hn : i < nL) (hz : zn lv = true) (k : zAt p l e R s m args below meth c D cl w0 nL cells slots Q ws (pc + 1) (zu lv i (.int x)) st) : zAt p l e R s m args below meth c D cl w0 nL cells slots Q ws pc lv (.int x :: st) := fun H locs ls hP hD hS hl => lv_istore_n Z.1 Z.2.1 d hi hl hn rfl (fun ls' hl' => k H locs ls' hP hD hS (zu_has hz hl'))
theorem z_astore (Z : zC p s m args meth c cc nL own Ts D cl tys w0) (i : Nat) {x : Nat} (d : decode cc pc = .ok (.astore i, 2)) (hn : i < nL) (hz : zn lv = true) (k : zAt p l e R s m args below meth c D cl w0 nL cells slots Q ws (pc + 2) (zu lv i (.ref x)) st) : zAt p l e R s m args below meth c D cl w0 nL cells slots Q ws pc lv (.ref x :: st) := fun H locs ls hP hD hS hl => lv_astore Z.1 Z.2.1 d hl hn rfl (fun ls' hl' => k H locs ls' hP hD hS (zu_has hz hl'))
theorem z_astore_n (Z : zC p s m args meth c cc nL own Ts D cl tys w0) (i : Nat) {f : Fin 4} {x : Nat} (d : decode cc pc = .ok (.astore_n f, 1)) (hi : (f : Nat) = i) (hn : i < nL) (hz : zn lv = true) (k : zAt p l e R s m args below meth c D cl w0 nL cells slots Q ws (pc + 1) (zu lv i (.ref x)) st) : zAt p l e R s m args below meth c D cl w0 nL cells slots Q ws pc lv (.ref x :: st) := fun H locs ls hP hD hS hl => lv_astore_n Z.1 Z.2.1 d hi hl hn rfl (fun ls' hl' => k H locs ls' hP hD hS (zu_has hz hl'))
theorem z_iinc (Z : zC p s m args meth c cc nL own Ts D cl tys w0) (i : Nat) {n : Int} {x : Int32} (v : Int32) (d : decode cc pc = .ok (.iinc i n, 3)) (hg : zg lv i = some (.int x)) (hv : x + Int32.ofInt n = v) (hn : i < nL) (hz : zn lv = true) (k : zAt p l e R s m args below meth c D cl w0 nL cells slots Q ws (pc + 3) (zu lv i (.int v)) st) : zAt p l e R s m args below meth c D cl w0 nL cells slots Q ws pc lv st := fun H locs ls hP hD hS hl => by
  obtain ⟨j, hj⟩ := List.getElem?_of_mem (zg_mem hg)
  exact lv_iinc Z.1 Z.2.1 d hl hj hv hn rfl (fun ls' hl' => k H locs ls' hP hD hS (zu_has hz hl'))
theorem z_iincN (Z : zC p s m args meth c cc nL own Ts D cl tys w0) (i : Nat) {a : Nat} (d : decode cc pc = .ok (.iinc i 1, 3)) (hg : zg lv i = some (.int (nI a))) (hn : i < nL) (hz : zn lv = true) (k : zAt p l e R s m args below meth c D cl w0 nL cells slots Q ws (pc + 3) (zu lv i (.int (nI (a + 1)))) st) : zAt p l e R s m args below meth c D cl w0 nL cells slots Q ws pc lv st := z_iinc Z i (nI (a + 1)) d hg (by rw [show Int32.ofInt 1 = 1 from by decide]; exact nI_1 a) hn hz k
theorem z_iincM (Z : zC p s m args meth c cc nL own Ts D cl tys w0) (i : Nat) {a : Nat} (d : decode cc pc = .ok (.iinc i (-1), 3)) (hg : zg lv i = some (.int (nI (a + 1)))) (hn : i < nL) (hz : zn lv = true) (k : zAt p l e R s m args below meth c D cl w0 nL cells slots Q ws (pc + 3) (zu lv i (.int (nI a))) st) : zAt p l e R s m args below meth c D cl w0 nL cells slots Q ws pc lv st := z_iinc Z i (nI a) d hg (by rw [show Int32.ofInt (-1) = -1 from by decide]; exact pk_m1 a) hn hz k
theorem z_iconst (Z : zC p s m args meth c cc nL own Ts D cl tys w0) {n : Int} (v : Int32) (d : decode cc pc = .ok (.iconst n, 1)) (hv : Int32.ofInt n = v) (k : zAt p l e R s m args below meth c D cl w0 nL cells slots Q ws (pc + 1) lv (.int v :: st)) : zAt p l e R s m args below meth c D cl w0 nL cells slots Q ws pc lv st := fun H locs ls hP hD hS hl => lv_iconst Z.1 Z.2.1 d hv (k H locs ls hP hD hS hl)
theorem z_bipush (Z : zC p s m args meth c cc nL own Ts D cl tys w0) {n : Int} (v : Int32) (d : decode cc pc = .ok (.bipush n, 2)) (hv : (Int8.ofInt n).toInt32 = v) (k : zAt p l e R s m args below meth c D cl w0 nL cells slots Q ws (pc + 2) lv (.int v :: st)) : zAt p l e R s m args below meth c D cl w0 nL cells slots Q ws pc lv st := fun H locs ls hP hD hS hl => lv_bipush Z.1 Z.2.1 d hv (k H locs ls hP hD hS hl)
theorem z_lconst (Z : zC p s m args meth c cc nL own Ts D cl tys w0) {n : Fin 2} (v : Int64) (d : decode cc pc = .ok (.lconst n, 1)) (hv : Int64.ofNat (n : Nat) = v) (k : zAt p l e R s m args below meth c D cl w0 nL cells slots Q ws (pc + 1) lv (.long v :: st)) : zAt p l e R s m args below meth c D cl w0 nL cells slots Q ws pc lv st := fun H locs ls hP hD hS hl => lv_lconst Z.1 Z.2.1 d hv (k H locs ls hP hD hS hl)
theorem z_iadd (Z : zC p s m args meth c cc nL own Ts D cl tys w0) {x y : Int32} (d : decode cc pc = .ok (.iadd, 1)) (k : zAt p l e R s m args below meth c D cl w0 nL cells slots Q ws (pc + 1) lv (.int (x + y) :: st)) : zAt p l e R s m args below meth c D cl w0 nL cells slots Q ws pc lv (.int y :: .int x :: st) := fun H locs ls hP hD hS hl => lv_iadd Z.1 Z.2.1 d (k H locs ls hP hD hS hl)
theorem z_isub (Z : zC p s m args meth c cc nL own Ts D cl tys w0) {x y : Int32} (d : decode cc pc = .ok (.isub, 1)) (k : zAt p l e R s m args below meth c D cl w0 nL cells slots Q ws (pc + 1) lv (.int (x - y) :: st)) : zAt p l e R s m args below meth c D cl w0 nL cells slots Q ws pc lv (.int y :: .int x :: st) := fun H locs ls hP hD hS hl => lv_isub Z.1 Z.2.1 d (k H locs ls hP hD hS hl)
theorem z_imul (Z : zC p s m args meth c cc nL own Ts D cl tys w0) {x y : Int32} (d : decode cc pc = .ok (.imul, 1)) (k : zAt p l e R s m args below meth c D cl w0 nL cells slots Q ws (pc + 1) lv (.int (x * y) :: st)) : zAt p l e R s m args below meth c D cl w0 nL cells slots Q ws pc lv (.int y :: .int x :: st) := fun H locs ls hP hD hS hl => lv_imul Z.1 Z.2.1 d (k H locs ls hP hD hS hl)
theorem z_ishl (Z : zC p s m args meth c cc nL own Ts D cl tys w0) {x y : Int32} (d : decode cc pc = .ok (.ishl, 1)) (k : zAt p l e R s m args below meth c D cl w0 nL cells slots Q ws (pc + 1) lv (.int (x <<< (y &&& 31)) :: st)) : zAt p l e R s m args below meth c D cl w0 nL cells slots Q ws pc lv (.int y :: .int x :: st) := fun H locs ls hP hD hS hl => lv_ishl Z.1 Z.2.1 d (k H locs ls hP hD hS hl)
theorem z_iand (Z : zC p s m args meth c cc nL own Ts D cl tys w0) {x y : Int32} (d : decode cc pc = .ok (.iand, 1)) (k : zAt p l e R s m args below meth c D cl w0 nL cells slots Q ws (pc + 1) lv (.int (x &&& y) :: st)) : zAt p l e R s m args below meth c D cl w0 nL cells slots Q ws pc lv (.int y :: .int x :: st) := fun H locs ls hP hD hS hl => lv_iand Z.1 Z.2.1 d (k H locs ls hP hD hS hl)
theorem z_ior (Z : zC p s m args meth c cc nL own Ts D cl tys w0) {x y : Int32} (d : decode cc pc = .ok (.ior, 1)) (k : zAt p l e R s m args below meth c D cl w0 nL cells slots Q ws (pc + 1) lv (.int (x ||| y) :: st)) : zAt p l e R s m args below meth c D cl w0 nL cells slots Q ws pc lv (.int y :: .int x :: st) := fun H locs ls hP hD hS hl => lv_ior Z.1 Z.2.1 d (k H locs ls hP hD hS hl)
theorem z_ixor (Z : zC p s m args meth c cc nL own Ts D cl tys w0) {x y : Int32} (d : decode cc pc = .ok (.ixor, 1)) (k : zAt p l e R s m args below meth c D cl w0 nL cells slots Q ws (pc + 1) lv (.int (x ^^^ y) :: st)) : zAt p l e R s m args below meth c D cl w0 nL cells slots Q ws pc lv (.int y :: .int x :: st) := fun H locs ls hP hD hS hl => lv_ixor Z.1 Z.2.1 d (k H locs ls hP hD hS hl)
theorem z_iaddN (Z : zC p s m args meth c cc nL own Ts D cl tys w0) {a b : Nat} (d : decode cc pc = .ok (.iadd, 1)) (k : zAt p l e R s m args below meth c D cl w0 nL cells slots Q ws (pc + 1) lv (.int (nI (a + b)) :: st)) : zAt p l e R s m args below meth c D cl w0 nL cells slots Q ws pc lv (.int (nI b) :: .int (nI a) :: st) := z_iadd Z d (by rw [nI_add]; exact k)
theorem z_imulN (Z : zC p s m args meth c cc nL own Ts D cl tys w0) {a b : Nat} (d : decode cc pc = .ok (.imul, 1)) (k : zAt p l e R s m args below meth c D cl w0 nL cells slots Q ws (pc + 1) lv (.int (nI (a * b)) :: st)) : zAt p l e R s m args below meth c D cl w0 nL cells slots Q ws pc lv (.int (nI b) :: .int (nI a) :: st) := z_imul Z d (by rw [pk_mul]; exact k)
theorem z_isubN (Z : zC p s m args meth c cc nL own Ts D cl tys w0) {a b : Nat} (d : decode cc pc = .ok (.isub, 1)) (h : b ≤ a) (k : zAt p l e R s m args below meth c D cl w0 nL cells slots Q ws (pc + 1) lv (.int (nI (a - b)) :: st)) : zAt p l e R s m args below meth c D cl w0 nL cells slots Q ws pc lv (.int (nI b) :: .int (nI a) :: st) := z_isub Z d (by rw [pk_sub h]; exact k)
theorem z_i2l (Z : zC p s m args meth c cc nL own Ts D cl tys w0) {x : Int32} (d : decode cc pc = .ok (.i2l, 1)) (k : zAt p l e R s m args below meth c D cl w0 nL cells slots Q ws (pc + 1) lv (.long x.toInt64 :: st)) : zAt p l e R s m args below meth c D cl w0 nL cells slots Q ws pc lv (.int x :: st) := fun H locs ls hP hD hS hl => lv_i2l Z.1 Z.2.1 d rfl (k H locs ls hP hD hS hl)
theorem z_lcmp (Z : zC p s m args meth c cc nL own Ts D cl tys w0) {x y : Int64} (d : decode cc pc = .ok (.lcmp, 1)) (k : zAt p l e R s m args below meth c D cl w0 nL cells slots Q ws (pc + 1) lv (.int (lg_cmp x y) :: st)) : zAt p l e R s m args below meth c D cl w0 nL cells slots Q ws pc lv (.long y :: .long x :: st) := fun H locs ls hP hD hS hl => W.lcmp Z.1 Z.2.1 d (k H locs ls hP hD hS hl)
theorem z_pop (Z : zC p s m args meth c cc nL own Ts D cl tys w0) {x : Int32} (d : decode cc pc = .ok (.pop, 1)) (k : zAt p l e R s m args below meth c D cl w0 nL cells slots Q ws (pc + 1) lv st) : zAt p l e R s m args below meth c D cl w0 nL cells slots Q ws pc lv (.int x :: st) := fun H locs ls hP hD hS hl => lv_pop Z.1 Z.2.1 d rfl (k H locs ls hP hD hS hl)
theorem z_dup (Z : zC p s m args meth c cc nL own Ts D cl tys w0) {x : Nat} (d : decode cc pc = .ok (.dup, 1)) (k : zAt p l e R s m args below meth c D cl w0 nL cells slots Q ws (pc + 1) lv (.ref x :: .ref x :: st)) : zAt p l e R s m args below meth c D cl w0 nL cells slots Q ws pc lv (.ref x :: st) := fun H locs ls hP hD hS hl => lv_dup Z.1 Z.2.1 d rfl (k H locs ls hP hD hS hl)
theorem z_dup2 (Z : zC p s m args meth c cc nL own Ts D cl tys w0) {x : Int32} {y : Nat} (d : decode cc pc = .ok (.dup2, 1)) (k : zAt p l e R s m args below meth c D cl w0 nL cells slots Q ws (pc + 1) lv (.int x :: .ref y :: .int x :: .ref y :: st)) : zAt p l e R s m args below meth c D cl w0 nL cells slots Q ws pc lv (.int x :: .ref y :: st) := fun H locs ls hP hD hS hl => lv_dup2_11 Z.1 Z.2.1 d rfl rfl (k H locs ls hP hD hS hl)
theorem z_goto (Z : zC p s m args meth c cc nL own Ts D cl tys w0) {off : Int} (tgt : Nat) (d : decode cc pc = .ok (.goto off, 3)) (ht : (pc : Int) + off = (tgt : Int)) (k : zAt p l e R s m args below meth c D cl w0 nL cells slots Q ws tgt lv st) : zAt p l e R s m args below meth c D cl w0 nL cells slots Q ws pc lv st := fun H locs ls hP hD hS hl => lv_goto Z.1 Z.2.1 d ht (k H locs ls hP hD hS hl)
theorem z_icmp_eq (Z : zC p s m args meth c cc nL own Ts D cl tys w0) {x y : Int32} {off : Int} (tgt : Nat) (d : decode cc pc = .ok (.if_icmp .eq off, 3)) (ht : (pc : Int) + off = (tgt : Int)) (kt : x = y → zAt p l e R s m args below meth c D cl w0 nL cells slots Q ws tgt lv st) (kf : ¬ x = y → zAt p l e R s m args below meth c D cl w0 nL cells slots Q ws (pc + 3) lv st) : zAt p l e R s m args below meth c D cl w0 nL cells slots Q ws pc lv (.int y :: .int x :: st) := fun H locs ls hP hD hS hl => lv_icmp_eq Z.1 Z.2.1 d ht (fun h => kt h H locs ls hP hD hS hl) (fun h => kf h H locs ls hP hD hS hl)
theorem z_icmp_ne (Z : zC p s m args meth c cc nL own Ts D cl tys w0) {x y : Int32} {off : Int} (tgt : Nat) (d : decode cc pc = .ok (.if_icmp .ne off, 3)) (ht : (pc : Int) + off = (tgt : Int)) (kt : ¬ x = y → zAt p l e R s m args below meth c D cl w0 nL cells slots Q ws tgt lv st) (kf : x = y → zAt p l e R s m args below meth c D cl w0 nL cells slots Q ws (pc + 3) lv st) : zAt p l e R s m args below meth c D cl w0 nL cells slots Q ws pc lv (.int y :: .int x :: st) := fun H locs ls hP hD hS hl => lv_icmp_ne Z.1 Z.2.1 d ht (fun h => kt h H locs ls hP hD hS hl) (fun h => kf h H locs ls hP hD hS hl)
theorem z_icmp_lt (Z : zC p s m args meth c cc nL own Ts D cl tys w0) {x y : Int32} {off : Int} (tgt : Nat) (d : decode cc pc = .ok (.if_icmp .lt off, 3)) (ht : (pc : Int) + off = (tgt : Int)) (kt : x < y → zAt p l e R s m args below meth c D cl w0 nL cells slots Q ws tgt lv st) (kf : ¬ x < y → zAt p l e R s m args below meth c D cl w0 nL cells slots Q ws (pc + 3) lv st) : zAt p l e R s m args below meth c D cl w0 nL cells slots Q ws pc lv (.int y :: .int x :: st) := fun H locs ls hP hD hS hl => lv_icmp_lt Z.1 Z.2.1 d ht (fun h => kt h H locs ls hP hD hS hl) (fun h => kf h H locs ls hP hD hS hl)
theorem z_icmp_ge (Z : zC p s m args meth c cc nL own Ts D cl tys w0) {x y : Int32} {off : Int} (tgt : Nat) (d : decode cc pc = .ok (.if_icmp .ge off, 3)) (ht : (pc : Int) + off = (tgt : Int)) (kt : y ≤ x → zAt p l e R s m args below meth c D cl w0 nL cells slots Q ws tgt lv st) (kf : ¬ y ≤ x → zAt p l e R s m args below meth c D cl w0 nL cells slots Q ws (pc + 3) lv st) : zAt p l e R s m args below meth c D cl w0 nL cells slots Q ws pc lv (.int y :: .int x :: st) := fun H locs ls hP hD hS hl => lv_icmp_ge Z.1 Z.2.1 d ht (fun h => kt h H locs ls hP hD hS hl) (fun h => kf h H locs ls hP hD hS hl)
theorem z_icmp_gt (Z : zC p s m args meth c cc nL own Ts D cl tys w0) {x y : Int32} {off : Int} (tgt : Nat) (d : decode cc pc = .ok (.if_icmp .gt off, 3)) (ht : (pc : Int) + off = (tgt : Int)) (kt : y < x → zAt p l e R s m args below meth c D cl w0 nL cells slots Q ws tgt lv st) (kf : ¬ y < x → zAt p l e R s m args below meth c D cl w0 nL cells slots Q ws (pc + 3) lv st) : zAt p l e R s m args below meth c D cl w0 nL cells slots Q ws pc lv (.int y :: .int x :: st) := fun H locs ls hP hD hS hl => lv_icmp_gt Z.1 Z.2.1 d ht (fun h => kt h H locs ls hP hD hS hl) (fun h => kf h H locs ls hP hD hS hl)
theorem z_icmp_le (Z : zC p s m args meth c cc nL own Ts D cl tys w0) {x y : Int32} {off : Int} (tgt : Nat) (d : decode cc pc = .ok (.if_icmp .le off, 3)) (ht : (pc : Int) + off = (tgt : Int)) (kt : x ≤ y → zAt p l e R s m args below meth c D cl w0 nL cells slots Q ws tgt lv st) (kf : ¬ x ≤ y → zAt p l e R s m args below meth c D cl w0 nL cells slots Q ws (pc + 3) lv st) : zAt p l e R s m args below meth c D cl w0 nL cells slots Q ws pc lv (.int y :: .int x :: st) := fun H locs ls hP hD hS hl => lv_icmp_le Z.1 Z.2.1 d ht (fun h => kt h H locs ls hP hD hS hl) (fun h => kf h H locs ls hP hD hS hl)
theorem z_if_eq (Z : zC p s m args meth c cc nL own Ts D cl tys w0) {x : Int32} {off : Int} (tgt : Nat) (d : decode cc pc = .ok (.ifCond .eq off, 3)) (ht : (pc : Int) + off = (tgt : Int)) (kt : x = 0 → zAt p l e R s m args below meth c D cl w0 nL cells slots Q ws tgt lv st) (kf : ¬ x = 0 → zAt p l e R s m args below meth c D cl w0 nL cells slots Q ws (pc + 3) lv st) : zAt p l e R s m args below meth c D cl w0 nL cells slots Q ws pc lv (.int x :: st) := fun H locs ls hP hD hS hl => lv_if_eq Z.1 Z.2.1 d ht (fun h => kt h H locs ls hP hD hS hl) (fun h => kf h H locs ls hP hD hS hl)
theorem z_if_ne (Z : zC p s m args meth c cc nL own Ts D cl tys w0) {x : Int32} {off : Int} (tgt : Nat) (d : decode cc pc = .ok (.ifCond .ne off, 3)) (ht : (pc : Int) + off = (tgt : Int)) (kt : ¬ x = 0 → zAt p l e R s m args below meth c D cl w0 nL cells slots Q ws tgt lv st) (kf : x = 0 → zAt p l e R s m args below meth c D cl w0 nL cells slots Q ws (pc + 3) lv st) : zAt p l e R s m args below meth c D cl w0 nL cells slots Q ws pc lv (.int x :: st) := fun H locs ls hP hD hS hl => lv_if_ne Z.1 Z.2.1 d ht (fun h => kt h H locs ls hP hD hS hl) (fun h => kf h H locs ls hP hD hS hl)
theorem z_if_lt (Z : zC p s m args meth c cc nL own Ts D cl tys w0) {x : Int32} {off : Int} (tgt : Nat) (d : decode cc pc = .ok (.ifCond .lt off, 3)) (ht : (pc : Int) + off = (tgt : Int)) (kt : x < 0 → zAt p l e R s m args below meth c D cl w0 nL cells slots Q ws tgt lv st) (kf : ¬ x < 0 → zAt p l e R s m args below meth c D cl w0 nL cells slots Q ws (pc + 3) lv st) : zAt p l e R s m args below meth c D cl w0 nL cells slots Q ws pc lv (.int x :: st) := fun H locs ls hP hD hS hl => lv_if_lt Z.1 Z.2.1 d ht (fun h => kt h H locs ls hP hD hS hl) (fun h => kf h H locs ls hP hD hS hl)
theorem z_if_ge (Z : zC p s m args meth c cc nL own Ts D cl tys w0) {x : Int32} {off : Int} (tgt : Nat) (d : decode cc pc = .ok (.ifCond .ge off, 3)) (ht : (pc : Int) + off = (tgt : Int)) (kt : 0 ≤ x → zAt p l e R s m args below meth c D cl w0 nL cells slots Q ws tgt lv st) (kf : ¬ 0 ≤ x → zAt p l e R s m args below meth c D cl w0 nL cells slots Q ws (pc + 3) lv st) : zAt p l e R s m args below meth c D cl w0 nL cells slots Q ws pc lv (.int x :: st) := fun H locs ls hP hD hS hl => lv_if_ge Z.1 Z.2.1 d ht (fun h => kt h H locs ls hP hD hS hl) (fun h => kf h H locs ls hP hD hS hl)
theorem z_if_gt (Z : zC p s m args meth c cc nL own Ts D cl tys w0) {x : Int32} {off : Int} (tgt : Nat) (d : decode cc pc = .ok (.ifCond .gt off, 3)) (ht : (pc : Int) + off = (tgt : Int)) (kt : 0 < x → zAt p l e R s m args below meth c D cl w0 nL cells slots Q ws tgt lv st) (kf : ¬ 0 < x → zAt p l e R s m args below meth c D cl w0 nL cells slots Q ws (pc + 3) lv st) : zAt p l e R s m args below meth c D cl w0 nL cells slots Q ws pc lv (.int x :: st) := fun H locs ls hP hD hS hl => lv_if_gt Z.1 Z.2.1 d ht (fun h => kt h H locs ls hP hD hS hl) (fun h => kf h H locs ls hP hD hS hl)
theorem z_if_le (Z : zC p s m args meth c cc nL own Ts D cl tys w0) {x : Int32} {off : Int} (tgt : Nat) (d : decode cc pc = .ok (.ifCond .le off, 3)) (ht : (pc : Int) + off = (tgt : Int)) (kt : x ≤ 0 → zAt p l e R s m args below meth c D cl w0 nL cells slots Q ws tgt lv st) (kf : ¬ x ≤ 0 → zAt p l e R s m args below meth c D cl w0 nL cells slots Q ws (pc + 3) lv st) : zAt p l e R s m args below meth c D cl w0 nL cells slots Q ws pc lv (.int x :: st) := fun H locs ls hP hD hS hl => lv_if_le Z.1 Z.2.1 d ht (fun h => kt h H locs ls hP hD hS hl) (fun h => kf h H locs ls hP hD hS hl)
theorem z_icmpN_eq (Z : zC p s m args meth c cc nL own Ts D cl tys w0) {a b : Nat} {off : Int} (tgt : Nat) (d : decode cc pc = .ok (.if_icmp .eq off, 3)) (ht : (pc : Int) + off = (tgt : Int)) (ha : a < 2 ^ 31) (hb : b < 2 ^ 31) (kt : a = b → zAt p l e R s m args below meth c D cl w0 nL cells slots Q ws tgt lv st) (kf : a ≠ b → zAt p l e R s m args below meth c D cl w0 nL cells slots Q ws (pc + 3) lv st) : zAt p l e R s m args below meth c D cl w0 nL cells slots Q ws pc lv (.int (nI b) :: .int (nI a) :: st) := z_icmp_eq Z tgt d ht (fun h => kt ((nI_eq ha hb).mp h)) (fun h => kf (fun q => h ((nI_eq ha hb).mpr q)))
theorem z_icmpN_ne (Z : zC p s m args meth c cc nL own Ts D cl tys w0) {a b : Nat} {off : Int} (tgt : Nat) (d : decode cc pc = .ok (.if_icmp .ne off, 3)) (ht : (pc : Int) + off = (tgt : Int)) (ha : a < 2 ^ 31) (hb : b < 2 ^ 31) (kt : a ≠ b → zAt p l e R s m args below meth c D cl w0 nL cells slots Q ws tgt lv st) (kf : a = b → zAt p l e R s m args below meth c D cl w0 nL cells slots Q ws (pc + 3) lv st) : zAt p l e R s m args below meth c D cl w0 nL cells slots Q ws pc lv (.int (nI b) :: .int (nI a) :: st) := z_icmp_ne Z tgt d ht (fun h => kt (fun q => h ((nI_eq ha hb).mpr q))) (fun h => kf ((nI_eq ha hb).mp h))
theorem z_icmpN_lt (Z : zC p s m args meth c cc nL own Ts D cl tys w0) {a b : Nat} {off : Int} (tgt : Nat) (d : decode cc pc = .ok (.if_icmp .lt off, 3)) (ht : (pc : Int) + off = (tgt : Int)) (ha : a < 2 ^ 31) (hb : b < 2 ^ 31) (kt : a < b → zAt p l e R s m args below meth c D cl w0 nL cells slots Q ws tgt lv st) (kf : b ≤ a → zAt p l e R s m args below meth c D cl w0 nL cells slots Q ws (pc + 3) lv st) : zAt p l e R s m args below meth c D cl w0 nL cells slots Q ws pc lv (.int (nI b) :: .int (nI a) :: st) := z_icmp_lt Z tgt d ht (fun h => kt ((nI_ltI ha hb).mp h)) (fun h => kf (Nat.not_lt.mp (fun q => h ((nI_ltI ha hb).mpr q))))
theorem z_icmpN_ge (Z : zC p s m args meth c cc nL own Ts D cl tys w0) {a b : Nat} {off : Int} (tgt : Nat) (d : decode cc pc = .ok (.if_icmp .ge off, 3)) (ht : (pc : Int) + off = (tgt : Int)) (ha : a < 2 ^ 31) (hb : b < 2 ^ 31) (kt : b ≤ a → zAt p l e R s m args below meth c D cl w0 nL cells slots Q ws tgt lv st) (kf : a < b → zAt p l e R s m args below meth c D cl w0 nL cells slots Q ws (pc + 3) lv st) : zAt p l e R s m args below meth c D cl w0 nL cells slots Q ws pc lv (.int (nI b) :: .int (nI a) :: st) := z_icmp_ge Z tgt d ht (fun h => kt ((nI_leI hb ha).mp h)) (fun h => kf (Nat.not_le.mp (fun q => h ((nI_leI hb ha).mpr q))))
theorem z_icmpN_gt (Z : zC p s m args meth c cc nL own Ts D cl tys w0) {a b : Nat} {off : Int} (tgt : Nat) (d : decode cc pc = .ok (.if_icmp .gt off, 3)) (ht : (pc : Int) + off = (tgt : Int)) (ha : a < 2 ^ 31) (hb : b < 2 ^ 31) (kt : b < a → zAt p l e R s m args below meth c D cl w0 nL cells slots Q ws tgt lv st) (kf : a ≤ b → zAt p l e R s m args below meth c D cl w0 nL cells slots Q ws (pc + 3) lv st) : zAt p l e R s m args below meth c D cl w0 nL cells slots Q ws pc lv (.int (nI b) :: .int (nI a) :: st) := z_icmp_gt Z tgt d ht (fun h => kt ((nI_ltI hb ha).mp h)) (fun h => kf (Nat.not_lt.mp (fun q => h ((nI_ltI hb ha).mpr q))))
theorem z_icmpN_le (Z : zC p s m args meth c cc nL own Ts D cl tys w0) {a b : Nat} {off : Int} (tgt : Nat) (d : decode cc pc = .ok (.if_icmp .le off, 3)) (ht : (pc : Int) + off = (tgt : Int)) (ha : a < 2 ^ 31) (hb : b < 2 ^ 31) (kt : a ≤ b → zAt p l e R s m args below meth c D cl w0 nL cells slots Q ws tgt lv st) (kf : b < a → zAt p l e R s m args below meth c D cl w0 nL cells slots Q ws (pc + 3) lv st) : zAt p l e R s m args below meth c D cl w0 nL cells slots Q ws pc lv (.int (nI b) :: .int (nI a) :: st) := z_icmp_le Z tgt d ht (fun h => kt ((nI_leI ha hb).mp h)) (fun h => kf (Nat.not_le.mp (fun q => h ((nI_leI ha hb).mpr q))))
theorem z_tableIn (Z : zC p s m args meth c cc nL own Ts D cl tys w0) {dflt lo hi : Int} {offs : Array Int} {len : Nat} {x : Int32} {off : Int} (tgt : Nat) (d : decode cc pc = .ok (.tableswitch dflt lo hi offs, len)) (h1 : ¬ x.toInt < lo) (h2 : ¬ hi < x.toInt) (ho : offs[(x.toInt - lo).toNat]? = some off) (ht : (pc : Int) + off = (tgt : Int)) (k : zAt p l e R s m args below meth c D cl w0 nL cells slots Q ws tgt lv st) : zAt p l e R s m args below meth c D cl w0 nL cells slots Q ws pc lv (.int x :: st) := fun H locs ls hP hD hS hl => lv_tableIn Z.1 Z.2.1 d h1 h2 ho ht (k H locs ls hP hD hS hl)
theorem z_tableOut (Z : zC p s m args meth c cc nL own Ts D cl tys w0) {dflt lo hi : Int} {offs : Array Int} {len : Nat} {x : Int32} (tgt : Nat) (d : decode cc pc = .ok (.tableswitch dflt lo hi offs, len)) (h : x.toInt < lo ∨ hi < x.toInt) (ht : (pc : Int) + dflt = (tgt : Int)) (k : zAt p l e R s m args below meth c D cl w0 nL cells slots Q ws tgt lv st) : zAt p l e R s m args below meth c D cl w0 nL cells slots Q ws pc lv (.int x :: st) := fun H locs ls hP hD hS hl => lv_tableOut Z.1 Z.2.1 d h ht (k H locs ls hP hD hS hl)
theorem z_get (Z : zC p s m args meth c cc nL own Ts D cl tys w0) {C : String} {T : u_T} {N ci index : Nat} (hin : ∀ w ∈ u_ws C T N, w ∈ Ts) (q0 : Nat) {a : Nat} {fs : List Value} (he : ws[q0]? = some (a, .inr (ci, fs))) (hc : cl[ci]? = some (C, T, N)) (k : Nat) (hk : k < N) (hlink : Cond.fieldLink own index (T k).1 (T k).2.1 (T k).2.2.1 ∈ Ts) {v : Value} (hv : fs[k]? = some v) (d : decode cc pc = .ok (.getfield index, 3)) (kk : zAt p l e R s m args below meth c D cl w0 nL cells slots Q ws (pc + 3) lv (v :: st)) : zAt p l e R s m args below meth c D cl w0 nL cells slots Q ws pc lv (.ref a :: st) := fun H locs ls hP hD hS hl => va_get Z.1 Z.2.1 Z.2.2.2.2.1 hin Z.2.2.2.1 Z.2.2.2.2.2.1 hP q0 he hc k hk (Z.2.2.2.2.1 _ hlink) (fun _ h9 => h9) hv d (kk H locs ls hP hD hS hl)
theorem z_put (Z : zC p s m args meth c cc nL own Ts D cl tys w0) {C : String} {T : u_T} {N ci index : Nat} (hin : ∀ w ∈ u_ws C T N, w ∈ Ts) (ty0 : Nat → FieldType) (hty : ∀ k, k < N → parseFieldDescriptor (T k).2.2.1 = some (ty0 k)) (hnm : ∀ a, a < N → ∀ b, b < N → a ≠ b → (T a).2.1 ≠ (T b).2.1) (q0 : Nat) {a : Nat} {fs : List Value} (he : ws[q0]? = some (a, .inr (ci, fs))) (hc : cl[ci]? = some (C, T, N)) (k : Nat) (hk : k < N) (hlink : Cond.fieldLink own index (T k).1 (T k).2.1 (T k).2.2.1 ∈ Ts) (hfin : (T k).2.2.2 = false) {ty : FieldType} {v : Value} (hd : parseFieldDescriptor (T k).2.2.1 = some ty) (hn : narrow ty v = v) (hfit : fits ty v = true) (hlf : k < fs.length) (d : decode cc pc = .ok (.putfield index, 3)) (hw : ws.set q0 (a, .inr (ci, fs.set k v)) = ws') (kk : zAt p l e R s m args below meth c D cl w0 nL cells slots Q ws' (pc + 3) lv st) : zAt p l e R s m args below meth c D cl w0 nL cells slots Q ws pc lv (v :: .ref a :: st) := fun H locs ls hP hD hS hl => va_put Z.1 Z.2.1 Z.2.2.2.2.1 hin ty0 hty hnm Z.2.2.2.1 Z.2.2.2.2.2.1 hP hD hS q0 he hc k hk (Z.2.2.2.2.1 _ hlink) (fun _ h9 => h9) hfin hd hn hfit hlf d (fun H1 locs1 hP1 hD1 hS1 => kk H1 locs1 ls (hw ▸ hP1) (hw ▸ hD1) hS1 hl)
theorem z_putF (Z : zC p s m args meth c cc nL own Ts D cl tys w0) (hinit : meth.name = "<init>") {C : String} {T : u_T} {N ci index : Nat} (hin : ∀ w ∈ u_ws C T N, w ∈ Ts) (ty0 : Nat → FieldType) (hty : ∀ k, k < N → parseFieldDescriptor (T k).2.2.1 = some (ty0 k)) (hnm : ∀ a, a < N → ∀ b, b < N → a ≠ b → (T a).2.1 ≠ (T b).2.1) (q0 : Nat) {a : Nat} {fs : List Value} (he : ws[q0]? = some (a, .inr (ci, fs))) (hc : cl[ci]? = some (C, T, N)) (k : Nat) (hk : k < N) (hlink : Cond.fieldLink own index (T k).1 (T k).2.1 (T k).2.2.1 ∈ Ts) (hfin : (T k).2.2.2 = true) (hdecl : (T k).1 = own) {ty : FieldType} {v : Value} (hd : parseFieldDescriptor (T k).2.2.1 = some ty) (hn : narrow ty v = v) (hfit : fits ty v = true) (hlf : k < fs.length) (d : decode cc pc = .ok (.putfield index, 3)) (hw : ws.set q0 (a, .inr (ci, fs.set k v)) = ws') (kk : zAt p l e R s m args below meth c D cl w0 nL cells slots Q ws' (pc + 3) lv st) : zAt p l e R s m args below meth c D cl w0 nL cells slots Q ws pc lv (v :: .ref a :: st) := fun H locs ls hP hD hS hl => va_putF Z.1 Z.2.1 Z.2.2.2.2.1 hin ty0 hty hnm Z.2.2.2.1 Z.2.2.2.2.2.1 hP hD hS q0 he hc k hk (Z.2.2.2.2.1 _ hlink) (fun _ h9 => h9) hfin hinit hdecl hd hn hfit hlf d (fun H1 locs1 hP1 hD1 hS1 => kk H1 locs1 ls (hw ▸ hP1) (hw ▸ hD1) hS1 hl)
theorem z_iald (Z : zC p s m args meth c cc nL own Ts D cl tys w0) (q0 t0 : Nat) {a : Nat} {cA : ClassId} {n : Nat} {f : Nat → Int32} {j : Nat} (ha : ws[q0]? = some (a, .inl (cA, n, .inl f))) (ht : tys[t0]? = some (cA, .int)) (hj : j < n) (hn : n < 2 ^ 31) (d : decode cc pc = .ok (.iaload, 1)) (k : zAt p l e R s m args below meth c D cl w0 nL cells slots Q ws (pc + 1) lv (.int (f j) :: st)) : zAt p l e R s m args below meth c D cl w0 nL cells slots Q ws pc lv (.int (nI j) :: .ref a :: st) := fun H locs ls hP hD hS hl => va_iald Z.1 Z.2.1 Z.2.2.2.2.2.1 hP q0 t0 ha ht (vp_in_nI hj hn) d (by rw [nI_clamp (Nat.lt_trans hj hn)]; exact k H locs ls hP hD hS hl)
theorem z_zald (Z : zC p s m args meth c cc nL own Ts D cl tys w0) (q0 t0 : Nat) {a : Nat} {cA : ClassId} {n : Nat} {f : Nat → Int32} {j : Nat} (ha : ws[q0]? = some (a, .inl (cA, n, .inl f))) (ht : tys[t0]? = some (cA, .boolean)) (hj : j < n) (hn : n < 2 ^ 31) (d : decode cc pc = .ok (.baload, 1)) (k : zAt p l e R s m args below meth c D cl w0 nL cells slots Q ws (pc + 1) lv (.int (f j) :: st)) : zAt p l e R s m args below meth c D cl w0 nL cells slots Q ws pc lv (.int (nI j) :: .ref a :: st) := fun H locs ls hP hD hS hl => va_zald Z.1 Z.2.1 Z.2.2.2.2.2.1 hP q0 t0 ha ht (vp_in_nI hj hn) d (by rw [nI_clamp (Nat.lt_trans hj hn)]; exact k H locs ls hP hD hS hl)
theorem z_lald (Z : zC p s m args meth c cc nL own Ts D cl tys w0) (q0 t0 : Nat) {a : Nat} {cA : ClassId} {n : Nat} {f : Nat → Int64} {j : Nat} (ha : ws[q0]? = some (a, .inl (cA, n, .inr (.inl f)))) (ht : tys[t0]? = some (cA, .long)) (hj : j < n) (hn : n < 2 ^ 31) (d : decode cc pc = .ok (.laload, 1)) (k : zAt p l e R s m args below meth c D cl w0 nL cells slots Q ws (pc + 1) lv (.long (f j) :: st)) : zAt p l e R s m args below meth c D cl w0 nL cells slots Q ws pc lv (.int (nI j) :: .ref a :: st) := fun H locs ls hP hD hS hl => va_lald Z.1 Z.2.1 Z.2.2.2.2.2.1 hP q0 t0 ha ht (vp_in_nI hj hn) d (by rw [nI_clamp (Nat.lt_trans hj hn)]; exact k H locs ls hP hD hS hl)
theorem z_iast (Z : zC p s m args meth c cc nL own Ts D cl tys w0) (q0 t0 : Nat) {a : Nat} {cA : ClassId} {n : Nat} {f : Nat → Int32} {j : Nat} {x : Int32} (ha : ws[q0]? = some (a, .inl (cA, n, .inl f))) (ht : tys[t0]? = some (cA, .int)) (hj : j < n) (hn : n < 2 ^ 31) (d : decode cc pc = .ok (.iastore, 1)) (hw : ws.set q0 (a, .inl (cA, n, .inl (upd f j x))) = ws') (k : zAt p l e R s m args below meth c D cl w0 nL cells slots Q ws' (pc + 1) lv st) : zAt p l e R s m args below meth c D cl w0 nL cells slots Q ws pc lv (.int x :: .int (nI j) :: .ref a :: st) := fun H locs ls hP hD hS hl => va_iast Z.1 Z.2.1 Z.2.2.2.2.2.1 hP hD hS q0 t0 ha ht (vp_in_nI hj hn) d (fun H1 locs1 hP1 hD1 hS1 => by
  rw [nI_clamp (Nat.lt_trans hj hn)] at hP1 hD1
  exact k H1 locs1 ls (hw ▸ hP1) (hw ▸ hD1) hS1 hl)
theorem z_zast (Z : zC p s m args meth c cc nL own Ts D cl tys w0) (q0 t0 : Nat) {a : Nat} {cA : ClassId} {n : Nat} {f : Nat → Int32} {j : Nat} {x : Int32} (ha : ws[q0]? = some (a, .inl (cA, n, .inl f))) (ht : tys[t0]? = some (cA, .boolean)) (hj : j < n) (hn : n < 2 ^ 31) (d : decode cc pc = .ok (.bastore, 1)) (hw : ws.set q0 (a, .inl (cA, n, .inl (upd f j (vp_nar .boolean x)))) = ws') (k : zAt p l e R s m args below meth c D cl w0 nL cells slots Q ws' (pc + 1) lv st) : zAt p l e R s m args below meth c D cl w0 nL cells slots Q ws pc lv (.int x :: .int (nI j) :: .ref a :: st) := fun H locs ls hP hD hS hl => va_zast Z.1 Z.2.1 Z.2.2.2.2.2.1 hP hD hS q0 t0 ha ht (vp_in_nI hj hn) d (fun H1 locs1 hP1 hD1 hS1 => by
  rw [nI_clamp (Nat.lt_trans hj hn)] at hP1 hD1
  exact k H1 locs1 ls (hw ▸ hP1) (hw ▸ hD1) hS1 hl)
theorem z_last (Z : zC p s m args meth c cc nL own Ts D cl tys w0) (q0 t0 : Nat) {a : Nat} {cA : ClassId} {n : Nat} {f : Nat → Int64} {j : Nat} {x : Int64} (ha : ws[q0]? = some (a, .inl (cA, n, .inr (.inl f)))) (ht : tys[t0]? = some (cA, .long)) (hj : j < n) (hn : n < 2 ^ 31) (d : decode cc pc = .ok (.lastore, 1)) (hw : ws.set q0 (a, .inl (cA, n, .inr (.inl (vp_updL f j x)))) = ws') (k : zAt p l e R s m args below meth c D cl w0 nL cells slots Q ws' (pc + 1) lv st) : zAt p l e R s m args below meth c D cl w0 nL cells slots Q ws pc lv (.long x :: .int (nI j) :: .ref a :: st) := fun H locs ls hP hD hS hl => va_last Z.1 Z.2.1 Z.2.2.2.2.2.1 hP hD hS q0 t0 ha ht (vp_in_nI hj hn) d (fun H1 locs1 hP1 hD1 hS1 => by
  rw [nI_clamp (Nat.lt_trans hj hn)] at hP1 hD1
  exact k H1 locs1 ls (hw ▸ hP1) (hw ▸ hD1) hS1 hl)
end ZR
end
section
/-! ends, calls, throws over zAt -/
section ZD
variable {D : va_G} {cl : List vw_C} {A : Nat → Prop} {a b : va_W} {H : Heap}
theorem zD_l (h : va_D A (a ++ b)) : va_D A a := h.by (fun k => k) (fun k q hk => by
    rw [List.getElem?_append_left (List.getElem?_eq_some_iff.mp hk).1]; exact hk) (fun _ _ _ _ h => h)
theorem zD_r (h : va_D A (a ++ b)) : va_D A b := h.by (fun k => a.length + k) (fun k q hk => by
    rw [List.getElem?_append_right (Nat.le_add_right _ _), Nat.add_sub_cancel_left]; exact hk) (fun _ _ _ _ h => Nat.add_left_cancel h)
theorem zD_x (h : va_D A (a ++ b)) (i j : Nat) (p q : Nat × va_E) (hi : a[i]? = some p) (hj : b[j]? = some q) : p.1 ≠ q.1 := fun e => by
  have hl := (List.getElem?_eq_some_iff.mp hi).1
  have h1 := h.1 i (a.length + j) p q (by rw [List.getElem?_append_left hl]; exact hi) (by rw [List.getElem?_append_right (Nat.le_add_right _ _), Nat.add_sub_cancel_left]; exact hj) e
  omega
theorem zP_l (h : va_P D cl (a ++ b) H) : va_P D cl a H := h.by (fun k => k) (fun k q hk => by
    rw [List.getElem?_append_left (List.getElem?_eq_some_iff.mp hk).1]; exact hk)
theorem zP_r (h : va_P D cl (a ++ b) H) : va_P D cl b H := h.by (fun k => a.length + k) (fun k q hk => by
    rw [List.getElem?_append_right (Nat.le_add_right _ _), Nat.add_sub_cancel_left]; exact hk)
/-- a callee's cells wc between cells that it doesn't reach -/
theorem z_join {pre wc suf w1 : va_W} {H1 : Heap} (hP : va_P D cl ((pre ++ wc) ++ suf) H) (hD : va_D A ((pre ++ wc) ++ suf)) (hk : ∀ q : Nat, q < H.size → ¬ va_A wc H.size q → H1[q]? = H[q]?) (hF : ∀ q, va_A wc H.size q → A q) (hP1 : va_P D cl w1 H1) (hD1 : va_D (va_A wc H.size) w1) :
    va_P D cl ((pre ++ w1) ++ suf) H1 ∧ va_D A ((pre ++ w1) ++ suf) := by
  have hPp := zP_l (zP_l hP)
  have hPs := zP_r hP
  have hDp := zD_l (zD_l hD)
  have hDs := zD_r hD
  have xpc := zD_x (zD_l hD)
  have xs := zD_x hD
  have np : ∀ (i : Nat) (q : Nat × va_E), pre[i]? = some q → ¬ va_A wc H.size q.1 := fun i q hi hA => by
    rcases hA with ⟨k, e, hke⟩ | hle
    · exact xpc i k q _ hi hke rfl
    · exact absurd (hPp i q hi).lt (Nat.not_lt.mpr hle)
  have ns : ∀ (i : Nat) (q : Nat × va_E), suf[i]? = some q → ¬ va_A wc H.size q.1 := fun i q hi hA => by
    rcases hA with ⟨k, e, hke⟩ | hle
    · exact xs (pre.length + k) i (q.1, e) q (by rw [List.getElem?_append_right (Nat.le_add_right _ _), Nat.add_sub_cancel_left]; exact hke) hi rfl
    · exact absurd (hPs i q hi).lt (Nat.not_lt.mpr hle)
  have hD1' : va_D A w1 := hD1.weaken (fun _ _ _ h => hF _ h)
  refine ⟨va_P.app (va_P.app (fun k q hkq => (hPp k q hkq).kept (hk _ (hPp k q hkq).lt (np k q hkq))) hP1) (fun k q hkq => (hPs k q hkq).kept (hk _ (hPs k q hkq).lt (ns k q hkq))), ?_⟩
  refine va_D.app (va_D.app hDp hD1' (fun i j p q hi hj e => np i p hi (e ▸ hD1.2 j q hj))) hDs (fun i j p q hi hj e => ?_)
  rcases Nat.lt_or_ge i pre.length with hl | hg
  · rw [List.getElem?_append_left hl] at hi
    exact xs i j p q (by rw [List.getElem?_append_left hl]; exact hi) hj e
  · rw [List.getElem?_append_right hg] at hi
    exact ns j q hj (e ▸ hD1.2 _ p hi)
theorem z_notStatics {w0 : va_W} (hP : va_P D cl w0 H) {q : Nat} {e : va_E} {k : Nat} (hk : w0[k]? = some (q, e)) {cell : Cell} (hc : H[q]? = some cell) : cell.vm.isStatics = false := by
  have h := hP k _ hk
  cases e with
  | inl x =>
    have h1 : H[q]? = some (vp_cell x.1 x.2) := h
    cases Option.some.inj (h1.symm.trans hc)
    obtain ⟨cA, n, f⟩ := x
    rcases f with f | f | f | f | f <;> rfl
  | inr x =>
    obtain ⟨r, -, cell', g1, -, g3, -⟩ := h
    cases Option.some.inj (g1.symm.trans hc)
    rw [g3]; rfl
end ZD
section ZE
variable {p : Program} {l : Launch} {e : Env} {R : Room} {s : State} {m : MethodId} {args : Array Value} {below : List Frame} {meth : Method} {c : Code} {cells slots nL : Nat} {Q : State → Prop} {D : va_G} {cl : List vw_C} {tys : List (ClassId × FieldType)} {w0 : va_W} {cc : ByteArray} {own : String} {Ts : List Cond} {ws ws' : va_W} {pc : Nat} {lv lv' : List (Nat × Value)} {st : List Value}
theorem zT1_to {n d : String} {U : State} (h : zT1 n d s) (hP0 : va_P D cl w0 s.heap) (hW : s.WarmedH U.vm) (hk : ∀ q : Nat, q < s.heap.size → ¬ va_A w0 s.heap.size q → U.heap[q]? = s.heap[q]?) : zT1 n d U := by
  obtain ⟨h1, h2, h3⟩ := h
  have keep : ∀ (a : Nat) (cell : Cell), s.heap[a]? = some cell → cell.vm.isStatics = true → U.heap[a]? = some cell := fun a cell ha hs => by
    rw [hk a (Array.getElem?_eq_some_iff.mp ha).1 ?_]
    · exact ha
    · rintro (⟨j, e9, hj⟩ | hle)
      · have := z_notStatics hP0 hj ha
        rw [this] at hs; cases hs
      · exact absurd (Array.getElem?_eq_some_iff.mp ha).1 (Nat.not_lt.mpr hle)
  refine ⟨?_, word_at hW (Or.inl (by first | rfl | simp [Cond.onTables, Cond.keeps, Cond.steady])) h2, ?_⟩
  · obtain ⟨c9, k, i, f, a, cell, g1, g2, g3, g4, g5, g6, g7, g8, g9⟩ := Cond.laysStatic_spec h1
    obtain ⟨k', hi', he⟩ := State.fieldFound?_setVm hW.alike g2
    show (Cond.laysStatic Jvm.Bundle.tN n d).holds #[] U none U [] = true
    exact Cond.laysStatic_of (by rw [hW.alike.findClass]; exact g1) hi' g3 (by rw [he]; exact g4) (keep a cell g5 g6) g6 g7 g8 (by rw [he]; exact g9)
  · have hz := va_Zqof (A := fun _ => False) h1 h2 h3 (fun _ _ h => h)
    have go : ∀ v : Value, v.isRef = true → va_Z Jvm.Bundle.tN n d v (fun _ => False) s s.heap → (Cond.isRef (.static Jvm.Bundle.tN n d)).before #[] U = true := fun v hv hz => by
      obtain ⟨cf, kf, fi, f, a, cell, g1, g2, g3, g4, g5, g6, g7, -⟩ := hz
      obtain ⟨k', hi', he⟩ := State.fieldFound?_setVm hW.alike g1
      have hi2 : U.fieldFound? Jvm.Bundle.tN n d = some (cf, k', fi, f) := hi'
      have g4' : k'.statics = some a := by rw [he]; exact g4
      have g5' := keep a cell g5 g6
      have hev : (Term.static Jvm.Bundle.tN n d).eval #[] U none [] U = some v := by
        simp [Term.eval, State.fieldNamed?, hi2, g2, g4', g5', g6, g7]
      simp only [Cond.before, Cond.holds, Cond.value, hev]
      clear hev
      cases v <;> first | rfl | (exact absurd hv (by simp [Value.isRef]))
    rcases hz with hz | ⟨t, hz⟩
    · exact go _ rfl hz
    · exact go _ rfl hz
theorem zT_to {U : State} (h : zT s) (hP0 : va_P D cl w0 s.heap) (hW : s.WarmedH U.vm) (hk : ∀ q : Nat, q < s.heap.size → ¬ va_A w0 s.heap.size q → U.heap[q]? = s.heap[q]?) : zT U :=
  ⟨zT1_to h.1 hP0 hW hk, zT1_to h.2.1 hP0 hW hk, fun q hq => by
    obtain ⟨a, ha⟩ := h.2.2.1 q hq
    exact ⟨a, vk_R.warm hW ha⟩, fun x hx => va_Nw.warmD hW (h.2.2.2.1 x hx), fun q hq => va_Nw.warmC hW (h.2.2.2.2.1 q hq), fun q hq => by
    obtain ⟨a, b, h1, h2, h3⟩ := h.2.2.2.2.2 q hq
    exact ⟨a, b, by rw [hW.alike.findClass]; exact h1, by rw [hW.alike.findClass]; exact h2, by rw [hW.alike.assignable]; exact h3⟩⟩
/-- a word that the lists of zT hold -/
def zWk (w : Cond) : Bool := match w with
  | .declares x => decide (x ∈ zDecl)
  | .castable a b => decide ((a, b) ∈ zCast)
  | _ => false
theorem zWk_at {w : Cond} (hz : zT s) (h : zWk w = true) : w.before args s = true := by
  cases w <;> first | (exact va_Nw.use rfl (hz.2.2.2.1 _ (of_decide_eq_true h))) | (exact va_Nw.use rfl (hz.2.2.2.2.1 _ (of_decide_eq_true h))) | (exact absurd h (by simp [zWk]))
theorem z_iret (Z : zC p s m args meth c cc nL own Ts D cl tys w0) {ty : FieldType} {v : Int32} {post : zRes → va_W → Prop} {mc ms : Nat} (hr : meth.sig.returnType = some ty) (hn : narrow ty (.int v) = .int v) (d : decode cc pc = .ok (.ireturn, 1)) (hc : cells ≤ mc) (hs : slots ≤ ms) (hq : post (.inl (some (.int v))) ws) :
    zAt p l e R s m args below meth c D cl w0 nL cells slots (zEnd below D cl w0 post s mc ms) ws pc lv [.int v] := by
  intro H locs ls hP hD hS hl
  refine z_mono (W.zret (Qc := fun _ _ o t => t.heap = H ∧ o = .returned (some (.int v))) (free := va_A w0 s.heap.size) Z.1 Z.2.1 hr hn (fun t ht _ => ⟨ht, rfl⟩) hS.2.2 d Z.2.2.2.2.2.2.2.1) ?_
  rintro t ⟨o, h1, h2, ⟨ht, ho⟩, L, hF, hL⟩
  exact ⟨o, h1, h2, ⟨hS.F ht, .inl (some (.int v)), ws, hq, by rw [ht]; exact hP, hD, ho⟩, hF.2.1, L, hF.2.2.mono hc hs, hL⟩
theorem z_vret (Z : zC p s m args meth c cc nL own Ts D cl tys w0) {post : zRes → va_W → Prop} {mc ms : Nat} (hr : meth.sig.returnType = none) (d : decode cc pc = .ok (.return_, 1)) (hc : cells ≤ mc) (hs : slots ≤ ms) (hq : post (.inl none) ws) :
    zAt p l e R s m args below meth c D cl w0 nL cells slots (zEnd below D cl w0 post s mc ms) ws pc lv [] := by
  intro H locs ls hP hD hS hl
  refine z_mono (W.vret (Qc := fun _ _ o t => t.heap = H ∧ o = .returned none) (free := va_A w0 s.heap.size) Z.1 Z.2.1 hr (fun t ht _ => ⟨ht, rfl⟩) hS.2.2 d Z.2.2.2.2.2.2.2.1) ?_
  rintro t ⟨o, h1, h2, ⟨ht, ho⟩, L, hF, hL⟩
  exact ⟨o, h1, h2, ⟨hS.F ht, .inl none, ws, hq, by rw [ht]; exact hP, hD, ho⟩, hF.2.1, L, hF.2.2.mono hc hs, hL⟩
/-- no handler here: the exception goes to the caller -/
theorem z_out (Z : zC p s m args meth c cc nL own Ts D cl tys w0) {E : String} {post : zRes → va_W → Prop} {mc ms : Nat} (ht : ∀ x ∈ c.exceptionTable.toList, covers x pc = false) (hc : cells ≤ mc) (hs : slots ≤ ms) (hq : post (.inr E) ws) :
    zX p l e R s m args below meth c D cl w0 nL cells slots (zEnd below D cl w0 post s mc ms) ws pc lv E := by
  intro H locs ls st q ce hP hD hS hl hce hcv hcl T hT X
  obtain ⟨st1, hrun, hend, hW, hsm⟩ := X.leaveThrown q (g := F0 m pc ls st) rfl rfl rfl ht Z.2.2.2.2.2.2.2.1
  have hh : (T.setFrames (.throwing q :: below)).heap = H := hT
  exact ⟨_, st1, .threw q, hrun, hend, ⟨hS.F hh, .inr E, ws, hq, by rw [hh]; exact hP, hD, q, ce, rfl, by rw [hh]; exact hce, hcv, hcl⟩, hW, locs, hsm.mono hc hs, hS.2.2⟩
/-- caught by a row of this method's table -/
theorem z_catch (Z : zC p s m args meth c cc nL own Ts D cl tys w0) {E name : String} (pre : List ExceptionTableEntry) (x : ExceptionTableEntry) (suf : List ExceptionTableEntry) (hsplit : c.exceptionTable.toList = pre ++ x :: suf)
    (hpass : ∀ z ∈ pre, covers z pc = false ∨ (z.catchType ≠ 0 ∧ ∃ nm : String, (Cond.classLink own z.catchType nm).before args s = true ∧ va_Nc E nm s)) (hx : covers x pc = true) (h0 : x.catchType ≠ 0)
    (hlink : (Cond.classLink own x.catchType name).before args s = true) (hcast : (Cond.castable E name).before args s = true) (kk : ∀ q : Nat, zAt p l e R s m args below meth c D cl w0 nL cells slots Q ws x.handlerPc lv [.ref q]) :
    zX p l e R s m args below meth c D cl w0 nL cells slots Q ws pc lv E := by
  intro H locs ls st q ce hP hD hS hl hce hcv hcl T hT X
  have hpl : e.platform.magicAccessors = ({} : Platform).magicAccessors := by rw [X.admits.platform]
  obtain ⟨c3, c4, hc3, hc4, hasg⟩ := Cond.castable_spec hcast
  cases Option.some.inj (hc3.symm.trans hcl)
  obtain ⟨c5, hc5, hcl5⟩ := Cond.classLink_spec Z.2.2.2.1 hlink e.platform hpl
  cases Option.some.inj (hc4.symm.trans hc5)
  have hkn : ∃ k, s.vm.classes[ce.cls]? = some k := by
    obtain ⟨k9, h9, -⟩ := Vm.findClass_spec hcl
    exact ⟨k9, h9⟩
  have hps : ∀ y ∈ pre, RowPassed e.platform s m.cls (F0 m pc ls st).pc ce.cls y := fun y hy => by
    rcases hpass y hy with h | ⟨hz0, nm, hl1, a8, b8, n1, n2, n3⟩
    · exact Or.inl h
    · obtain ⟨c6, hc6, hcl6⟩ := Cond.classLink_spec Z.2.2.2.1 hl1 e.platform hpl
      cases Option.some.inj (n1.symm.trans hcl)
      cases Option.some.inj (n2.symm.trans hc6)
      exact Or.inr ⟨hz0, _, hcl6, n3⟩
  obtain ⟨vm', X', st1⟩ := X.thenCaughtThrough q (g := F0 m pc ls st) rfl (Steps.refl _) (by rw [hT]; exact hce) (by rw [hcv]; rfl) hkn pre x suf hsplit hps hx (Or.inr ⟨h0, _, hcl5, hasg⟩)
  obtain ⟨t, a1, b1⟩ := kk q H locs ls hP hD hS hl (T.setVm vm') hT X'
  exact ⟨t, st1.trans a1, b1⟩
/-- what a call by a contract gives, seen from the caller's frame -/
theorem z_back {y : MethodName} {wsY : List Cond} {rm : Room} {tysY : List (ClassId × FieldType)} {wc : va_W} {av : List Value} {postY : zRes → va_W → Prop} {mc ms maxL : Nat}
    (hM : zMet l y wsY rm D cl tysY wc av postY mc ms) (hrc : rm.cells = mc) (hrs : rm.slots = ms) (hfr : rm.frames + 1 ≤ R.frames) (hlo : 8 + (maxL + 11) + rm.locals ≤ R.locals)
    (hws : ∀ w ∈ wsY, ∀ (a' : Array Value) (U : State), s.WarmedH U.vm → w.before a' U = true) (hini : ∀ (a' : Array Value) (U : State), s.WarmedH U.vm → (Cond.initialized y.cls).before a' U = true)
    (hcode : ∀ (U : State) (mk : MethodId), s.WarmedH U.vm → U.methodNamed? y = some mk → ∃ methY cY, U.vm.method? mk = some methY ∧ methY.code = some cY ∧ cY.maxLocals = maxL)
    {U : State} {locs : List Loc} {g : JFrame} {ig : Instr} {len : Nat} {mk : MethodId} (X : Stand p l e R s m args below meth c U locs cells slots) (hg : g.method = m) (hsize : g.locals.size = c.maxLocals) (hdg : decode c.code g.pc = .ok (ig, len)) (hW : 2 * g.monitorRoom + (g.stack.map fun v => v.category).sum ≤ 8) (hn : U.methodNamed? y = some mk) (hcl : cells + mc ≤ R.cells ∧ slots + ms ≤ R.slots) (hpre : zPre D cl tysY wc av av.toArray (U.calling g mk av.toArray)) :
    ∃ (o : Outcome) (t T' : State) (L : List Loc), T'.heap = t.heap ∧ T'.vm = t.vm ∧ Stand p l e R s m args below meth c T' (locs ++ L) (cells + mc) (slots + ms) ∧ (∀ q ∈ L, va_A wc U.heap.size q.base) ∧ zO D cl (va_A wc U.heap.size) postY (U.calling g mk av.toArray) o t ∧
      (∀ v, o = .returned v → Steps p.tables e below (doInvoke e (U.setTop g) [] mk av.toArray).1 (T'.setTop { g with pc := g.pc + len, stack := v.toList ++ g.stack })) ∧
      (∀ q, o = .threw q → Steps p.tables e below (doInvoke e (U.setTop g) [] mk av.toArray).1 ((T'.setTop g).pushFrame (.throwing q))) := by
  have hWU := X.warmed
  have h1 : (headSpec wsY rm).pre.before av.toArray U = true := atoms_intro fun w hw => hws w hw _ _ hWU
  obtain ⟨methY, cY, hmY, hcY, hlY⟩ := hcode U mk hWU hn
  obtain ⟨kY, hkY, -⟩ := className_of_methodNamed hn
  have hinitY : kY.init = .initialized := Cond.initialized_spec (findClass_of_methodNamed hn) hkY (hini av.toArray U hWU)
  have h : At U g.method c below := by rw [hg]; exact X.here
  have hlo' : 8 + (maxL + 11) + (headSpec wsY rm).room.locals ≤ R.locals := hlo
  have happ : (headSpec wsY rm).appliesLoose y e.platform (U.calling g mk av.toArray) = true :=
    Spec.appliesLoose_calling (g := g) h hdg hn hkY hinitY
      (X.room_calling (g := g) (R' := (headSpec wsY rm).room) hsize hmY hcY hfr (by rw [hlY]; omega) (by rw [show (headSpec wsY rm).room.cells = mc from hrc]; exact hcl.1) (by rw [show (headSpec wsY rm).room.slots = ms from hrs]; exact hcl.2)) h1
  obtain ⟨mid, hmid⟩ := h.above
  have hfr' : (U.setTop g).frames = (.java g :: mid) ++ below := by rw [State.frames_setTop' g h.top, hmid]; rfl
  obtain ⟨o, s₂, hsteps, -, hend, hq⟩ := Jvm.Free.Steps.callFree hM p X.admits X.cas X.clock (acts := []) hfr' happ hpre trivial
  have hq' : zO D cl (va_A wc U.heap.size) postY (U.calling g mk av.toArray) o s₂ ∧ zF (va_A wc U.heap.size) (U.calling g mk av.toArray) mc ms s₂ := hq
  obtain ⟨hO, hW₂, L, hsm, hL⟩ := hq'
  rw [State.frames_setTop' g h.top] at hend
  obtain ⟨e2, q2, q3, q4, q5, q6⟩ := id hsm
  have e3 : s₂ = ({ (U.calling g mk av.toArray).setFrames s₂.frames with heap := s₂.heap, slotsUsed := s₂.slotsUsed } : State).setVm s₂.vm := by
    have : s₂ = ({ s₂ with vm := (U.calling g mk av.toArray).vm } : State).setVm s₂.vm := rfl
    rw [e2] at this
    exact this
  obtain ⟨g₀, hg0⟩ := Option.isSome_iff_exists.mp h.top
  obtain ⟨r, hr⟩ := State.topJava?_eq_some.mp hg0
  have hr' : (({ U with heap := s₂.heap, slotsUsed := s₂.slotsUsed } : State).setVm s₂.vm).frames = .java g₀ :: r := hr
  have hW' : U.WarmedH s₂.vm := hW₂
  have hsame : U.sameButNew ({ U with heap := s₂.heap, slotsUsed := s₂.slotsUsed } : State) L mc ms := by
    refine ⟨?_, q2, q3, q4, q5, q6⟩
    obtain ⟨t, ht, -⟩ := State.frames_cons hr
    show ({ U with heap := s₂.heap, slotsUsed := s₂.slotsUsed } : State) = { U.setFrames U.frames with heap := s₂.heap, slotsUsed := s₂.slotsUsed }
    rw [State.setFrames_self ht]
  have XT : Stand p l e R s m args below meth c (({ U with heap := s₂.heap, slotsUsed := s₂.slotsUsed } : State).setVm s₂.vm) (locs ++ L) (cells + mc) (slots + ms) :=
    ⟨X.admits, X.cas, X.clock, X.frames, X.room, X.hears, X.method, X.code, (X.here.setHeapUsed s₂.heap s₂.slotsUsed).setVm hW'.alike, X.tail, State.WarmedH.trans X.warmed hW', X.limits, X.bytes, X.same.trans (hsame.setVm s.vm)⟩
  refine ⟨o, s₂, (({ U with heap := s₂.heap, slotsUsed := s₂.slotsUsed } : State).setVm s₂.vm), L, rfl, rfl, XT, hL, hO, fun v hv => ?_, fun q hv => ?_⟩
  · subst hv
    obtain ⟨c₂, i₂, len₂, hc₂, hd₂, hf₂⟩ := hend
    have hcc : c₂ = c := by
      have h9 : s₂.code? g.method = U.code? g.method := by
        rw [State.code?_eq, State.code?_eq, hW'.alike.method?]
      exact Option.some.inj (hc₂.symm.trans (h9.trans h.code))
    subst hcc
    have hlen : len₂ = len := by rw [hdg] at hd₂; cases hd₂; rfl
    subst hlen
    have hs₂ : s₂ = (({ U with heap := s₂.heap, slotsUsed := s₂.slotsUsed } : State).setVm s₂.vm).setTop { g with pc := g.pc + len₂, stack := v.toList ++ g.stack } := by
      refine e3.trans ?_
      rw [hf₂, State.calling_eq h.top, State.setFrames_setFrames, State.setTop_of_frames _ hr', hr]
      rfl
    rw [← hs₂]
    exact hsteps
  · subst hv
    have hf₂ : s₂.frames = .throwing q :: .java g :: U.frames.tail := hend
    have hs₂ : s₂ = ((({ U with heap := s₂.heap, slotsUsed := s₂.slotsUsed } : State).setVm s₂.vm).setTop g).pushFrame (.throwing q) := by
      refine e3.trans ?_
      rw [hf₂, State.calling_eq h.top, State.setFrames_setFrames, State.pushFrame, State.frames_setTop _ hr', State.setTop_of_frames _ hr', State.setFrames_setFrames, hr]
      rfl
    rw [← hs₂]
    exact hsteps
/-- how the caller goes on behind a call -/
theorem z_fin {tysY : List (ClassId × FieldType)} {pre wc suf : va_W} {postY : zRes → va_W → Prop} {mc ms : Nat} {H : Heap} {locs : List Loc} {ls : Array Slot} {U st₀ t T' : State} {L : List Loc} {o : Outcome} {S0 : State} {rest : List Value}
    (hP : va_P D cl ((pre ++ wc) ++ suf) H) (hD : va_D (va_A w0 s.heap.size) ((pre ++ wc) ++ suf)) (hS : va_S (va_A w0 s.heap.size) s.heap H locs) (hl : lv_has ls nL lv)
    (hU : U.heap = H) (h0 : st₀.heap = H) (hvm : s.WarmedH st₀.vm) (e1 : T'.heap = t.heap) (X' : Stand p l e R s m args below meth c T' (locs ++ L) (cells + mc) (slots + ms)) (hL : ∀ q ∈ L, va_A wc U.heap.size q.base) (hO : zO D cl (va_A wc U.heap.size) postY st₀ o t)
    (hret : ∀ v, o = .returned v → Steps p.tables e below S0 (T'.setTop (F0 m (pc + 3) ls (v.toList ++ rest)))) (hthr : ∀ q, o = .threw q → Steps p.tables e below S0 ((T'.setTop (F0 m pc ls rest)).pushFrame (.throwing q)))
    (kk : ∀ (v : Option Value) (w : va_W), postY (.inl v) w → zAt p l e R s m args below meth c D cl w0 nL (cells + mc) (slots + ms) Q ((pre ++ w) ++ suf) (pc + 3) lv (v.toList ++ rest))
    (kx : ∀ (E : String) (w : va_W), postY (.inr E) w → zX p l e R s m args below meth c D cl w0 nL (cells + mc) (slots + ms) Q ((pre ++ w) ++ suf) pc lv E) : ∃ t, Steps p.tables e below S0 t ∧ Q t := by
  rw [hU] at hL hO
  obtain ⟨hF, r, w, hpost, hPw, hDw, hR⟩ := hO
  have hfree : ∀ q, va_A wc H.size q → va_A w0 s.heap.size q := fun q hq => by
    rcases hq with ⟨k, e9, hk⟩ | hle
    · exact hD.2 (pre.length + k) (q, e9) (by rw [List.append_assoc, List.getElem?_append_right (Nat.le_add_right _ _), Nat.add_sub_cancel_left, List.getElem?_append_left (List.getElem?_eq_some_iff.mp hk).1]; exact hk)
    · exact Or.inr (Nat.le_trans hS.1 hle)
  have hkeep : ∀ q : Nat, q < H.size → ¬ va_A wc H.size q → t.heap[q]? = H[q]? := fun q h1 h2 => by
    have := hF.2 q (by rw [h0]; exact h1) h2
    rw [h0] at this; exact this
  have hz : H.size ≤ t.heap.size := by have := hF.1; rw [h0] at this; exact this
  obtain ⟨hP2, hD2⟩ := z_join hP hD hkeep hfree hPw hDw
  have hS2 : va_S (va_A w0 s.heap.size) s.heap t.heap (locs ++ L) := ⟨Nat.le_trans hS.1 hz, fun q h1 h2 => by
      rw [hkeep q (Nat.lt_of_lt_of_le h1 hS.1) (fun z => h2 (hfree q z))]; exact hS.2.1 q h1 h2, fun q hq => by
      rcases List.mem_append.mp hq with h | h
      · exact hS.2.2 q h
      · exact hfree _ (hL q h)⟩
  cases r with
  | inl v =>
    obtain ⟨t2, a1, b1⟩ := kk v w hpost t.heap (locs ++ L) ls hP2 hD2 hS2 hl T' e1 X'
    exact ⟨t2, (hret v hR).trans a1, b1⟩
  | inr E =>
    obtain ⟨q, ce, ho, hce, hcv, hcl⟩ := hR
    have hcl' : s.vm.findClass E = some ce.cls := by rw [← hcl, hvm.alike.findClass]
    obtain ⟨t2, a1, b1⟩ := kx E w hpost t.heap (locs ++ L) ls rest q ce hP2 hD2 hS2 hl hce hcv hcl' T' e1 X'
    exact ⟨t2, (hthr q ho).trans a1, b1⟩
theorem z_pre {pre wc suf : va_W} {av : List Value} {H : Heap} {locs : List Loc} {U : State} (Z : zC p s m args meth c cc nL own Ts D cl tys w0) (hP : va_P D cl ((pre ++ wc) ++ suf) H) (hD : va_D (va_A w0 s.heap.size) ((pre ++ wc) ++ suf)) (hS : va_S (va_A w0 s.heap.size) s.heap H locs) (hU : U.heap = H) (hW : s.WarmedH U.vm) : zPre D cl tys wc av av.toArray U :=
  ⟨rfl, by rw [hU]; exact zP_r (zP_l hP), va_K.moved hW.alike Z.2.2.2.2.2.1, (zD_r (zD_l hD)).weaken (fun _ _ _ _ => trivial), zT_to Z.2.2.2.2.2.2.2.2 Z.2.2.2.2.2.2.1 hW (fun q h1 h2 => by rw [hU]; exact hS.2.1 q h1 h2)⟩
/-- invokevirtual -/
theorem z_callV (Z : zC p s m args meth c cc nL own Ts D cl tys w0) {C : String} {y : MethodName} {bytes : ByteArray} {maxL mc ms n index ci q0 N : Nat} {ret : Option FieldType} {wsY wsY' : List Cond} {rm : Room} {pre wc suf : va_W} {b : Nat} {As rest : List Value} {postY : zRes → va_W → Prop} {fs : List Value} {T : u_T}
    (hM : zMet l y wsY rm D cl tys wc (.ref b :: As) postY mc ms) (hG : GoodIn Ts (wsV own index C y wsY)) (hw : wsY = Cond.code y bytes maxL ret :: wsY') (hrc : rm.cells = mc) (hrs : rm.slots = ms)
    (hd : y.cls = C ∧ y.cls ≠ "java/lang/invoke/MethodHandle" ∧ y.cls ≠ "java/lang/invoke/VarHandle" ∧ (parseMethodDescriptor y.desc).map (fun d => d.parameters.length) = some n) (hR : rm.frames + 1 ≤ R.frames ∧ 8 + (maxL + 11) + rm.locals ≤ R.locals)
    (hws : ws = (pre ++ wc) ++ suf) (he : wc[q0]? = some (b, .inr (ci, fs))) (hc : cl[ci]? = some (C, T, N)) (hn : As.length = n) (hst : st = As.reverse ++ .ref b :: rest) (hcat : (rest.map fun v => v.category).sum ≤ 8) (d : decode cc pc = .ok (.invokevirtual index, 3)) (hf : cells + mc ≤ R.cells ∧ slots + ms ≤ R.slots)
    (kx : ∀ (E : String) (w : va_W), postY (.inr E) w → zX p l e R s m args below meth c D cl w0 nL (cells + mc) (slots + ms) Q ((pre ++ w) ++ suf) pc lv E)
    (kk : ∀ (v : Option Value) (w : va_W), postY (.inl v) w → zAt p l e R s m args below meth c D cl w0 nL (cells + mc) (slots + ms) Q ((pre ++ w) ++ suf) (pc + 3) lv (v.toList ++ rest)) : zAt p l e R s m args below meth c D cl w0 nL cells slots Q ws pc lv st := by
  subst hws; subst hst
  intro H locs ls hP hD hS hl T0 hT X
  obtain ⟨⟨-, -, hfr, hlo, hwsY, -, hcode, hini, hy, hlen, hlink⟩, hinst, hsel⟩ := cwV (R := R) (bytes := bytes) (maxL := maxL) (ret := ret) n Z.2.2.2.2.1 hG hw hrc hrs hd hR
  obtain ⟨cellB, hcB, hoB, hclB⟩ := va_recv Z.2.2.2.2.2.1 (zP_r (zP_l hP)) hc he
  obtain ⟨mk, methM, hnamed, hmethM, hstM, habM⟩ := Cond.instanceMethod_spec hinst
  obtain ⟨methM', cM, hmethM', hcM, -, hlM, -, -, -, hsigM⟩ := Cond.code_spec hnamed hcode
  cases hmethM.symm.trans hmethM'
  obtain ⟨c2, r2, m2, q1, q2, q3, q4, kP, hkP, hkPi⟩ := Cond.selects_spec hsel
  cases hclB.symm.trans q1
  cases (State.methodFound?_of_named hnamed hy).symm.trans q2
  cases hnamed.symm.trans q3
  have hselP : selectMethod e.platform s.vm cellB.cls mk = .method mk := by rw [Launch.admits_selectMethod X.admits]; exact q4
  obtain ⟨vm₁, X₁, hstep₁⟩ := X.invokevirtual Z.1 Z.2.2.2.1 hlink hnamed hmethM hstM hkP hkPi hy (a := b) (cell := cellB) (by rw [hT]; exact hcB)
    (fun z h => by rw [h] at hoB; cases hoB) hselP hmethM habM hkP hkPi (g := F0 m pc ls (As.reverse ++ .ref b :: rest)) rfl (argsL := As) (rest := rest) (hn.trans (hlen _ hsigM)) rfl (by rw [Z.2.1]; exact d)
  have hsz : (F0 m pc ls rest).locals.size = c.maxLocals := hl.1.trans Z.2.2.1.symm
  have hWk : 2 * (F0 m pc ls rest).monitorRoom + (rest.map fun v => v.category).sum ≤ 8 := lv_room hcat
  obtain ⟨o, t, T', L, e1, e2, X', hL, hO, k1, k2⟩ := z_back (U := T0.setVm vm₁) (g := F0 m pc ls rest) (ig := .invokevirtual index) (len := 3) (mk := mk) hM hrc hrs hfr hlo hwsY
    (fun a' U hW => word_at hW (Or.inl (by first | rfl | simp [Cond.onTables, Cond.keeps, Cond.steady])) hini)
    (fun U mk' hW hn' => by
      obtain ⟨methY, cY, g1, g2, -, g4, -⟩ := Cond.code_spec hn' (hwsY (Cond.code y bytes maxL ret) (by rw [hw]; exact List.mem_cons_self) #[] U hW)
      exact ⟨methY, cY, g1, g2, g4⟩)
    X₁ rfl hsz (by rw [Z.2.1]; exact d) hWk (X₁.named hnamed) hf (z_pre Z hP hD hS (by exact hT) X₁.warmed)
  exact z_fin (tysY := tys) (U := T0.setVm vm₁) (st₀ := (T0.setVm vm₁).calling (F0 m pc ls rest) mk (Value.ref b :: As).toArray) hP hD hS hl hT hT X₁.warmed e1 X' hL hO
    (fun v hv => hstep₁ _ fun acts => by rw [doInvoke_state]; exact k1 v hv) (fun q hv => hstep₁ _ fun acts => by rw [doInvoke_state]; exact k2 q hv) kk kx
/-- invokestatic; its code with or without a table -/
theorem z_callS (Z : zC p s m args meth c cc nL own Ts D cl tys w0) {y : MethodName} {maxL mc ms n index : Nat} {wsY : List Cond} {rm : Room} {pre wc suf : va_W} {As rest : List Value} {postY : zRes → va_W → Prop}
    (hM : zMet l y wsY rm D cl tys wc As postY mc ms) (hG : GoodIn Ts wsY) (hcode : ∀ (a' : Array Value) (U : State), (∀ w ∈ wsY, w.before a' U = true) → ∃ mk methY cY, U.methodNamed? y = some mk ∧ U.vm.method? mk = some methY ∧ methY.code = some cY ∧ cY.maxLocals = maxL ∧ parseMethodDescriptor y.desc = some methY.sig)
    (hrc : rm.cells = mc) (hrs : rm.slots = ms) (hlink : Cond.methodLink own index y ∈ Ts) (hstat : Cond.static y ∈ Ts) (hini : Cond.initialized y.cls ∈ Ts)
    (hd : y.cls ≠ "java/lang/invoke/MethodHandle" ∧ y.cls ≠ "java/lang/invoke/VarHandle" ∧ (parseMethodDescriptor y.desc).map (fun d => d.parameters.length) = some n) (hR : rm.frames + 1 ≤ R.frames ∧ 8 + (maxL + 11) + rm.locals ≤ R.locals)
    (hws : ws = (pre ++ wc) ++ suf) (hn : As.length = n) (hst : st = As.reverse ++ rest) (hcat : (rest.map fun v => v.category).sum ≤ 8) (d : decode cc pc = .ok (.invokestatic index, 3)) (hf : cells + mc ≤ R.cells ∧ slots + ms ≤ R.slots)
    (kx : ∀ (E : String) (w : va_W), postY (.inr E) w → zX p l e R s m args below meth c D cl w0 nL (cells + mc) (slots + ms) Q ((pre ++ w) ++ suf) pc lv E)
    (kk : ∀ (v : Option Value) (w : va_W), postY (.inl v) w → zAt p l e R s m args below meth c D cl w0 nL (cells + mc) (slots + ms) Q ((pre ++ w) ++ suf) (pc + 3) lv (v.toList ++ rest)) : zAt p l e R s m args below meth c D cl w0 nL cells slots Q ws pc lv st := by
  subst hws; subst hst
  intro H locs ls hP hD hS hl T0 hT X
  have hwsY := pay_in Z.2.2.2.2.1 hG
  obtain ⟨mk, methM, cM, hnamed, hmethM, hcM, hlM, hsigM⟩ := hcode args s (fun w hw => hwsY w hw args s (State.WarmedH.refl s))
  have hstatic : methM.isStatic = true := Cond.static_spec hnamed hmethM (Z.2.2.2.2.1 _ hstat)
  obtain ⟨kP, hkP, -⟩ := className_of_methodNamed hnamed
  have hinitP : kP.init = .initialized := Cond.initialized_spec (findClass_of_methodNamed hnamed) hkP (Z.2.2.2.2.1 _ hini)
  have hlen : As.length = methM.sig.parameters.length := by
    have h2 := hd.2.2
    rw [hsigM] at h2
    exact hn.trans (Option.some.inj h2).symm
  obtain ⟨vm₁, X₁, hstep₁⟩ := X.invokestatic Z.1 Z.2.2.2.1 (Z.2.2.2.2.1 _ hlink) hnamed hmethM hstatic hkP hinitP ⟨hd.1, hd.2.1⟩ (g := F0 m pc ls (As.reverse ++ rest)) rfl (argsL := As) (rest := rest) hlen rfl (by rw [Z.2.1]; exact d)
  have hsz : (F0 m pc ls rest).locals.size = c.maxLocals := hl.1.trans Z.2.2.1.symm
  have hWk : 2 * (F0 m pc ls rest).monitorRoom + (rest.map fun v => v.category).sum ≤ 8 := lv_room hcat
  obtain ⟨o, t, T', L, e1, e2, X', hL, hO, k1, k2⟩ := z_back (U := T0.setVm vm₁) (g := F0 m pc ls rest) (ig := .invokestatic index) (len := 3) (mk := mk) (maxL := maxL) hM hrc hrs hR.1 hR.2 hwsY
    (fun a' U hW => word_at hW (Or.inl (by first | rfl | simp [Cond.onTables, Cond.keeps, Cond.steady])) (Z.2.2.2.2.1 _ hini))
    (fun U mk' hW hn' => by
      obtain ⟨mk2, methY, cY, g0, g1, g2, g4, -⟩ := hcode #[] U (fun w hw => hwsY w hw #[] U hW)
      cases Option.some.inj (g0.symm.trans hn')
      exact ⟨methY, cY, g1, g2, g4⟩)
    X₁ rfl hsz (by rw [Z.2.1]; exact d) hWk (X₁.named hnamed) hf (z_pre Z hP hD hS (by exact hT) X₁.warmed)
  exact z_fin (tysY := tys) (U := T0.setVm vm₁) (st₀ := (T0.setVm vm₁).calling (F0 m pc ls rest) mk As.toArray) hP hD hS hl hT hT X₁.warmed e1 X' hL hO
    (fun v hv => hstep₁ _ fun acts => by rw [doInvoke_state]; exact k1 v hv) (fun q hv => hstep₁ _ fun acts => by rw [doInvoke_state]; exact k2 q hv) kk kx
theorem z_code {y : MethodName} {bytes : ByteArray} {maxL : Nat} {ret : Option FieldType} {wsY wsY' : List Cond} (hw : wsY = Cond.code y bytes maxL ret :: wsY') (a' : Array Value) (U : State) (h : ∀ w ∈ wsY, w.before a' U = true) : ∃ mk methY cY, U.methodNamed? y = some mk ∧ U.vm.method? mk = some methY ∧ methY.code = some cY ∧ cY.maxLocals = maxL ∧ parseMethodDescriptor y.desc = some methY.sig := by
  have hc := h (Cond.code y bytes maxL ret) (by rw [hw]; exact List.mem_cons_self)
  obtain ⟨mk, hnamed⟩ := Cond.code_named hc
  obtain ⟨methY, cY, g1, g2, -, g4, -, -, -, g8⟩ := Cond.code_spec hnamed hc
  exact ⟨mk, methY, cY, hnamed, g1, g2, g4, g8⟩
theorem z_codeW {y : MethodName} {bytes : ByteArray} {maxL : Nat} {ret : Option FieldType} {hh : List (Nat × Nat × Nat × Nat)} {wsY wsY' : List Cond} (hw : wsY = Cond.codeWith y bytes maxL ret hh :: wsY') (a' : Array Value) (U : State) (h : ∀ w ∈ wsY, w.before a' U = true) : ∃ mk methY cY, U.methodNamed? y = some mk ∧ U.vm.method? mk = some methY ∧ methY.code = some cY ∧ cY.maxLocals = maxL ∧ parseMethodDescriptor y.desc = some methY.sig := by
  have hc := h (Cond.codeWith y bytes maxL ret hh) (by rw [hw]; exact List.mem_cons_self)
  obtain ⟨mk, methY, cY, hnamed, g1, g2, -, g4, -, -, -, g8⟩ := Cond.codeWith_spec hc
  exact ⟨mk, methY, cY, hnamed, g1, g2, g4, g8⟩
/-- invokespecial of a constructor of ours -/
theorem z_callI (Z : zC p s m args meth c cc nL own Ts D cl tys w0) {y : MethodName} {bytes : ByteArray} {maxL mc ms n index : Nat} {wsY wsY' : List Cond} {rm : Room} {pre wc suf : va_W} {b : Nat} {As rest : List Value} {postY : zRes → va_W → Prop}
    (hM : zMet l y wsY rm D cl tys wc (.ref b :: As) postY mc ms) (hG : GoodIn Ts wsY) (hw : wsY = Cond.code y bytes maxL none :: wsY')
    (hrc : rm.cells = mc) (hrs : rm.slots = ms) (hlink : Cond.methodLink own index y ∈ Ts) (hinst : Cond.instanceMethod y ∈ Ts) (hini : Cond.initialized y.cls ∈ Ts) (hy1 : y.name = "<init>")
    (hd : y.cls ≠ "java/lang/invoke/MethodHandle" ∧ y.cls ≠ "java/lang/invoke/VarHandle" ∧ (parseMethodDescriptor y.desc).map (fun d => d.parameters.length) = some n) (hR : rm.frames + 1 ≤ R.frames ∧ 8 + (maxL + 11) + rm.locals ≤ R.locals)
    (hws : ws = (pre ++ wc) ++ suf) (hn : As.length = n) (hst : st = As.reverse ++ .ref b :: rest) (hcat : (rest.map fun v => v.category).sum ≤ 8) (d : decode cc pc = .ok (.invokespecial index, 3)) (hf : cells + mc ≤ R.cells ∧ slots + ms ≤ R.slots)
    (kx : ∀ (E : String) (w : va_W), postY (.inr E) w → zX p l e R s m args below meth c D cl w0 nL (cells + mc) (slots + ms) Q ((pre ++ w) ++ suf) pc lv E)
    (kk : ∀ (v : Option Value) (w : va_W), postY (.inl v) w → zAt p l e R s m args below meth c D cl w0 nL (cells + mc) (slots + ms) Q ((pre ++ w) ++ suf) (pc + 3) lv (v.toList ++ rest)) : zAt p l e R s m args below meth c D cl w0 nL cells slots Q ws pc lv st := by
  subst hws; subst hst
  intro H locs ls hP hD hS hl T0 hT X
  have hwsY := pay_in Z.2.2.2.2.1 hG
  have hcode : (Cond.code y bytes maxL none).before args s = true := hwsY _ (by rw [hw]; exact List.mem_cons_self) args s (State.WarmedH.refl s)
  have hpl : e.platform.magicAccessors = ({} : Platform).magicAccessors := by rw [X.admits.platform]
  obtain ⟨mk, methM, cM, kP, vm₁, hnamed, hmethM, hcodeM, -, hlocalsM, -, hkP, -, hW₁, hstep₁⟩ := Steps.initColdArgs (e := e) X.here Z.1 X.warmed hpl Z.2.2.2.1 hy1 ⟨hd.1, hd.2.1⟩ (Z.2.2.2.2.1 _ hlink) (Z.2.2.2.2.1 _ hinst) hcode (f := F0 m pc ls (As.reverse ++ .ref b :: rest)) rfl (argsL := As) (rest := rest) (fun sig h => by
      have h2 := hd.2.2
      rw [h] at h2
      exact hn.trans (Option.some.inj h2).symm) rfl (by rw [Z.2.1]; exact d)
  have X₁ := X.noted hW₁
  have hsz : (F0 m pc ls rest).locals.size = c.maxLocals := hl.1.trans Z.2.2.1.symm
  have hWk : 2 * (F0 m pc ls rest).monitorRoom + (rest.map fun v => v.category).sum ≤ 8 := lv_room hcat
  obtain ⟨o, t, T', L, e1, e2, X', hL, hO, k1, k2⟩ := z_back (U := T0.setVm vm₁) (g := F0 m pc ls rest) (ig := .invokespecial index) (len := 3) (mk := mk) (maxL := maxL) hM hrc hrs hR.1 hR.2 hwsY
    (fun a' U hW => word_at hW (Or.inl (by first | rfl | simp [Cond.onTables, Cond.keeps, Cond.steady])) (Z.2.2.2.2.1 _ hini))
    (fun U mk' hW hn' => by
      obtain ⟨methY, cY, g1, g2, -, g4, -⟩ := Cond.code_spec hn' (hwsY (Cond.code y bytes maxL none) (by rw [hw]; exact List.mem_cons_self) #[] U hW)
      exact ⟨methY, cY, g1, g2, g4⟩)
    X₁ rfl hsz (by rw [Z.2.1]; exact d) hWk (X₁.named hnamed) hf (z_pre Z hP hD hS (by exact hT) X₁.warmed)
  exact z_fin (tysY := tys) (U := T0.setVm vm₁) (st₀ := (T0.setVm vm₁).calling (F0 m pc ls rest) mk (Value.ref b :: As).toArray) hP hD hS hl hT hT X₁.warmed e1 X' hL hO
    (fun v hv => hstep₁ _ fun acts => by rw [doInvoke_state]; exact k1 v hv) (fun q hv => hstep₁ _ fun acts => by rw [doInvoke_state]; exact k2 q hv) kk kx
/-- 'throw new cls("text")' in a method without a table -/
def zNo (w : Cond) : Bool := decide (w ≠ .isRef (.static Jvm.Bundle.tN "UNASSIGNED_STACK" Jvm.Bundle.steD)) && decide (w ≠ .isRef (.static Jvm.Bundle.tN "SUPPRESSED_SENTINEL" Jvm.Bundle.listD)) && decide (w ≠ .laysStatic Jvm.Bundle.tN "UNASSIGNED_STACK" Jvm.Bundle.steD) && decide (w ≠ .laysStatic Jvm.Bundle.tN "SUPPRESSED_SENTINEL" Jvm.Bundle.listD)
theorem z_own {L : List Cond} (hz : zT s) (h : ∀ w ∈ L.filter zNo, w.before args s = true) : ∀ w ∈ L, w.before args s = true := by
  intro w hw
  obtain ⟨⟨a1, -, a3⟩, ⟨b1, -, b3⟩, -⟩ := id hz
  by_cases e1 : w = .isRef (.static Jvm.Bundle.tN "UNASSIGNED_STACK" Jvm.Bundle.steD)
  · rw [e1]; exact a3
  by_cases e2 : w = .isRef (.static Jvm.Bundle.tN "SUPPRESSED_SENTINEL" Jvm.Bundle.listD)
  · rw [e2]; exact b3
  by_cases e3 : w = .laysStatic Jvm.Bundle.tN "UNASSIGNED_STACK" Jvm.Bundle.steD
  · rw [e3]; exact a1
  by_cases e4 : w = .laysStatic Jvm.Bundle.tN "SUPPRESSED_SENTINEL" Jvm.Bundle.listD
  · rw [e4]; exact b1
  exact h w (List.mem_filter.mpr ⟨hw, by simp [zNo, e1, e2, e3, e4]⟩)
/-- this frame, as if its method were called in the heap as it is now -/
theorem z_base {T : State} {locs : List Loc} (X : Stand p l e R s m args below meth c T locs cells slots) (hc : cells + 1 ≤ R.cells) (hs : slots + 6 ≤ R.slots) :
    Stand p l e { frames := R.frames, locals := R.locals, cells := 1, slots := 6 } ((T.setVm s.vm).setFrames (.invoking m args :: below)) m args below meth c T [] 0 0 := by
  obtain ⟨g₀, hg0⟩ := Option.isSome_iff_exists.mp (show (T.setVm s.vm).topJava?.isSome from X.here.top)
  obtain ⟨r, hr⟩ := State.topJava?_eq_some.mp hg0
  obtain ⟨t, ht, -⟩ := State.frames_cons hr
  have hF : ((T.setVm s.vm).setFrames (.invoking m args :: below)).frames = .invoking m args :: below := State.frames_setFrames _ (State.cur_lt_of_frames hr)
  have hl9 : e.platform.stackLimits (T.setVm s.vm).me = e.platform.stackLimits s.me := X.limits
  have hb9 : (T.setVm s.vm).me.stackBytes = s.me.stackBytes := X.bytes
  have hdr : T.heap.toList.drop T.heap.size = [] := List.drop_eq_nil_of_le (Nat.le_of_eq Array.length_toList)
  have hroom : ((T.setVm s.vm).setFrames (.invoking m args :: below)).hasRoom e.platform { frames := R.frames, locals := R.locals, cells := 1, slots := 6 } = true := by
    have h := X.room
    have hU : ((T.setVm s.vm).setFrames (.invoking m args :: below)).localsInUse = s.localsInUse := by
      rw [State.localsInUse_invoking hF (meth := meth) (c := c) X.method X.code, State.localsInUse_invoking X.frames X.method X.code]
    simp only [State.hasRoom, Bool.and_eq_true, decide_eq_true_eq] at h ⊢
    obtain ⟨⟨⟨⟨h1, h2, h3, h4, h5, h6⟩, h7⟩, h8⟩, h9⟩ := h
    rw [X.frames, List.length_cons] at h2 h3
    have q1 := X.heapSize
    have q2 := X.used
    simp only [hF, hU, List.length_cons, State.stackLimits_setFrames, State.stackBytes_setFrames, hl9, hb9]
    refine ⟨⟨⟨⟨by omega, by omega, by omega, by omega, by omega, h6⟩, ?_⟩, ?_⟩, X.book⟩
    · show T.heap.size + 1 ≤ e.platform.maxCells
      omega
    · show T.slotsUsed + 6 ≤ e.platform.maxSlots
      omega
  have hsame : ((T.setVm s.vm).setFrames (.invoking m args :: below)).sameButNew (T.setVm s.vm) [] 0 0 := by
    refine ⟨?_, Nat.le_refl _, Nat.le_refl _, ?_, ?_, fun a c9 h9 => ⟨c9, h9, rfl, rfl, fun _ _ => rfl⟩⟩
    · show T.setVm s.vm = { ((T.setVm s.vm).setFrames (.invoking m args :: below)).setFrames (T.setVm s.vm).frames with heap := T.heap, slotsUsed := T.slotsUsed }
      rw [State.setFrames_setFrames, State.setFrames_self ht]
      rfl
    · show T.slotsUsed = T.slotsUsed + ((T.heap.toList.drop T.heap.size).map (·.slots.size)).sum
      rw [hdr]; rfl
    · show ((T.heap.toList.drop T.heap.size).map (·.slots.size)).sum ≤ 0
      rw [hdr]; exact Nat.le_refl _
  exact ⟨X.admits, X.cas, X.clock, hF, hroom, X.hears, X.method, X.code, X.here, X.tail, X.warmed, by rw [State.stackLimits_setFrames]; rfl, by rw [State.stackBytes_setFrames]; rfl, hsame⟩
theorem z_tab {u U : State} {w : Cond} {a1 a2 : Array Value} (hv : u.vm = U.vm) (hg : (w.onTables || goodWord w) = true) (h : w.before a1 u = true) : w.before a2 U = true := by
  rcases Bool.or_eq_true _ _ ▸ hg with hg | hg
  · exact va_tabs hg hv h
  · exact word_at (by rw [← hv]; exact State.WarmedH.refl u) (good_of_word hg) h
theorem z_throw (Z : zC p s m args meth c cc nL own Ts D cl tys w0) (hlt : l.stackTraces = false) {cls text : String} {names : List String} {ik is ic mc ms : Nat} {post : zRes → va_W → Prop}
    (hcls : Jvm.Bundle.fit cls = true) (hnames : ∀ n ∈ names, Jvm.Bundle.fit n = true) (hstr : (own, is, text) ∈ zStrs) (hat : ∀ w ∈ Cond.classLink own ik cls :: Cond.initialized cls :: (Jvm.Bundle.ownAtoms own ic cls names).filter zNo, ((w ∈ Ts) ∨ zWk w = true) ∧ (w.onTables || goodWord w) = true)
    (d0 : decode cc pc = .ok (.new ik, 3)) (d3 : decode cc (pc + 3) = .ok (.dup, 1)) (d4 : decode cc (pc + 4) = .ok (.ldc is, 2)) (d6 : decode cc (pc + 6) = .ok (.invokespecial ic, 3)) (d9 : decode cc (pc + 9) = .ok (.athrow, 1))
    (hout : ∀ x ∈ c.exceptionTable.toList, covers x (pc + 9) = false)
    (hRframes : names.length + 3 < R.frames) (hRlocals : 13 * (names.length + 1) + 43 ≤ R.locals) (hRcells : cells + 1 ≤ R.cells) (hRslots : slots + 6 ≤ R.slots) (hc : cells + 1 ≤ mc) (hs : slots + 6 ≤ ms) (hq : post (.inr cls) ws) :
    zAt p l e R s m args below meth c D cl w0 nL cells slots (zEnd below D cl w0 post s mc ms) ws pc lv [] := by
  intro H locs ls hP hD hS hl T hT X
  have htr : e.platform.stackTraces = false := (show e.platform.stackTraces = l.stackTraces by rw [X.admits.platform]).trans hlt
  have Y := z_base X hRcells hRslots
  obtain ⟨s', hA⟩ : ∃ z, z = (T.setVm s.vm).setFrames (.invoking m args :: below) := ⟨_, rfl⟩
  rw [← hA] at Y
  have hvm : s'.vm = s.vm := by rw [hA]; rfl
  have hhp : s'.heap = H := by rw [hA]; exact hT
  have hW0 : s.WarmedH s'.vm := by rw [hvm]; exact State.WarmedH.refl s
  have hts : ∀ w ∈ Cond.classLink own ik cls :: Cond.initialized cls :: (Jvm.Bundle.ownAtoms own ic cls names).filter zNo, w.before args s' = true := fun w hw => z_tab hvm.symm (hat w hw).2 ((hat w hw).1.elim (Z.2.2.2.2.1 w) (zWk_at Z.2.2.2.2.2.2.2.2))
  have hzT : zT s' := zT_to Z.2.2.2.2.2.2.2.2 Z.2.2.2.2.2.2.1 hW0 (fun q h1 h2 => by rw [hhp]; exact hS.2.1 q h1 h2)
  have hAt : ∀ w ∈ Jvm.Bundle.ownAtoms own ic cls names, w.before args s' = true := z_own hzT (fun w hw => hts w (List.mem_cons_of_mem _ (List.mem_cons_of_mem _ hw)))
  have hown' : s'.vm.findClass own = some m.cls := by rw [hvm]; exact Z.2.2.2.1
  have hins : (Cond.instantiable cls 6).before args s' = true := hAt _ (by simp [Jvm.Bundle.ownAtoms])
  obtain ⟨vm₁, cX, kX, hfX, hkX, -, -, X₁, st1⟩ := Y.newCold Z.1 (own := own) (C := cls) (index := ik) (n := 6) hown' (hts _ List.mem_cons_self) hins (hts _ (List.mem_cons_of_mem _ List.mem_cons_self))
    (g := F0 m pc ls []) rfl (by rw [Z.2.1]; exact d0) (Nat.le_refl _) (Nat.le_refl _)
  generalize hT1 : (T.setVm vm₁).pushCell { cls := cX, slots := kX.instanceTypes.map defaultValue, vm := .none } = T1 at X₁ st1
  have hcellA : T1.heap[T.heap.size]? = some (freshCell cX kX) := by rw [← hT1]; exact State.heap_pushCell_size _ _
  have d3' : decode c.code (pc + 3) = .ok (.dup, 1) := by rw [Z.2.1]; exact d3
  have d4' : decode c.code (pc + 4) = .ok (.ldc is, 2) := by rw [Z.2.1]; exact d4
  obtain ⟨sa, hstr'⟩ := hzT.2.2.1 _ hstr
  have hcat : (Value.ref T.heap.size).category = 1 := rfl
  obtain ⟨U, hsteps, hrun, hend, hW, hsame, ce, hce, hO⟩ := X₁.ctorThrowS Z.1 htr (own := own) (cls := cls) (names := names) (ic := ic) hown' hcls hnames hAt (fun x hx => nomatch hx) hfX hkX hcellA (by rw [hhp, hT]; exact Nat.le_refl _) (msg := .ref sa) rfl
    (g := { method := m, pc := pc + 6, locals := ls, stack := .ref sa :: .ref T.heap.size :: .ref T.heap.size :: [], locked := none }) rfl (hl.1.trans Z.2.2.1.symm) rfl rfl (rest := []) rfl
    (by rw [Z.2.1]; exact d6) (by rw [Z.2.1]; exact d9) hout hRframes (by simp only [List.map_cons, List.map_nil, List.sum_cons, List.sum_nil, hcat]; show 2 * (0 : Nat) + _ + _ ≤ _; omega) Z.2.2.2.2.2.2.2.1
  have hWs : s.WarmedH U.vm := State.WarmedH.trans hW0 hW
  have hcl : s.vm.findClass cls = some ce.cls := by
    have h9 := hO.cls
    rw [hvm] at h9
    exact h9
  obtain ⟨f1, f2⟩ : H.size ≤ U.heap.size ∧ ∀ q : Nat, q < H.size → U.heap[q]? = H[q]? := by
    obtain ⟨-, h2, -, -, -, h6⟩ := hsame
    rw [← hhp]
    refine ⟨h2, fun q hq => ?_⟩
    obtain ⟨c9, e1, e2, e3, e4⟩ := h6 q _ (Array.getElem?_eq_getElem hq)
    have hs9 : c9.slots = (s'.heap[q]).slots := Array.ext_getElem? fun i => e4 i (fun hm => nomatch hm)
    have h9 : c9 = s'.heap[q] := by
      rw [hs9] at e2
      exact e2
    have e5 : U.heap[q]? = some c9 := e1
    rw [e5, h9, Array.getElem?_eq_getElem hq]
  have hall : s.sameButNew ({ U with vm := s.vm } : State) locs mc ms := by
    subst hA
    obtain ⟨e1, e2⟩ := hsame
    rw [State.setFrames_setFrames] at e1
    have h2 : (T.setVm s.vm).sameButNew ({ U with vm := s.vm } : State) [] (0 + 1) (0 + 6) := ⟨e1, e2⟩
    have h3 := X.same.trans h2
    rw [List.append_nil] at h3
    exact h3.mono hc hs
  refine ⟨U, ?_, .threw T.heap.size, hrun, hend, ⟨⟨Nat.le_trans hS.1 f1, fun q h1 h2 => by rw [f2 q (Nat.lt_of_lt_of_le h1 hS.1)]; exact hS.2.1 q h1 h2⟩, .inr cls, ws, hq, hP.kept (fun k q hk => f2 q.1 (hP k q hk).lt), hD, T.heap.size, ce, rfl, hce, hO.vm, hcl⟩, hWs, locs, hall, hS.2.2⟩
  refine st1 _ ?_
  show Steps p.tables e below (T1.setTop { method := m, pc := pc + 3, locals := ls, stack := .ref T.heap.size :: [], locked := none }) _
  jvm_step X₁.here [X₁.here.top, Z.1, d3', Value.category]
  exact X₁.ldcString Z.1 (own := own) (text := text) (index := is) (a := sa) hown' hstr'.1 hstr'.2
    (g := { method := m, pc := pc + 4, locals := ls, stack := .ref T.heap.size :: .ref T.heap.size :: [], locked := none }) rfl d4' _ hsteps
end ZE
section ZM
variable {l : Launch} {y : MethodName} {ws ws' : List Cond} {rm : Room} {D : va_G} {cl : List vw_C} {tys : List (ClassId × FieldType)} {w0 : va_W} {av : List Value} {post : zRes → va_W → Prop} {mc ms : Nat} {cc : ByteArray} {maxL : Nat} {ret : Option FieldType}
/-- a contract out of the walk of a body -/
theorem z_meth (hy : plainName y.cls = true) (hw : ws = Cond.code y cc maxL ret :: ws') (hlen : (lg_sl av).length ≤ maxL)
    (body : ∀ (p : Program) (e : Env) (s : State) (m : MethodId) (args : Array Value) (below : List Frame) (meth : Method) (c : Code), zC p s m args meth c cc maxL y.cls ws D cl tys w0 → meth.sig.returnType = ret → meth.name = y.name → (∀ (pc : Nat), ∀ x ∈ c.exceptionTable.toList, covers x pc = false) →
      zAt p l e rm s m args below meth c D cl w0 maxL 0 0 (zEnd below D cl w0 post s mc ms) w0 0 (lv_args 0 av) []) : zMet l y ws rm D cl tys w0 av post mc ms := by
  refine Jvm.Free.MetFree.of_bodyS (code := cc) (maxLocals := maxL) (ret := ret) hy ?_ ?_
  · intro args s m h hn
    obtain ⟨meth, c, h1, h2, h3, h4, h5, h6, -, -⟩ := Cond.code_spec hn (atoms_spec (ws := ws) h _ (by rw [hw]; exact List.mem_cons_self))
    exact ⟨meth, c, h1, h2, h3, h4, h5, h6⟩
  · intro p e s m args below meth c s₁ B hml hP _
    have hh0 : s₁.heap = s.heap := by rw [B.state]; rfl
    obtain ⟨ha, hP0, hK, hD0, hzT⟩ := hP
    have ht : ∀ (pc : Nat), ∀ x ∈ c.exceptionTable.toList, covers x pc = false := by
      obtain ⟨meth9, c9, h1, h2, -, -, -, -, h7, -⟩ := Cond.code_spec B.named (atoms_spec (ws := ws) B.pre _ (by rw [hw]; exact List.mem_cons_self))
      cases Option.some.inj (h1.symm.trans B.method)
      cases Option.some.inj (h2.symm.trans (Stand.of_body B).code)
      intro pc x hx
      rw [Array.isEmpty_iff.mp h7] at hx
      cases hx
    have k := body p e s m args below meth c ⟨B.exec, B.bytes, hml, findClass_of_methodNamed B.named, atoms_spec (ws := ws) B.pre, hK, hP0, B.notSynchronized, hzT⟩ B.returns (name_of_methodNamed B.named B.method).1 ht
    have hl := lv_entry av (n := maxL) hlen
    obtain ⟨t, a1, o, b1, b2, b3, b4⟩ := k s.heap [] _ hP0 hD0.self va_S.rf hl s₁ hh0 (Stand.of_body B)
    refine ⟨t, o, ?_, b1, b2, b3, b4⟩
    rw [ha, lg_entry_eq]
    exact a1
/-- .. of a body with a table -/
theorem z_methW {hh : List (Nat × Nat × Nat × Nat)} (hy : plainName y.cls = true) (hw : ws = Cond.codeWith y cc maxL ret hh :: ws') (hlen : (lg_sl av).length ≤ maxL)
    (body : ∀ (p : Program) (e : Env) (s : State) (m : MethodId) (args : Array Value) (below : List Frame) (meth : Method) (c : Code), zC p s m args meth c cc maxL y.cls ws D cl tys w0 → meth.sig.returnType = ret → c.exceptionTable.toList = hh.map (fun q => (⟨q.1, q.2.1, q.2.2.1, q.2.2.2⟩ : ExceptionTableEntry)) →
      zAt p l e rm s m args below meth c D cl w0 maxL 0 0 (zEnd below D cl w0 post s mc ms) w0 0 (lv_args 0 av) []) : zMet l y ws rm D cl tys w0 av post mc ms := by
  refine Jvm.Free.MetFree.of_bodyS (code := cc) (maxLocals := maxL) (ret := ret) hy ?_ ?_
  · intro args s m h hn
    obtain ⟨m9, meth, c, hn9, h1, h2, h3, h4, -, h5, h6, -⟩ := Cond.codeWith_spec (atoms_spec (ws := ws) h _ (by rw [hw]; exact List.mem_cons_self))
    cases hn.symm.trans hn9
    exact ⟨meth, c, h1, h2, h3, h4, h5, h6⟩
  · intro p e s m args below meth c s₁ B hml hP _
    have hh0 : s₁.heap = s.heap := by rw [B.state]; rfl
    obtain ⟨ha, hP0, hK, hD0, hzT⟩ := hP
    have ht : c.exceptionTable.toList = hh.map (fun q => (⟨q.1, q.2.1, q.2.2.1, q.2.2.2⟩ : ExceptionTableEntry)) := by
      obtain ⟨m9, meth9, c9, hn9, h1, h2, -, -, h6, -⟩ := Cond.codeWith_spec (atoms_spec (ws := ws) B.pre _ (by rw [hw]; exact List.mem_cons_self))
      cases Option.some.inj (hn9.symm.trans B.named)
      cases Option.some.inj (h1.symm.trans B.method)
      cases Option.some.inj (h2.symm.trans (Stand.of_body B).code)
      rw [← h6, List.map_map]
      exact (List.map_id _).symm
    have k := body p e s m args below meth c ⟨B.exec, B.bytes, hml, findClass_of_methodNamed B.named, atoms_spec (ws := ws) B.pre, hK, hP0, B.notSynchronized, hzT⟩ B.returns ht
    have hl := lv_entry av (n := maxL) hlen
    obtain ⟨t, a1, o, b1, b2, b3, b4⟩ := k s.heap [] _ hP0 hD0.self va_S.rf hl s₁ hh0 (Stand.of_body B)
    refine ⟨t, o, ?_, b1, b2, b3, b4⟩
    rw [ha, lg_entry_eq]
    exact a1
end ZM
end
section
/-! the ways in which a method ends: int or void, its world as it was or changed -/
def qi0 (w0 : va_W) (P : Int32 → Prop) (X : String → Prop) : zRes → va_W → Prop := fun r w => w = w0 ∧ (match r with | .inl (some (.int v)) => P v | .inl _ => False | .inr E => X E)
def qv0 (w0 : va_W) (P : Prop) (X : String → Prop) : zRes → va_W → Prop := fun r w => w = w0 ∧ (match r with | .inl none => P | .inl (some _) => False | .inr E => X E)
def qi {S : Type} (f : S → va_W) (P : Int32 → S → Prop) (X : String → S → Prop) : zRes → va_W → Prop := fun r w => ∃ u, w = f u ∧ (match r with | .inl (some (.int v)) => P v u | .inl _ => False | .inr E => X E u)
def qv {S : Type} (f : S → va_W) (P : S → Prop) (X : String → S → Prop) : zRes → va_W → Prop := fun r w => ∃ u, w = f u ∧ (match r with | .inl none => P u | .inl (some _) => False | .inr E => X E u)
def noX : String → Prop := fun _ => False
def noXs {S : Type} : String → S → Prop := fun _ _ => False
/-- what a call of y asks of the words -/
def okV (Ts : List Cond) (own : String) (index : Nat) (C : String) (y : MethodName) (bytes : ByteArray) (maxL : Nat) (ret : Option FieldType) (wsY : List Cond) (n : Nat) : Prop :=
  GoodIn Ts (wsV own index C y wsY) ∧ (∃ ws', wsY = Cond.code y bytes maxL ret :: ws') ∧ y.cls = C ∧ y.cls ≠ "java/lang/invoke/MethodHandle" ∧ y.cls ≠ "java/lang/invoke/VarHandle" ∧ (parseMethodDescriptor y.desc).map (fun d => d.parameters.length) = some n
def okS (Ts : List Cond) (own : String) (index : Nat) (y : MethodName) (maxL : Nat) (wsY : List Cond) (n : Nat) : Prop :=
  GoodIn Ts wsY ∧ (∀ (a' : Array Value) (U : State), (∀ w ∈ wsY, w.before a' U = true) → ∃ mk methY cY, U.methodNamed? y = some mk ∧ U.vm.method? mk = some methY ∧ methY.code = some cY ∧ cY.maxLocals = maxL ∧ parseMethodDescriptor y.desc = some methY.sig) ∧ Cond.methodLink own index y ∈ Ts ∧ Cond.static y ∈ Ts ∧ Cond.initialized y.cls ∈ Ts ∧ y.cls ≠ "java/lang/invoke/MethodHandle" ∧ y.cls ≠ "java/lang/invoke/VarHandle" ∧ (parseMethodDescriptor y.desc).map (fun d => d.parameters.length) = some n
section ZV
variable {p : Program} {l : Launch} {e : Env} {R : Room} {s : State} {m : MethodId} {args : Array Value} {below : List Frame} {meth : Method} {c : Code} {cells slots nL : Nat} {Q : State → Prop} {D : va_G} {cl : List vw_C} {tys : List (ClassId × FieldType)} {w0 : va_W} {cc : ByteArray} {own : String} {Ts : List Cond} {ws ws' pre wc suf : va_W} {pc : Nat} {lv lv' : List (Nat × Value)} {st : List Value}
variable {C : String} {y : MethodName} {bytes : ByteArray} {maxL mc ms n index ci N : Nat} {ret : Option FieldType} {wsY : List Cond} {rm : Room} {b : Nat} {As rest : List Value} {fs : List Value} {T : u_T}
theorem z_Vi0 (Z : zC p s m args meth c cc nL own Ts D cl tys w0) {P : Int32 → Prop} {X : String → Prop} (hM : zMet l y wsY rm D cl tys wc (.ref b :: As) (qi0 wc P X) mc ms) (ok : okV Ts own index C y bytes maxL ret wsY n) (hrc : rm.cells = mc) (hrs : rm.slots = ms) (hR : rm.frames + 1 ≤ R.frames ∧ 8 + (maxL + 11) + rm.locals ≤ R.locals)
    (hws : ws = (pre ++ wc) ++ suf) (he : wc[0]? = some (b, .inr (ci, fs))) (hc : cl[ci]? = some (C, T, N)) (hn : As.length = n) (hst : st = As.reverse ++ .ref b :: rest) (hcat : (rest.map fun v => v.category).sum ≤ 8) (d : decode cc pc = .ok (.invokevirtual index, 3)) (hf : cells + mc ≤ R.cells ∧ slots + ms ≤ R.slots)
    (kx : ∀ E : String, X E → zX p l e R s m args below meth c D cl w0 nL (cells + mc) (slots + ms) Q ((pre ++ wc) ++ suf) pc lv E) (kk : ∀ v : Int32, P v → zAt p l e R s m args below meth c D cl w0 nL (cells + mc) (slots + ms) Q ((pre ++ wc) ++ suf) (pc + 3) lv (.int v :: rest)) : zAt p l e R s m args below meth c D cl w0 nL cells slots Q ws pc lv st := by
  obtain ⟨hG, ⟨wsY', hw⟩, hd⟩ := ok
  exact z_callV Z hM hG hw hrc hrs hd hR hws he hc hn hst hcat d hf (fun E w h => by obtain ⟨rfl, h⟩ := h; exact kx E h) (fun v w h => by
    obtain ⟨rfl, h⟩ := h
    rcases v with _ | v
    · exact h.elim
    · cases v <;> first | exact h.elim | (exact kk _ h))
theorem z_Wi0 (Z : zC p s m args meth c cc nL own Ts D cl tys w0) {P : Int32 → Prop} {X : String → Prop} (hM : zMet l y wsY rm D cl tys ws (.ref b :: As) (qi0 ws P X) mc ms) (ok : okV Ts own index C y bytes maxL ret wsY n) (hrc : rm.cells = mc) (hrs : rm.slots = ms) (hR : rm.frames + 1 ≤ R.frames ∧ 8 + (maxL + 11) + rm.locals ≤ R.locals)
    (he : ws[0]? = some (b, .inr (ci, fs))) (hc : cl[ci]? = some (C, T, N)) (hn : As.length = n) (hst : st = As.reverse ++ .ref b :: rest) (hcat : (rest.map fun v => v.category).sum ≤ 8) (d : decode cc pc = .ok (.invokevirtual index, 3)) (hf : cells + mc ≤ R.cells ∧ slots + ms ≤ R.slots)
    (kx : ∀ E : String, X E → zX p l e R s m args below meth c D cl w0 nL (cells + mc) (slots + ms) Q ws pc lv E) (kk : ∀ v : Int32, P v → zAt p l e R s m args below meth c D cl w0 nL (cells + mc) (slots + ms) Q ws (pc + 3) lv (.int v :: rest)) : zAt p l e R s m args below meth c D cl w0 nL cells slots Q ws pc lv st :=
  z_Vi0 (pre := []) (suf := []) Z hM ok hrc hrs hR (by rw [List.nil_append, List.append_nil]) he hc hn hst hcat d hf (fun E h => by rw [List.nil_append, List.append_nil]; exact kx E h) (fun v h => by rw [List.nil_append, List.append_nil]; exact kk v h)
theorem z_Ti0 (Z : zC p s m args meth c cc nL own Ts D cl tys w0) {P : Int32 → Prop} {X : String → Prop} (hM : zMet l y wsY rm D cl tys wc As (qi0 wc P X) mc ms) (ok : okS Ts own index y maxL wsY n) (hrc : rm.cells = mc) (hrs : rm.slots = ms) (hR : rm.frames + 1 ≤ R.frames ∧ 8 + (maxL + 11) + rm.locals ≤ R.locals)
    (hws : ws = (pre ++ wc) ++ suf) (hn : As.length = n) (hst : st = As.reverse ++ rest) (hcat : (rest.map fun v => v.category).sum ≤ 8) (d : decode cc pc = .ok (.invokestatic index, 3)) (hf : cells + mc ≤ R.cells ∧ slots + ms ≤ R.slots)
    (kx : ∀ E : String, X E → zX p l e R s m args below meth c D cl w0 nL (cells + mc) (slots + ms) Q ((pre ++ wc) ++ suf) pc lv E) (kk : ∀ v : Int32, P v → zAt p l e R s m args below meth c D cl w0 nL (cells + mc) (slots + ms) Q ((pre ++ wc) ++ suf) (pc + 3) lv (.int v :: rest)) : zAt p l e R s m args below meth c D cl w0 nL cells slots Q ws pc lv st := by
  obtain ⟨hG, hco, h1, h2, h3, hd⟩ := ok
  exact z_callS Z hM hG hco hrc hrs h1 h2 h3 hd hR hws hn hst hcat d hf (fun E w h => by obtain ⟨rfl, h⟩ := h; exact kx E h) (fun v w h => by
    obtain ⟨rfl, h⟩ := h
    rcases v with _ | v
    · exact h.elim
    · cases v <;> first | exact h.elim | (exact kk _ h))
theorem z_Vv0 (Z : zC p s m args meth c cc nL own Ts D cl tys w0) {P : Prop} {X : String → Prop} (hM : zMet l y wsY rm D cl tys wc (.ref b :: As) (qv0 wc P X) mc ms) (ok : okV Ts own index C y bytes maxL ret wsY n) (hrc : rm.cells = mc) (hrs : rm.slots = ms) (hR : rm.frames + 1 ≤ R.frames ∧ 8 + (maxL + 11) + rm.locals ≤ R.locals)
    (hws : ws = (pre ++ wc) ++ suf) (he : wc[0]? = some (b, .inr (ci, fs))) (hc : cl[ci]? = some (C, T, N)) (hn : As.length = n) (hst : st = As.reverse ++ .ref b :: rest) (hcat : (rest.map fun v => v.category).sum ≤ 8) (d : decode cc pc = .ok (.invokevirtual index, 3)) (hf : cells + mc ≤ R.cells ∧ slots + ms ≤ R.slots)
    (kx : ∀ E : String, X E → zX p l e R s m args below meth c D cl w0 nL (cells + mc) (slots + ms) Q ((pre ++ wc) ++ suf) pc lv E) (kk : P → zAt p l e R s m args below meth c D cl w0 nL (cells + mc) (slots + ms) Q ((pre ++ wc) ++ suf) (pc + 3) lv rest) : zAt p l e R s m args below meth c D cl w0 nL cells slots Q ws pc lv st := by
  obtain ⟨hG, ⟨wsY', hw⟩, hd⟩ := ok
  exact z_callV Z hM hG hw hrc hrs hd hR hws he hc hn hst hcat d hf (fun E w h => by obtain ⟨rfl, h⟩ := h; exact kx E h) (fun v w h => by
    obtain ⟨rfl, h⟩ := h
    rcases v with _ | v
    · exact kk h
    · exact h.elim)
theorem z_Wv0 (Z : zC p s m args meth c cc nL own Ts D cl tys w0) {P : Prop} {X : String → Prop} (hM : zMet l y wsY rm D cl tys ws (.ref b :: As) (qv0 ws P X) mc ms) (ok : okV Ts own index C y bytes maxL ret wsY n) (hrc : rm.cells = mc) (hrs : rm.slots = ms) (hR : rm.frames + 1 ≤ R.frames ∧ 8 + (maxL + 11) + rm.locals ≤ R.locals)
    (he : ws[0]? = some (b, .inr (ci, fs))) (hc : cl[ci]? = some (C, T, N)) (hn : As.length = n) (hst : st = As.reverse ++ .ref b :: rest) (hcat : (rest.map fun v => v.category).sum ≤ 8) (d : decode cc pc = .ok (.invokevirtual index, 3)) (hf : cells + mc ≤ R.cells ∧ slots + ms ≤ R.slots)
    (kx : ∀ E : String, X E → zX p l e R s m args below meth c D cl w0 nL (cells + mc) (slots + ms) Q ws pc lv E) (kk : P → zAt p l e R s m args below meth c D cl w0 nL (cells + mc) (slots + ms) Q ws (pc + 3) lv rest) : zAt p l e R s m args below meth c D cl w0 nL cells slots Q ws pc lv st :=
  z_Vv0 (pre := []) (suf := []) Z hM ok hrc hrs hR (by rw [List.nil_append, List.append_nil]) he hc hn hst hcat d hf (fun E h => by rw [List.nil_append, List.append_nil]; exact kx E h) (fun h => by rw [List.nil_append, List.append_nil]; exact kk h)
theorem z_Tv0 (Z : zC p s m args meth c cc nL own Ts D cl tys w0) {P : Prop} {X : String → Prop} (hM : zMet l y wsY rm D cl tys wc As (qv0 wc P X) mc ms) (ok : okS Ts own index y maxL wsY n) (hrc : rm.cells = mc) (hrs : rm.slots = ms) (hR : rm.frames + 1 ≤ R.frames ∧ 8 + (maxL + 11) + rm.locals ≤ R.locals)
    (hws : ws = (pre ++ wc) ++ suf) (hn : As.length = n) (hst : st = As.reverse ++ rest) (hcat : (rest.map fun v => v.category).sum ≤ 8) (d : decode cc pc = .ok (.invokestatic index, 3)) (hf : cells + mc ≤ R.cells ∧ slots + ms ≤ R.slots)
    (kx : ∀ E : String, X E → zX p l e R s m args below meth c D cl w0 nL (cells + mc) (slots + ms) Q ((pre ++ wc) ++ suf) pc lv E) (kk : P → zAt p l e R s m args below meth c D cl w0 nL (cells + mc) (slots + ms) Q ((pre ++ wc) ++ suf) (pc + 3) lv rest) : zAt p l e R s m args below meth c D cl w0 nL cells slots Q ws pc lv st := by
  obtain ⟨hG, hco, h1, h2, h3, hd⟩ := ok
  exact z_callS Z hM hG hco hrc hrs h1 h2 h3 hd hR hws hn hst hcat d hf (fun E w h => by obtain ⟨rfl, h⟩ := h; exact kx E h) (fun v w h => by
    obtain ⟨rfl, h⟩ := h
    rcases v with _ | v
    · exact kk h
    · exact h.elim)
theorem z_Vi (Z : zC p s m args meth c cc nL own Ts D cl tys w0) {S : Type} {f : S → va_W} {P : Int32 → S → Prop} {X : String → S → Prop} (hM : zMet l y wsY rm D cl tys wc (.ref b :: As) (qi f P X) mc ms) (ok : okV Ts own index C y bytes maxL ret wsY n) (hrc : rm.cells = mc) (hrs : rm.slots = ms) (hR : rm.frames + 1 ≤ R.frames ∧ 8 + (maxL + 11) + rm.locals ≤ R.locals)
    (hws : ws = (pre ++ wc) ++ suf) (he : wc[0]? = some (b, .inr (ci, fs))) (hc : cl[ci]? = some (C, T, N)) (hn : As.length = n) (hst : st = As.reverse ++ .ref b :: rest) (hcat : (rest.map fun v => v.category).sum ≤ 8) (d : decode cc pc = .ok (.invokevirtual index, 3)) (hf : cells + mc ≤ R.cells ∧ slots + ms ≤ R.slots)
    (kx : ∀ (E : String) (u : S), X E u → zX p l e R s m args below meth c D cl w0 nL (cells + mc) (slots + ms) Q ((pre ++ f u) ++ suf) pc lv E) (kk : ∀ (v : Int32) (u : S), P v u → zAt p l e R s m args below meth c D cl w0 nL (cells + mc) (slots + ms) Q ((pre ++ f u) ++ suf) (pc + 3) lv (.int v :: rest)) : zAt p l e R s m args below meth c D cl w0 nL cells slots Q ws pc lv st := by
  obtain ⟨hG, ⟨wsY', hw⟩, hd⟩ := ok
  exact z_callV Z hM hG hw hrc hrs hd hR hws he hc hn hst hcat d hf (fun E w h => by obtain ⟨u, rfl, h⟩ := h; exact kx E u h) (fun v w h => by
    obtain ⟨u, rfl, h⟩ := h
    rcases v with _ | v
    · exact h.elim
    · cases v <;> first | exact h.elim | (exact kk _ u h))
theorem z_Wi (Z : zC p s m args meth c cc nL own Ts D cl tys w0) {S : Type} {f : S → va_W} {P : Int32 → S → Prop} {X : String → S → Prop} (hM : zMet l y wsY rm D cl tys ws (.ref b :: As) (qi f P X) mc ms) (ok : okV Ts own index C y bytes maxL ret wsY n) (hrc : rm.cells = mc) (hrs : rm.slots = ms) (hR : rm.frames + 1 ≤ R.frames ∧ 8 + (maxL + 11) + rm.locals ≤ R.locals)
    (he : ws[0]? = some (b, .inr (ci, fs))) (hc : cl[ci]? = some (C, T, N)) (hn : As.length = n) (hst : st = As.reverse ++ .ref b :: rest) (hcat : (rest.map fun v => v.category).sum ≤ 8) (d : decode cc pc = .ok (.invokevirtual index, 3)) (hf : cells + mc ≤ R.cells ∧ slots + ms ≤ R.slots)
    (kx : ∀ (E : String) (u : S), X E u → zX p l e R s m args below meth c D cl w0 nL (cells + mc) (slots + ms) Q (f u) pc lv E) (kk : ∀ (v : Int32) (u : S), P v u → zAt p l e R s m args below meth c D cl w0 nL (cells + mc) (slots + ms) Q (f u) (pc + 3) lv (.int v :: rest)) : zAt p l e R s m args below meth c D cl w0 nL cells slots Q ws pc lv st :=
  z_Vi (pre := []) (suf := []) Z hM ok hrc hrs hR (by rw [List.nil_append, List.append_nil]) he hc hn hst hcat d hf (fun E u h => by rw [List.nil_append, List.append_nil]; exact kx E u h) (fun v u h => by rw [List.nil_append, List.append_nil]; exact kk v u h)
theorem z_Ti (Z : zC p s m args meth c cc nL own Ts D cl tys w0) {S : Type} {f : S → va_W} {P : Int32 → S → Prop} {X : String → S → Prop} (hM : zMet l y wsY rm D cl tys wc As (qi f P X) mc ms) (ok : okS Ts own index y maxL wsY n) (hrc : rm.cells = mc) (hrs : rm.slots = ms) (hR : rm.frames + 1 ≤ R.frames ∧ 8 + (maxL + 11) + rm.locals ≤ R.locals)
    (hws : ws = (pre ++ wc) ++ suf) (hn : As.length = n) (hst : st = As.reverse ++ rest) (hcat : (rest.map fun v => v.category).sum ≤ 8) (d : decode cc pc = .ok (.invokestatic index, 3)) (hf : cells + mc ≤ R.cells ∧ slots + ms ≤ R.slots)
    (kx : ∀ (E : String) (u : S), X E u → zX p l e R s m args below meth c D cl w0 nL (cells + mc) (slots + ms) Q ((pre ++ f u) ++ suf) pc lv E) (kk : ∀ (v : Int32) (u : S), P v u → zAt p l e R s m args below meth c D cl w0 nL (cells + mc) (slots + ms) Q ((pre ++ f u) ++ suf) (pc + 3) lv (.int v :: rest)) : zAt p l e R s m args below meth c D cl w0 nL cells slots Q ws pc lv st := by
  obtain ⟨hG, hco, h1, h2, h3, hd⟩ := ok
  exact z_callS Z hM hG hco hrc hrs h1 h2 h3 hd hR hws hn hst hcat d hf (fun E w h => by obtain ⟨u, rfl, h⟩ := h; exact kx E u h) (fun v w h => by
    obtain ⟨u, rfl, h⟩ := h
    rcases v with _ | v
    · exact h.elim
    · cases v <;> first | exact h.elim | (exact kk _ u h))
theorem z_Vv (Z : zC p s m args meth c cc nL own Ts D cl tys w0) {S : Type} {f : S → va_W} {P : S → Prop} {X : String → S → Prop} (hM : zMet l y wsY rm D cl tys wc (.ref b :: As) (qv f P X) mc ms) (ok : okV Ts own index C y bytes maxL ret wsY n) (hrc : rm.cells = mc) (hrs : rm.slots = ms) (hR : rm.frames + 1 ≤ R.frames ∧ 8 + (maxL + 11) + rm.locals ≤ R.locals)
    (hws : ws = (pre ++ wc) ++ suf) (he : wc[0]? = some (b, .inr (ci, fs))) (hc : cl[ci]? = some (C, T, N)) (hn : As.length = n) (hst : st = As.reverse ++ .ref b :: rest) (hcat : (rest.map fun v => v.category).sum ≤ 8) (d : decode cc pc = .ok (.invokevirtual index, 3)) (hf : cells + mc ≤ R.cells ∧ slots + ms ≤ R.slots)
    (kx : ∀ (E : String) (u : S), X E u → zX p l e R s m args below meth c D cl w0 nL (cells + mc) (slots + ms) Q ((pre ++ f u) ++ suf) pc lv E) (kk : ∀ u : S, P u → zAt p l e R s m args below meth c D cl w0 nL (cells + mc) (slots + ms) Q ((pre ++ f u) ++ suf) (pc + 3) lv rest) : zAt p l e R s m args below meth c D cl w0 nL cells slots Q ws pc lv st := by
  obtain ⟨hG, ⟨wsY', hw⟩, hd⟩ := ok
  exact z_callV Z hM hG hw hrc hrs hd hR hws he hc hn hst hcat d hf (fun E w h => by obtain ⟨u, rfl, h⟩ := h; exact kx E u h) (fun v w h => by
    obtain ⟨u, rfl, h⟩ := h
    rcases v with _ | v
    · exact kk u h
    · exact h.elim)
theorem z_Wv (Z : zC p s m args meth c cc nL own Ts D cl tys w0) {S : Type} {f : S → va_W} {P : S → Prop} {X : String → S → Prop} (hM : zMet l y wsY rm D cl tys ws (.ref b :: As) (qv f P X) mc ms) (ok : okV Ts own index C y bytes maxL ret wsY n) (hrc : rm.cells = mc) (hrs : rm.slots = ms) (hR : rm.frames + 1 ≤ R.frames ∧ 8 + (maxL + 11) + rm.locals ≤ R.locals)
    (he : ws[0]? = some (b, .inr (ci, fs))) (hc : cl[ci]? = some (C, T, N)) (hn : As.length = n) (hst : st = As.reverse ++ .ref b :: rest) (hcat : (rest.map fun v => v.category).sum ≤ 8) (d : decode cc pc = .ok (.invokevirtual index, 3)) (hf : cells + mc ≤ R.cells ∧ slots + ms ≤ R.slots)
    (kx : ∀ (E : String) (u : S), X E u → zX p l e R s m args below meth c D cl w0 nL (cells + mc) (slots + ms) Q (f u) pc lv E) (kk : ∀ u : S, P u → zAt p l e R s m args below meth c D cl w0 nL (cells + mc) (slots + ms) Q (f u) (pc + 3) lv rest) : zAt p l e R s m args below meth c D cl w0 nL cells slots Q ws pc lv st :=
  z_Vv (pre := []) (suf := []) Z hM ok hrc hrs hR (by rw [List.nil_append, List.append_nil]) he hc hn hst hcat d hf (fun E u h => by rw [List.nil_append, List.append_nil]; exact kx E u h) (fun u h => by rw [List.nil_append, List.append_nil]; exact kk u h)
theorem z_Tv (Z : zC p s m args meth c cc nL own Ts D cl tys w0) {S : Type} {f : S → va_W} {P : S → Prop} {X : String → S → Prop} (hM : zMet l y wsY rm D cl tys wc As (qv f P X) mc ms) (ok : okS Ts own index y maxL wsY n) (hrc : rm.cells = mc) (hrs : rm.slots = ms) (hR : rm.frames + 1 ≤ R.frames ∧ 8 + (maxL + 11) + rm.locals ≤ R.locals)
    (hws : ws = (pre ++ wc) ++ suf) (hn : As.length = n) (hst : st = As.reverse ++ rest) (hcat : (rest.map fun v => v.category).sum ≤ 8) (d : decode cc pc = .ok (.invokestatic index, 3)) (hf : cells + mc ≤ R.cells ∧ slots + ms ≤ R.slots)
    (kx : ∀ (E : String) (u : S), X E u → zX p l e R s m args below meth c D cl w0 nL (cells + mc) (slots + ms) Q ((pre ++ f u) ++ suf) pc lv E) (kk : ∀ u : S, P u → zAt p l e R s m args below meth c D cl w0 nL (cells + mc) (slots + ms) Q ((pre ++ f u) ++ suf) (pc + 3) lv rest) : zAt p l e R s m args below meth c D cl w0 nL cells slots Q ws pc lv st := by
  obtain ⟨hG, hco, h1, h2, h3, hd⟩ := ok
  exact z_callS Z hM hG hco hrc hrs h1 h2 h3 hd hR hws hn hst hcat d hf (fun E w h => by obtain ⟨u, rfl, h⟩ := h; exact kx E u h) (fun v w h => by
    obtain ⟨u, rfl, h⟩ := h
    rcases v with _ | v
    · exact kk u h
    · exact h.elim)
theorem z_S0 (Z : zC p s m args meth c cc nL own Ts D cl tys w0) {P : Int32 → Prop} (hM : zMet l y wsY rm D cl tys [] As (qi0 [] P noX) mc ms) (ok : okS Ts own index y maxL wsY n) (hrc : rm.cells = mc) (hrs : rm.slots = ms) (hR : rm.frames + 1 ≤ R.frames ∧ 8 + (maxL + 11) + rm.locals ≤ R.locals)
    (hn : As.length = n) (hst : st = As.reverse ++ rest) (hcat : (rest.map fun v => v.category).sum ≤ 8) (d : decode cc pc = .ok (.invokestatic index, 3)) (hf : cells + mc ≤ R.cells ∧ slots + ms ≤ R.slots)
    (kk : ∀ v : Int32, P v → zAt p l e R s m args below meth c D cl w0 nL (cells + mc) (slots + ms) Q ws (pc + 3) lv (.int v :: rest)) : zAt p l e R s m args below meth c D cl w0 nL cells slots Q ws pc lv st :=
  z_Ti0 (pre := ws) (wc := []) (suf := []) Z hM ok hrc hrs hR (by rw [List.append_nil, List.append_nil]) hn hst hcat d hf (fun E h => h.elim) (fun v h => by rw [List.append_nil, List.append_nil]; exact kk v h)
/-- ends -/
theorem z_ri0 (Z : zC p s m args meth c cc nL own Ts D cl tys w0) {ty : FieldType} {v : Int32} {P : Int32 → Prop} {X : String → Prop} (hr : meth.sig.returnType = some ty) (hn : narrow ty (.int v) = .int v) (d : decode cc pc = .ok (.ireturn, 1)) (hc : cells ≤ mc) (hs : slots ≤ ms) (hq : P v) : zAt p l e R s m args below meth c D cl w0 nL cells slots (zEnd below D cl w0 (qi0 ws P X) s mc ms) ws pc lv [.int v] := z_iret Z hr hn d hc hs ⟨rfl, hq⟩
theorem z_rv0 (Z : zC p s m args meth c cc nL own Ts D cl tys w0) {P : Prop} {X : String → Prop} (hr : meth.sig.returnType = none) (d : decode cc pc = .ok (.return_, 1)) (hc : cells ≤ mc) (hs : slots ≤ ms) (hq : P) : zAt p l e R s m args below meth c D cl w0 nL cells slots (zEnd below D cl w0 (qv0 ws P X) s mc ms) ws pc lv [] := z_vret Z hr d hc hs ⟨rfl, hq⟩
theorem z_ri (Z : zC p s m args meth c cc nL own Ts D cl tys w0) {S : Type} {f : S → va_W} (u : S) {ty : FieldType} {v : Int32} {P : Int32 → S → Prop} {X : String → S → Prop} (hr : meth.sig.returnType = some ty) (hn : narrow ty (.int v) = .int v) (d : decode cc pc = .ok (.ireturn, 1)) (hc : cells ≤ mc) (hs : slots ≤ ms) (hw : ws = f u) (hq : P v u) : zAt p l e R s m args below meth c D cl w0 nL cells slots (zEnd below D cl w0 (qi f P X) s mc ms) ws pc lv [.int v] := z_iret Z hr hn d hc hs ⟨u, hw, hq⟩
theorem z_rv (Z : zC p s m args meth c cc nL own Ts D cl tys w0) {S : Type} {f : S → va_W} (u : S) {P : S → Prop} {X : String → S → Prop} (hr : meth.sig.returnType = none) (d : decode cc pc = .ok (.return_, 1)) (hc : cells ≤ mc) (hs : slots ≤ ms) (hw : ws = f u) (hq : P u) : zAt p l e R s m args below meth c D cl w0 nL cells slots (zEnd below D cl w0 (qv f P X) s mc ms) ws pc lv [] := z_vret Z hr d hc hs ⟨u, hw, hq⟩
end ZV
theorem zi_0 : Int32.ofInt 0 = nI 0 := by decide
theorem zi_1 : Int32.ofInt 1 = nI 1 := by decide
theorem zi_2 : Int32.ofInt 2 = nI 2 := by decide
theorem zi_3 : Int32.ofInt 3 = nI 3 := by decide
theorem zi_4 : Int32.ofInt 4 = nI 4 := by decide
theorem zi_5 : Int32.ofInt 5 = nI 5 := by decide
theorem zi_m1 : Int32.ofInt (-1) = (-1 : Int32) := by decide
theorem zb_6 : (Int8.ofInt 6).toInt32 = nI 6 := by decide
theorem zb_23 : (Int8.ofInt 23).toInt32 = nI 23 := by decide
theorem zb_24 : (Int8.ofInt 24).toInt32 = nI 24 := by decide
theorem zb_72 : (Int8.ofInt 72).toInt32 = nI 72 := by decide
theorem zb_96 : (Int8.ofInt 96).toInt32 = nI 96 := by decide
end
