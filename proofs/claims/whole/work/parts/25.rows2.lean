/-! rows more: what is made anew, the script, fewer words -/
section ZR2
variable {p : Program} {l : Launch} {e : Env} {R : Room} {s : State} {m : MethodId} {args : Array Value} {below : List Frame} {meth : Method} {c : Code} {cells slots nL : Nat} {Q : State → Prop} {D : va_G} {cl : List vw_C} {tys : List (ClassId × FieldType)} {w0 : va_W} {cc : ByteArray} {own : String} {Ts : List Cond} {ws ws' : va_W} {pc : Nat} {lv lv' : List (Nat × Value)} {st : List Value}
theorem z_subT {Ts' : List Cond} (Z : zC p s m args meth c cc nL own Ts D cl tys w0) (h : ∀ w ∈ Ts', w ∈ Ts) : zC p s m args meth c cc nL own Ts' D cl tys w0 := ⟨Z.1, Z.2.1, Z.2.2.1, Z.2.2.2.1, fun w hw => Z.2.2.2.2.1 w (h w hw), Z.2.2.2.2.2⟩
theorem z_perm (is : List Nat) (hn : va_nd is = true) (hs : is.filterMap (fun i => ws[i]?) = ws') (hs2 : is.map (fun i => ws[i]?) = ws'.map some) (k : zAt p l e R s m args below meth c D cl w0 nL cells slots Q ws' pc lv st) : zAt p l e R s m args below meth c D cl w0 nL cells slots Q ws pc lv st := fun H locs ls hP hD hS hl => k H locs ls (hP.sub is hs) (hD.sub is hn hs2) hS hl
theorem z_objInit (Z : zC p s m args meth c cc nL own Ts D cl tys w0) {o idx : Nat} (h1 : Cond.methodLink own idx Lib.objectInit ∈ Ts) (h2 : Cond.instanceMethod Lib.objectInit ∈ Ts) (h3 : Cond.code Lib.objectInit ⟨#[0xb1]⟩ 1 none ∈ Ts) (hf : 1 ≤ R.frames) (hlo : (st.map fun v => v.category).sum + 12 ≤ R.locals) (d : decode cc pc = .ok (.invokespecial idx, 3)) (k : zAt p l e R s m args below meth c D cl w0 nL cells slots Q ws (pc + 3) lv st) : zAt p l e R s m args below meth c D cl w0 nL cells slots Q ws pc lv (.ref o :: st) := fun H locs ls hP hD hS hl =>
  W.objInit (g := F0 m pc ls (.ref o :: st)) Z.1 Z.2.1 Z.2.2.2.1 (Z.2.2.2.2.1 _ h1) (Z.2.2.2.2.1 _ h2) (Z.2.2.2.2.1 _ h3) rfl (by rw [Z.2.2.1]; exact hl.1) rfl d hf (by show 2 * 0 + _ + 12 ≤ _; omega) (k H locs ls hP hD hS hl)
theorem z_newaI (Z : zC p s m args meth c cc nL own Ts D cl tys w0) (t0 : Nat) {cA : ClassId} {n : Nat} (harr : Cond.arrayClass .int ∈ Ts) (ht : tys[t0]? = some (cA, .int)) (hn : n < 2 ^ 31) (hby : n * componentBytes .int ≤ 536870912) (hc : cells + 1 ≤ R.cells) (hs : slots + n ≤ R.slots) (d : decode cc pc = .ok (.newarray .int, 2))
    (k : ∀ q : Nat, zAt p l e R s m args below meth c D cl w0 nL (cells + 1) (slots + n) Q (ws ++ [(q, .inl (cA, n, .inl (fun _ => 0)))]) (pc + 2) lv (.ref q :: st)) : zAt p l e R s m args below meth c D cl w0 nL cells slots Q ws pc lv (.int (nI n) :: st) := fun H locs ls hP hD hS hl =>
  va_newa (atype := .int) (ty := .int) (a0 := (n, .inl (fun _ => 0))) Z.1 Z.2.1 (Z.2.2.2.2.1 _ harr) rfl Z.2.2.2.2.2.1 hP hD hS (fun q h => Or.inr h) (fun cA => rfl) (nI_pos hn) (nI_clamp hn) hby hc hs d (fun q cA' H1 hK1 hP1 hD1 hS1 => by
    have e1 : va_RA s cA' .int := (hK1.2 tys.length (cA', .int) (by rw [List.getElem?_append_right (Nat.le_refl _), Nat.sub_self]; rfl)).2
    have e2 : va_RA s cA .int := (Z.2.2.2.2.2.1.2 t0 _ ht).2
    have e : cA' = cA := Option.some.inj (e1.symm.trans e2)
    subst e
    exact k q H1 locs ls hP1 hD1 hS1 hl)
theorem z_newaZ (Z : zC p s m args meth c cc nL own Ts D cl tys w0) (t0 : Nat) {cA : ClassId} {n : Nat} (harr : Cond.arrayClass .boolean ∈ Ts) (ht : tys[t0]? = some (cA, .boolean)) (hn : n < 2 ^ 31) (hby : n * componentBytes .boolean ≤ 536870912) (hc : cells + 1 ≤ R.cells) (hs : slots + n ≤ R.slots) (d : decode cc pc = .ok (.newarray .boolean, 2))
    (k : ∀ q : Nat, zAt p l e R s m args below meth c D cl w0 nL (cells + 1) (slots + n) Q (ws ++ [(q, .inl (cA, n, .inl (fun _ => 0)))]) (pc + 2) lv (.ref q :: st)) : zAt p l e R s m args below meth c D cl w0 nL cells slots Q ws pc lv (.int (nI n) :: st) := fun H locs ls hP hD hS hl =>
  va_newa (atype := .boolean) (ty := .boolean) (a0 := (n, .inl (fun _ => 0))) Z.1 Z.2.1 (Z.2.2.2.2.1 _ harr) rfl Z.2.2.2.2.2.1 hP hD hS (fun q h => Or.inr h) (fun cA => rfl) (nI_pos hn) (nI_clamp hn) hby hc hs d (fun q cA' H1 hK1 hP1 hD1 hS1 => by
    have e1 : va_RA s cA' .boolean := (hK1.2 tys.length (cA', .boolean) (by rw [List.getElem?_append_right (Nat.le_refl _), Nat.sub_self]; rfl)).2
    have e2 : va_RA s cA .boolean := (Z.2.2.2.2.2.1.2 t0 _ ht).2
    have e : cA' = cA := Option.some.inj (e1.symm.trans e2)
    subst e
    exact k q H1 locs ls hP1 hD1 hS1 hl)
theorem z_newaL (Z : zC p s m args meth c cc nL own Ts D cl tys w0) (t0 : Nat) {cA : ClassId} {n : Nat} (harr : Cond.arrayClass .long ∈ Ts) (ht : tys[t0]? = some (cA, .long)) (hn : n < 2 ^ 31) (hby : n * componentBytes .long ≤ 536870912) (hc : cells + 1 ≤ R.cells) (hs : slots + n ≤ R.slots) (d : decode cc pc = .ok (.newarray .long, 2))
    (k : ∀ q : Nat, zAt p l e R s m args below meth c D cl w0 nL (cells + 1) (slots + n) Q (ws ++ [(q, .inl (cA, n, .inr (.inl (fun _ => 0))))]) (pc + 2) lv (.ref q :: st)) : zAt p l e R s m args below meth c D cl w0 nL cells slots Q ws pc lv (.int (nI n) :: st) := fun H locs ls hP hD hS hl =>
  va_newa (atype := .long) (ty := .long) (a0 := (n, .inr (.inl (fun _ => 0)))) Z.1 Z.2.1 (Z.2.2.2.2.1 _ harr) rfl Z.2.2.2.2.2.1 hP hD hS (fun q h => Or.inr h) (fun cA => rfl) (nI_pos hn) (nI_clamp hn) hby hc hs d (fun q cA' H1 hK1 hP1 hD1 hS1 => by
    have e1 : va_RA s cA' .long := (hK1.2 tys.length (cA', .long) (by rw [List.getElem?_append_right (Nat.le_refl _), Nat.sub_self]; rfl)).2
    have e2 : va_RA s cA .long := (Z.2.2.2.2.2.1.2 t0 _ ht).2
    have e : cA' = cA := Option.some.inj (e1.symm.trans e2)
    subst e
    exact k q H1 locs ls hP1 hD1 hS1 hl)
theorem z_new (Z : zC p s m args meth c cc nL own Ts D cl tys w0) {C : String} {T : u_T} {N ci index : Nat} (hin : ∀ w ∈ u_ws C T N, w ∈ Ts) (ty : Nat → FieldType) (hty : ∀ k, k < N → parseFieldDescriptor (T k).2.2.1 = some (ty k)) (hcl : Cond.classLink own index C ∈ Ts) (hinst : Cond.instantiable C N ∈ Ts) (hini : Cond.initialized C ∈ Ts) (hci : cl[ci]? = some (C, T, N)) (fs : List Value) (hfs : ∀ j, j < N → defaultValue (ty j) = vp_V fs j) (hc : cells + 1 ≤ R.cells) (hs : slots + N ≤ R.slots) (d : decode cc pc = .ok (.new index, 3))
    (k : ∀ q : Nat, zAt p l e R s m args below meth c D cl w0 nL (cells + 1) (slots + N) Q (ws ++ [(q, .inr (ci, fs))]) (pc + 3) lv (.ref q :: st)) : zAt p l e R s m args below meth c D cl w0 nL cells slots Q ws pc lv st := fun H locs ls hP hD hS hl =>
  va_new Z.1 Z.2.1 Z.2.2.2.2.1 hin ty hty Z.2.2.2.1 (Z.2.2.2.2.1 _ hcl) (Z.2.2.2.2.1 _ hinst) (Z.2.2.2.2.1 _ hini) Z.2.2.2.2.2.1 hP hD hS (fun q h => Or.inr h) hci hfs hc hs d (fun q H1 hP1 hD1 hS1 => k q H1 locs ls hP1 hD1 hS1 hl)
theorem z_sld (Z : zC p s m args meth c cc nL own Ts D cl tys w0) {b L : Nat} {xs : Nat → Int32} (hX : va_X b L xs s s.heap) (hbl : b < s.heap.size) (hbA : ¬ va_A w0 s.heap.size b) {j : Nat} (hj : j < L) (hL : L < 2 ^ 31) (d : decode cc pc = .ok (.iaload, 1)) (k : zAt p l e R s m args below meth c D cl w0 nL cells slots Q ws (pc + 1) lv (.int (xs j) :: st)) : zAt p l e R s m args below meth c D cl w0 nL cells slots Q ws pc lv (.int (nI j) :: .ref b :: st) := fun H locs ls hP hD hS hl =>
  va_sld Z.1 Z.2.1 hX hbl hbA hS (vp_in_nI hj hL) d (by rw [nI_clamp (Nat.lt_trans hj hL)]; exact k H locs ls hP hD hS hl)
theorem z_slen (Z : zC p s m args meth c cc nL own Ts D cl tys w0) {b L : Nat} {xs : Nat → Int32} (hX : va_X b L xs s s.heap) (hbl : b < s.heap.size) (hbA : ¬ va_A w0 s.heap.size b) (d : decode cc pc = .ok (.arraylength, 1)) (k : zAt p l e R s m args below meth c D cl w0 nL cells slots Q ws (pc + 1) lv (.int (nI L) :: st)) : zAt p l e R s m args below meth c D cl w0 nL cells slots Q ws pc lv (.ref b :: st) := fun H locs ls hP hD hS hl =>
  va_slen Z.1 Z.2.1 hX hbl hbA hS d (k H locs ls hP hD hS hl)
end ZR2
