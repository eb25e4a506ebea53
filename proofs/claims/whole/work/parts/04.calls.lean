/-! ends, calls, throws over zAt -/
section ZD
variable {D : va_G} {cl : List vw_C} {A : Nat → Prop} {a b : va_W} {H : Heap}
theorem zD_l (h : va_D A (a ++ b)) : va_D A a := h.by (fun k => k) (fun k q hk => by
    rw [List.getElem?_append_left (List.getElem?_eq_some_iff.mp hk).1]; exact hk) (fun _ _ _ _ h => h)
theorem zD_r (h : va_D A (a ++ b)) : va_D A b := h.by (fun k => a.length + k) (fun k q hk => by
    rw [List.getElem?_append_right (Nat.le_add_right _ _), Nat.add_sub_cancel_left]; exact hk) (fun _ _ _ _ h => Nat.add_left_cancel h)
theorem zD_x (h : va_D A (a ++ b)) (i j : Nat) (p q : Nat × va_E) (hi : a[i]? = some p) (hj : b[j]? = some q) : p.1 ≠ q.1 := fun e => by
  have hl := (List.getElem?_eq_some_iff.mp hi).1
  have h1 := h.1 i (a.length + j) p q (by rw [List.getElem?_append_left hl]; exact hi) (by rw [List.getElem?_append_right (Nat.le_add_right _ _), Nat.add_sub_cancel_left]; exact hj) e
  omega
theorem zP_l (h : va_P D cl (a ++ b) H) : va_P D cl a H := h.by (fun k => k) (fun k q hk => by
    rw [List.getElem?_append_left (List.getElem?_eq_some_iff.mp hk).1]; exact hk)
theorem zP_r (h : va_P D cl (a ++ b) H) : va_P D cl b H := h.by (fun k => a.length + k) (fun k q hk => by
    rw [List.getElem?_append_right (Nat.le_add_right _ _), Nat.add_sub_cancel_left]; exact hk)
/-- a callee's cells wc between cells that it doesn't reach -/
theorem z_join {pre wc suf w1 : va_W} {H1 : Heap} (hP : va_P D cl ((pre ++ wc) ++ suf) H) (hD : va_D A ((pre ++ wc) ++ suf)) (hk : ∀ q : Nat, q < H.size → ¬ va_A wc H.size q → H1[q]? = H[q]?) (hF : ∀ q, va_A wc H.size q → A q) (hP1 : va_P D cl w1 H1) (hD1 : va_D (va_A wc H.size) w1) :
    va_P D cl ((pre ++ w1) ++ suf) H1 ∧ va_D A ((pre ++ w1) ++ suf) := by
  have hPp := zP_l (zP_l hP)
  have hPs := zP_r hP
  have hDp := zD_l (zD_l hD)
  have hDs := zD_r hD
  have xpc := zD_x (zD_l hD)
  have xs := zD_x hD
  have np : ∀ (i : Nat) (q : Nat × va_E), pre[i]? = some q → ¬ va_A wc H.size q.1 := fun i q hi hA => by
    rcases hA with ⟨k, e, hke⟩ | hle
    · exact xpc i k q _ hi hke rfl
    · exact absurd (hPp i q hi).lt (Nat.not_lt.mpr hle)
  have ns : ∀ (i : Nat) (q : Nat × va_E), suf[i]? = some q → ¬ va_A wc H.size q.1 := fun i q hi hA => by
    rcases hA with ⟨k, e, hke⟩ | hle
    · exact xs (pre.length + k) i (q.1, e) q (by rw [List.getElem?_append_right (Nat.le_add_right _ _), Nat.add_sub_cancel_left]; exact hke) hi rfl
    · exact absurd (hPs i q hi).lt (Nat.not_lt.mpr hle)
  have hD1' : va_D A w1 := hD1.weaken (fun _ _ _ h => hF _ h)
  refine ⟨va_P.app (va_P.app (fun k q hkq => (hPp k q hkq).kept (hk _ (hPp k q hkq).lt (np k q hkq))) hP1) (fun k q hkq => (hPs k q hkq).kept (hk _ (hPs k q hkq).lt (ns k q hkq))), ?_⟩
  refine va_D.app (va_D.app hDp hD1' (fun i j p q hi hj e => np i p hi (e ▸ hD1.2 j q hj))) hDs (fun i j p q hi hj e => ?_)
  rcases Nat.lt_or_ge i pre.length with hl | hg
  · rw [List.getElem?_append_left hl] at hi
    exact xs i j p q (by rw [List.getElem?_append_left hl]; exact hi) hj e
  · rw [List.getElem?_append_right hg] at hi
    exact ns j q hj (e ▸ hD1.2 _ p hi)
theorem z_notStatics {w0 : va_W} (hP : va_P D cl w0 H) {q : Nat} {e : va_E} {k : Nat} (hk : w0[k]? = some (q, e)) {cell : Cell} (hc : H[q]? = some cell) : cell.vm.isStatics = false := by
  have h := hP k _ hk
  cases e with
  | inl x =>
    have h1 : H[q]? = some (vp_cell x.1 x.2) := h
    cases Option.some.inj (h1.symm.trans hc)
    obtain ⟨cA, n, f⟩ := x
    rcases f with f | f | f | f | f <;> rfl
  | inr x =>
    obtain ⟨r, -, cell', g1, -, g3, -⟩ := h
    cases Option.some.inj (g1.symm.trans hc)
    rw [g3]; rfl
end ZD
section ZE
variable {p : Program} {l : Launch} {e : Env} {R : Room} {s : State} {m : MethodId} {args : Array Value} {below : List Frame} {meth : Method} {c : Code} {cells slots nL : Nat} {Q : State → Prop} {D : va_G} {cl : List vw_C} {tys : List (ClassId × FieldType)} {w0 : va_W} {cc : ByteArray} {own : String} {Ts : List Cond} {ws ws' : va_W} {pc : Nat} {lv lv' : List (Nat × Value)} {st : List Value}
theorem zT1_to {n d : String} {U : State} (h : zT1 n d s) (hP0 : va_P D cl w0 s.heap) (hW : s.WarmedH U.vm) (hk : ∀ q : Nat, q < s.heap.size → ¬ va_A w0 s.heap.size q → U.heap[q]? = s.heap[q]?) : zT1 n d U := by
  obtain ⟨h1, h2, h3⟩ := h
  have keep : ∀ (a : Nat) (cell : Cell), s.heap[a]? = some cell → cell.vm.isStatics = true → U.heap[a]? = some cell := fun a cell ha hs => by
    rw [hk a (Array.getElem?_eq_some_iff.mp ha).1 ?_]
    · exact ha
    · rintro (⟨j, e9, hj⟩ | hle)
      · have := z_notStatics hP0 hj ha
        rw [this] at hs; cases hs
      · exact absurd (Array.getElem?_eq_some_iff.mp ha).1 (Nat.not_lt.mpr hle)
  refine ⟨?_, word_at hW (Or.inl (by first | rfl | simp [Cond.onTables, Cond.keeps, Cond.steady])) h2, ?_⟩
  · obtain ⟨c9, k, i, f, a, cell, g1, g2, g3, g4, g5, g6, g7, g8, g9⟩ := Cond.laysStatic_spec h1
    obtain ⟨k', hi', he⟩ := State.fieldFound?_setVm hW.alike g2
    show (Cond.laysStatic Jvm.Bundle.tN n d).holds #[] U none U [] = true
    exact Cond.laysStatic_of (by rw [hW.alike.findClass]; exact g1) hi' g3 (by rw [he]; exact g4) (keep a cell g5 g6) g6 g7 g8 (by rw [he]; exact g9)
  · have hz := va_Zqof (A := fun _ => False) h1 h2 h3 (fun _ _ h => h)
    have go : ∀ v : Value, v.isRef = true → va_Z Jvm.Bundle.tN n d v (fun _ => False) s s.heap → (Cond.isRef (.static Jvm.Bundle.tN n d)).before #[] U = true := fun v hv hz => by
      obtain ⟨cf, kf, fi, f, a, cell, g1, g2, g3, g4, g5, g6, g7, -⟩ := hz
      obtain ⟨k', hi', he⟩ := State.fieldFound?_setVm hW.alike g1
      have hi2 : U.fieldFound? Jvm.Bundle.tN n d = some (cf, k', fi, f) := hi'
      have g4' : k'.statics = some a := by rw [he]; exact g4
      have g5' := keep a cell g5 g6
      have hev : (Term.static Jvm.Bundle.tN n d).eval #[] U none [] U = some v := by
        simp [Term.eval, State.fieldNamed?, hi2, g2, g4', g5', g6, g7]
      simp only [Cond.before, Cond.holds, Cond.value, hev]
      clear hev
      cases v <;> first | rfl | (exact absurd hv (by simp [Value.isRef]))
    rcases hz with hz | ⟨t, hz⟩
    · exact go _ rfl hz
    · exact go _ rfl hz
theorem zT_to {U : State} (h : zT s) (hP0 : va_P D cl w0 s.heap) (hW : s.WarmedH U.vm) (hk : ∀ q : Nat, q < s.heap.size → ¬ va_A w0 s.heap.size q → U.heap[q]? = s.heap[q]?) : zT U :=
  ⟨zT1_to h.1 hP0 hW hk, zT1_to h.2.1 hP0 hW hk, fun q hq => by
    obtain ⟨a, ha⟩ := h.2.2.1 q hq
    exact ⟨a, vk_R.warm hW ha⟩, fun x hx => va_Nw.warmD hW (h.2.2.2.1 x hx), fun q hq => va_Nw.warmC hW (h.2.2.2.2.1 q hq), fun q hq => by
    obtain ⟨a, b, h1, h2, h3⟩ := h.2.2.2.2.2 q hq
    exact ⟨a, b, by rw [hW.alike.findClass]; exact h1, by rw [hW.alike.findClass]; exact h2, by rw [hW.alike.assignable]; exact h3⟩⟩
/-- a word that the lists of zT hold -/
def zWk (w : Cond) : Bool := match w with
  | .declares x => decide (x ∈ zDecl)
  | .castable a b => decide ((a, b) ∈ zCast)
  | _ => false
theorem zWk_at {w : Cond} (hz : zT s) (h : zWk w = true) : w.before args s = true := by
  cases w <;> first | (exact va_Nw.use rfl (hz.2.2.2.1 _ (of_decide_eq_true h))) | (exact va_Nw.use rfl (hz.2.2.2.2.1 _ (of_decide_eq_true h))) | (exact absurd h (by simp [zWk]))
theorem z_iret (Z : zC p s m args meth c cc nL own Ts D cl tys w0) {ty : FieldType} {v : Int32} {post : zRes → va_W → Prop} {mr sr mc ms : Nat} (hr : meth.sig.returnType = some ty) (hn : narrow ty (.int v) = .int v) (d : decode cc pc = .ok (.ireturn, 1)) (hc : cells ≤ mr) (hs : slots ≤ sr) (hq : post (.inl (some (.int v))) ws) :
    zAt p l e R s m args below meth c D cl w0 nL cells slots (zEnd below D cl w0 post s mr sr mc ms) ws pc lv [.int v] := by
  intro H locs ls hP hD hS hl
  refine z_mono (W.zret (Qc := fun _ _ o t => t.heap = H ∧ o = .returned (some (.int v))) (free := va_A w0 s.heap.size) Z.1 Z.2.1 hr hn (fun t ht _ => ⟨ht, rfl⟩) hS.2.2 d Z.2.2.2.2.2.2.2.1) ?_
  rintro t ⟨o, h1, h2, ⟨ht, ho⟩, L, hF, hL⟩
  exact ⟨o, h1, h2, ⟨hS.F ht, .inl (some (.int v)), ws, hq, by rw [ht]; exact hP, hD, ho⟩, hF.2.1, L, by subst ho; exact hF.2.2.mono hc hs, hL⟩
theorem z_vret (Z : zC p s m args meth c cc nL own Ts D cl tys w0) {post : zRes → va_W → Prop} {mr sr mc ms : Nat} (hr : meth.sig.returnType = none) (d : decode cc pc = .ok (.return_, 1)) (hc : cells ≤ mr) (hs : slots ≤ sr) (hq : post (.inl none) ws) :
    zAt p l e R s m args below meth c D cl w0 nL cells slots (zEnd below D cl w0 post s mr sr mc ms) ws pc lv [] := by
  intro H locs ls hP hD hS hl
  refine z_mono (W.vret (Qc := fun _ _ o t => t.heap = H ∧ o = .returned none) (free := va_A w0 s.heap.size) Z.1 Z.2.1 hr (fun t ht _ => ⟨ht, rfl⟩) hS.2.2 d Z.2.2.2.2.2.2.2.1) ?_
  rintro t ⟨o, h1, h2, ⟨ht, ho⟩, L, hF, hL⟩
  exact ⟨o, h1, h2, ⟨hS.F ht, .inl none, ws, hq, by rw [ht]; exact hP, hD, ho⟩, hF.2.1, L, by subst ho; exact hF.2.2.mono hc hs, hL⟩
/-- no handler here: the exception goes to the caller -/
theorem z_out (Z : zC p s m args meth c cc nL own Ts D cl tys w0) {E : String} {post : zRes → va_W → Prop} {mr sr mc ms : Nat} (ht : ∀ x ∈ c.exceptionTable.toList, covers x pc = false) (hc : cells ≤ mc) (hs : slots ≤ ms) (hq : post (.inr E) ws) :
    zX p l e R s m args below meth c D cl w0 nL cells slots (zEnd below D cl w0 post s mr sr mc ms) ws pc lv E := by
  intro H locs ls st q ce hP hD hS hl hce hcv hcl T hT X
  obtain ⟨st1, hrun, hend, hW, hsm⟩ := X.leaveThrown q (g := F0 m pc ls st) rfl rfl rfl ht Z.2.2.2.2.2.2.2.1
  have hh : (T.setFrames (.throwing q :: below)).heap = H := hT
  exact ⟨_, st1, .threw q, hrun, hend, ⟨hS.F hh, .inr E, ws, hq, by rw [hh]; exact hP, hD, q, ce, rfl, by rw [hh]; exact hce, hcv, hcl⟩, hW, locs, hsm.mono hc hs, hS.2.2⟩
/-- one row of the table: its class is looked up; the object is of it, or the search goes on -/
theorem zq_row {Q : Handler → Pre} {E : CtlPost} {e : Env} {d : Bool} {acts : List Action} {S : State} {f : JFrame} {a : Addr} {x : ExceptionTableEntry} {t : List ExceptionTableEntry} {k : ClassId} {ce : Cell} (hx : covers x f.pc = true) (h0 : x.catchType ≠ 0) (hl : S.vm.ClassLinks e.platform f.method.cls x.catchType k) (hce : S.heap[a]? = some ce) (ho : ∀ c, ce.vm ≠ .statics c) (h1 : ∃ c, S.vm.classes[ce.cls]? = some c) (h2 : ∃ c, S.vm.classes[k]? = some c) :
    wp (findHandler.go f a (x :: t)) Q E e d acts S ↔ (if S.vm.assignable ce.cls k = true then Q (.found x.handlerPc) d acts (S.setVm (S.vm.noted f.method.cls x.catchType (.cls k))) else wp (findHandler.go f a t) Q E e d acts (S.setVm (S.vm.noted f.method.cls x.catchType (.cls k)))) := by
  have hx2 := hx
  simp only [covers] at hx2
  obtain ⟨r1, r2⟩ := (resolveClass_links e.toSetting hl).op (op := VmOp.resolveClass f.method.cls x.catchType) rfl
  have hA : S.vm.Alike (S.vm.noted f.method.cls x.catchType (.cls k)) := (Vm.Alike.refl S.vm).noted _ _ _
  obtain ⟨c1, q1⟩ := h1
  obtain ⟨c2, q2⟩ := h2
  obtain ⟨d1, p1, -⟩ := hA.2.2 _ _ q1
  obtain ⟨d2, p2, -⟩ := hA.2.2 _ _ q2
  have hs : (S.vm.noted f.method.cls x.catchType (.cls k)).assignable ce.cls k = S.vm.assignable ce.cls k := by rw [hA.assignable]
  cases hf : S.vm.assignable ce.cls k
  · rw [hf] at hs
    simp [findHandler.go, hx2, h0, r1, r2, hce, ho, p1, p2, hs, VmOp.dirties, VmOp.acts]
  · rw [hf] at hs
    simp [findHandler.go, hx2, h0, r1, r2, hce, ho, p1, p2, hs, VmOp.dirties, VmOp.acts]
/-- the rows ahead don't take it, the row x does -/
theorem zq_go {e : Env} {s0 : State} {f : JFrame} {a : Addr} {ce : Cell} {k : ClassId} (ho : ∀ c, ce.vm ≠ .statics c) (h1 : ∃ c, s0.vm.classes[ce.cls]? = some c) (x : ExceptionTableEntry) (suf : List ExceptionTableEntry) (hx : covers x f.pc = true) (h0 : x.catchType ≠ 0) (hl : s0.vm.ClassLinks e.platform f.method.cls x.catchType k) (hk : s0.vm.assignable ce.cls k = true) (rows : List ExceptionTableEntry) :
    ∀ S : State, s0.WarmedH S.vm → S.heap[a]? = some ce → (∀ z ∈ rows, covers z f.pc = false ∨ (z.catchType ≠ 0 ∧ ∃ j, s0.vm.ClassLinks e.platform f.method.cls z.catchType j ∧ s0.vm.assignable ce.cls j = false)) →
      ∃ v : Vm, s0.WarmedH v ∧ ∀ (Q : Handler → Pre) (E : CtlPost) (d : Bool) (acts : List Action), wp (findHandler.go f a (rows ++ x :: suf)) Q E e d acts S ↔ Q (.found x.handlerPc) d acts (S.setVm v) := by
  have look : ∀ (S : State) (z : ExceptionTableEntry) (j : ClassId), s0.WarmedH S.vm → s0.vm.ClassLinks e.platform f.method.cls z.catchType j → S.vm.ClassLinks e.platform f.method.cls z.catchType j ∧ (∃ c, S.vm.classes[ce.cls]? = some c) ∧ (∃ c, S.vm.classes[j]? = some c) ∧ S.vm.assignable ce.cls j = s0.vm.assignable ce.cls j ∧ s0.WarmedH (S.vm.noted f.method.cls z.catchType (.cls j)) := fun S z j hW hz => by
    obtain ⟨dk, _, _, kt, hd, _, _, _, _, hkt, _, hop⟩ := hz.here
    obtain ⟨c1, q1⟩ := h1
    obtain ⟨d1, p1, -⟩ := hW.alike.2.2 _ _ q1
    obtain ⟨d2, p2, -⟩ := hW.alike.2.2 _ _ hkt
    exact ⟨hW.classLinks hz, ⟨d1, p1⟩, ⟨d2, p2⟩, by rw [hW.alike.assignable], hW.noted hd hop (State.rightAt_cls hz)⟩
  induction rows with
  | nil =>
    intro S hW hce _
    obtain ⟨l1, l2, l3, l4, l5⟩ := look S x k hW hl
    refine ⟨_, l5, fun Q E d acts => ?_⟩
    rw [List.nil_append, zq_row hx h0 l1 hce ho l2 l3, if_pos (l4.trans hk)]
  | cons y ys ih =>
    intro S hW hce hp
    have hr := fun z hz => hp z (List.mem_cons_of_mem _ hz)
    rcases Bool.eq_false_or_eq_true (covers y f.pc) with hc | hc
    · rcases hp y List.mem_cons_self with h | ⟨g0, j, gl, gn⟩
      · rw [hc] at h; cases h
      · obtain ⟨l1, l2, l3, l4, l5⟩ := look S y j hW gl
        obtain ⟨v, hv, hq⟩ := ih (S.setVm (S.vm.noted f.method.cls y.catchType (.cls j))) l5 hce hr
        refine ⟨v, hv, fun Q E d acts => ?_⟩
        rw [List.cons_append, zq_row hc g0 l1 hce ho l2 l3, if_neg (by rw [l4, gn]; decide)]
        exact hq Q E d acts
    · obtain ⟨v, hv, hq⟩ := ih S hW hce hr
      refine ⟨v, hv, fun Q E d acts => ?_⟩
      rw [List.cons_append, Jvm.W.findHandler_go_skip hc]
      exact hq Q E d acts
/-- the step from the throw to the handler's first instruction -/
theorem zq_step {tb : Tables} {e : Env} {T : State} {g : JFrame} {c : Code} {below : List Frame} {a : Addr} {hp : Nat} {v : Vm} (h : At T g.method c below) (hq : ∀ (Q : Handler → Pre) (E : CtlPost) (d : Bool) (acts : List Action), wp (findHandler g a) Q E e d acts ((T.setTop g).pushFrame (.throwing a)) ↔ Q (.found hp) d acts (((T.setTop g).pushFrame (.throwing a)).setVm v)) :
    Steps tb e below ((T.setTop g).pushFrame (.throwing a)) ((T.setVm v).setTop { g with pc := hp, stack := [.ref a] }) := by
  obtain ⟨g1, g2⟩ := h.throwing a
  have hs : (stepThrowing e ((T.setTop g).pushFrame (.throwing a)) a (.java g :: T.frames.tail)).1 = (((T.setTop g).pushFrame (.throwing a)).setVm v).setFrames (.java { g with pc := hp, stack := [.ref a] } :: T.frames.tail) := by
    simp only [stepThrowing, searchFrame, vmDo]
    generalize hr : Sem.go _ e false [] ((T.setTop g).pushFrame (.throwing a)) = res
    obtain ⟨as, rfl, -⟩ := Sem.eq_ok_of hr (a := Handler.found hp) (s' := ((T.setTop g).pushFrame (.throwing a)).setVm v) (acts' := []) (by simp [hq _ _ _ _])
    rfl
  refine Steps.head g1 g2 ?_
  rw [stepThread_throwing (frames_entered h.top _), hs]
  obtain ⟨g₀, hg⟩ := Option.isSome_iff_exists.mp h.top
  obtain ⟨r, hr⟩ := State.topJava?_eq_some.mp hg
  have hr2 : (T.setVm v).frames = .java g₀ :: r := hr
  rw [State.setTop_of_frames _ hr2, hr, List.tail_cons, State.setTop_of_frames _ hr]
  have e1 : (((T.setFrames (.java g :: r)).pushFrame (.throwing a)).setVm v).setFrames (.java { g with pc := hp, stack := [.ref a] } :: r) = (T.setVm v).setFrames (.java { g with pc := hp, stack := [.ref a] } :: r) := by
    show ((((T.setFrames (.java g :: r)).setFrames _).setVm v)).setFrames _ = _
    rw [State.setFrames_setFrames]
    show ((T.setVm v).setFrames _).setFrames _ = _
    rw [State.setFrames_setFrames]
  rw [e1]
  exact Steps.refl _
/-- caught by a row of this method's table -/
theorem z_catch (Z : zC p s m args meth c cc nL own Ts D cl tys w0) {E name : String} (pre : List ExceptionTableEntry) (x : ExceptionTableEntry) (suf : List ExceptionTableEntry) (hsplit : c.exceptionTable.toList = pre ++ x :: suf)
    (hpass : ∀ z ∈ pre, covers z pc = false ∨ (z.catchType ≠ 0 ∧ ∃ nm : String, (Cond.classLink own z.catchType nm).before args s = true ∧ va_Nc E nm s)) (hx : covers x pc = true) (h0 : x.catchType ≠ 0)
    (hlink : (Cond.classLink own x.catchType name).before args s = true) (hcast : (Cond.castable E name).before args s = true) (kk : ∀ q : Nat, zAt p l e R s m args below meth c D cl w0 nL cells slots Q ws x.handlerPc lv [.ref q]) :
    zX p l e R s m args below meth c D cl w0 nL cells slots Q ws pc lv E := by
  intro H locs ls st q ce hP hD hS hl hce hcv hcl T hT X
  have hpl : e.platform.magicAccessors = ({} : Platform).magicAccessors := by rw [X.admits.platform]
  obtain ⟨c3, c4, hc3, hc4, hasg⟩ := Cond.castable_spec hcast
  cases Option.some.inj (hc3.symm.trans hcl)
  obtain ⟨c5, hc5, hcl5⟩ := Cond.classLink_spec Z.2.2.2.1 hlink e.platform hpl
  cases Option.some.inj (hc4.symm.trans hc5)
  have hkn : ∃ k, s.vm.classes[ce.cls]? = some k := by
    obtain ⟨k9, h9, -⟩ := Vm.findClass_spec hcl
    exact ⟨k9, h9⟩
  have hps : ∀ z ∈ pre, covers z pc = false ∨ (z.catchType ≠ 0 ∧ ∃ j, s.vm.ClassLinks e.platform m.cls z.catchType j ∧ s.vm.assignable ce.cls j = false) := fun y hy => by
    rcases hpass y hy with h | ⟨hz0, nm, hl1, a8, b8, n1, n2, n3⟩
    · exact Or.inl h
    · obtain ⟨c6, hc6, hcl6⟩ := Cond.classLink_spec Z.2.2.2.1 hl1 e.platform hpl
      cases Option.some.inj (n1.symm.trans hcl)
      cases Option.some.inj (n2.symm.trans hc6)
      exact Or.inr ⟨hz0, _, hcl6, n3⟩
  have hne : ∀ k9, ce.vm ≠ .statics k9 := VmData.ne_statics_of (by rw [hcv]; rfl)
  obtain ⟨vm', hW', hq⟩ := zq_go (e := e) (f := F0 m pc ls st) (a := q) hne hkn x suf hx h0 hcl5 hasg pre ((T.setTop (F0 m pc ls st)).pushFrame (.throwing q)) X.warmed (by show T.heap[q]? = _; rw [hT]; exact hce) hps
  have X' := X.noted hW'
  have st1 := zq_step (tb := p.tables) (g := F0 m pc ls st) (a := q) X.here (fun Q E d acts => by
    rw [Jvm.W.findHandler_eq (meth := meth) (code := c) X.method' X.code, hsplit]
    exact hq Q E d acts)
  obtain ⟨t, a1, b1⟩ := kk q H locs ls hP hD hS hl (T.setVm vm') hT X'
  exact ⟨t, st1.trans a1, b1⟩
/-- what a call by a contract gives, seen from the caller's frame -/
theorem z_back {y : MethodName} {wsY : List Cond} {rm : Room} {tysY : List (ClassId × FieldType)} {wc : va_W} {av : List Value} {postY : zRes → va_W → Prop} {mr sr mc ms maxL : Nat}
    (hM : zMet l y wsY rm D cl tysY wc av postY mr sr mc ms) (hrc : rm.cells = mc) (hrs : rm.slots = ms) (hfr : rm.frames + 1 ≤ R.frames) (hlo : 8 + (maxL + 11) + rm.locals ≤ R.locals)
    (hws : ∀ w ∈ wsY, ∀ (a' : Array Value) (U : State), s.WarmedH U.vm → w.before a' U = true) (hini : ∀ (a' : Array Value) (U : State), s.WarmedH U.vm → (Cond.initialized y.cls).before a' U = true)
    (hcode : ∀ (U : State) (mk : MethodId), s.WarmedH U.vm → U.methodNamed? y = some mk → ∃ methY cY, U.vm.method? mk = some methY ∧ methY.code = some cY ∧ cY.maxLocals = maxL)
    {U : State} {locs : List Loc} {g : JFrame} {ig : Instr} {len : Nat} {mk : MethodId} (X : Stand p l e R s m args below meth c U locs cells slots) (hg : g.method = m) (hsize : g.locals.size = c.maxLocals) (hdg : decode c.code g.pc = .ok (ig, len)) (hW : 2 * g.monitorRoom + (g.stack.map fun v => v.category).sum ≤ 8) (hn : U.methodNamed? y = some mk) (hcl : cells + mc ≤ R.cells ∧ slots + ms ≤ R.slots) (hpre : zPre D cl tysY wc av av.toArray (U.calling g mk av.toArray)) :
    ∃ (o : Outcome) (t T' : State) (L : List Loc), T'.heap = t.heap ∧ T'.vm = t.vm ∧ Stand p l e R s m args below meth c T' (locs ++ L) (cells + zK o mr mc) (slots + zK o sr ms) ∧ (∀ q ∈ L, va_A wc U.heap.size q.base) ∧ zO D cl (va_A wc U.heap.size) postY (U.calling g mk av.toArray) o t ∧
      (∀ v, o = .returned v → Steps p.tables e below (doInvoke e (U.setTop g) [] mk av.toArray).1 (T'.setTop { g with pc := g.pc + len, stack := v.toList ++ g.stack })) ∧
      (∀ q, o = .threw q → Steps p.tables e below (doInvoke e (U.setTop g) [] mk av.toArray).1 ((T'.setTop g).pushFrame (.throwing q))) := by
  have hWU := X.warmed
  have h1 : (headSpec wsY rm).pre.before av.toArray U = true := atoms_intro fun w hw => hws w hw _ _ hWU
  obtain ⟨methY, cY, hmY, hcY, hlY⟩ := hcode U mk hWU hn
  obtain ⟨kY, hkY, -⟩ := className_of_methodNamed hn
  have hinitY : kY.init = .initialized := Cond.initialized_spec (findClass_of_methodNamed hn) hkY (hini av.toArray U hWU)
  have h : At U g.method c below := by rw [hg]; exact X.here
  have hlo' : 8 + (maxL + 11) + (headSpec wsY rm).room.locals ≤ R.locals := hlo
  have happ : (headSpec wsY rm).appliesLoose y e.platform (U.calling g mk av.toArray) = true :=
    Spec.appliesLoose_calling (g := g) h hdg hn hkY hinitY
      (X.room_calling (g := g) (R' := (headSpec wsY rm).room) hsize hmY hcY hfr (by rw [hlY]; omega) (by rw [show (headSpec wsY rm).room.cells = mc from hrc]; exact hcl.1) (by rw [show (headSpec wsY rm).room.slots = ms from hrs]; exact hcl.2)) h1
  obtain ⟨mid, hmid⟩ := h.above
  have hfr' : (U.setTop g).frames = (.java g :: mid) ++ below := by rw [State.frames_setTop' g h.top, hmid]; rfl
  obtain ⟨o, s₂, hsteps, -, hend, hq⟩ := Jvm.Free.Steps.callFree hM p X.admits X.cas X.clock (acts := []) hfr' happ hpre trivial
  have hq' : zO D cl (va_A wc U.heap.size) postY (U.calling g mk av.toArray) o s₂ ∧ zF (va_A wc U.heap.size) (U.calling g mk av.toArray) mr sr mc ms o s₂ := hq
  obtain ⟨hO, hW₂, L, hsm, hL⟩ := hq'
  rw [State.frames_setTop' g h.top] at hend
  obtain ⟨e2, q2, q3, q4, q5, q6⟩ := id hsm
  have e3 : s₂ = ({ (U.calling g mk av.toArray).setFrames s₂.frames with heap := s₂.heap, slotsUsed := s₂.slotsUsed } : State).setVm s₂.vm := by
    have : s₂ = ({ s₂ with vm := (U.calling g mk av.toArray).vm } : State).setVm s₂.vm := rfl
    rw [e2] at this
    exact this
  obtain ⟨g₀, hg0⟩ := Option.isSome_iff_exists.mp h.top
  obtain ⟨r, hr⟩ := State.topJava?_eq_some.mp hg0
  have hr' : (({ U with heap := s₂.heap, slotsUsed := s₂.slotsUsed } : State).setVm s₂.vm).frames = .java g₀ :: r := hr
  have hW' : U.WarmedH s₂.vm := hW₂
  have hsame : U.sameButNew ({ U with heap := s₂.heap, slotsUsed := s₂.slotsUsed } : State) L (zK o mr mc) (zK o sr ms) := by
    refine ⟨?_, q2, q3, q4, q5, q6⟩
    obtain ⟨t, ht, -⟩ := State.frames_cons hr
    show ({ U with heap := s₂.heap, slotsUsed := s₂.slotsUsed } : State) = { U.setFrames U.frames with heap := s₂.heap, slotsUsed := s₂.slotsUsed }
    rw [State.setFrames_self ht]
  have XT : Stand p l e R s m args below meth c (({ U with heap := s₂.heap, slotsUsed := s₂.slotsUsed } : State).setVm s₂.vm) (locs ++ L) (cells + zK o mr mc) (slots + zK o sr ms) :=
    ⟨X.admits, X.cas, X.clock, X.frames, X.room, X.hears, X.method, X.code, (X.here.setHeapUsed s₂.heap s₂.slotsUsed).setVm hW'.alike, X.tail, State.WarmedH.trans X.warmed hW', X.limits, X.bytes, X.same.trans (hsame.setVm s.vm)⟩
  refine ⟨o, s₂, (({ U with heap := s₂.heap, slotsUsed := s₂.slotsUsed } : State).setVm s₂.vm), L, rfl, rfl, XT, hL, hO, fun v hv => ?_, fun q hv => ?_⟩
  · subst hv
    obtain ⟨c₂, i₂, len₂, hc₂, hd₂, hf₂⟩ := hend
    have hcc : c₂ = c := by
      have h9 : s₂.code? g.method = U.code? g.method := by
        rw [State.code?_eq, State.code?_eq, hW'.alike.method?]
      exact Option.some.inj (hc₂.symm.trans (h9.trans h.code))
    subst hcc
    have hlen : len₂ = len := by rw [hdg] at hd₂; cases hd₂; rfl
    subst hlen
    have hs₂ : s₂ = (({ U with heap := s₂.heap, slotsUsed := s₂.slotsUsed } : State).setVm s₂.vm).setTop { g with pc := g.pc + len₂, stack := v.toList ++ g.stack } := by
      refine e3.trans ?_
      rw [hf₂, State.calling_eq h.top, State.setFrames_setFrames, State.setTop_of_frames _ hr', hr]
      rfl
    rw [← hs₂]
    exact hsteps
  · subst hv
    have hf₂ : s₂.frames = .throwing q :: .java g :: U.frames.tail := hend
    have hs₂ : s₂ = ((({ U with heap := s₂.heap, slotsUsed := s₂.slotsUsed } : State).setVm s₂.vm).setTop g).pushFrame (.throwing q) := by
      refine e3.trans ?_
      rw [hf₂, State.calling_eq h.top, State.setFrames_setFrames, State.pushFrame, State.frames_setTop _ hr', State.setTop_of_frames _ hr', State.setFrames_setFrames, hr]
      rfl
    rw [← hs₂]
    exact hsteps
/-- how the caller goes on behind a call -/
theorem z_fin {tysY : List (ClassId × FieldType)} {pre wc suf : va_W} {postY : zRes → va_W → Prop} {mr sr mc ms : Nat} {H : Heap} {locs : List Loc} {ls : Array Slot} {U st₀ t T' : State} {L : List Loc} {o : Outcome} {S0 : State} {rest : List Value}
    (hP : va_P D cl ((pre ++ wc) ++ suf) H) (hD : va_D (va_A w0 s.heap.size) ((pre ++ wc) ++ suf)) (hS : va_S (va_A w0 s.heap.size) s.heap H locs) (hl : lv_has ls nL lv)
    (hU : U.heap = H) (h0 : st₀.heap = H) (hvm : s.WarmedH st₀.vm) (e1 : T'.heap = t.heap) (X' : Stand p l e R s m args below meth c T' (locs ++ L) (cells + zK o mr mc) (slots + zK o sr ms)) (hL : ∀ q ∈ L, va_A wc U.heap.size q.base) (hO : zO D cl (va_A wc U.heap.size) postY st₀ o t)
    (hret : ∀ v, o = .returned v → Steps p.tables e below S0 (T'.setTop (F0 m (pc + 3) ls (v.toList ++ rest)))) (hthr : ∀ q, o = .threw q → Steps p.tables e below S0 ((T'.setTop (F0 m pc ls rest)).pushFrame (.throwing q)))
    (kk : ∀ (v : Option Value) (w : va_W), postY (.inl v) w → zAt p l e R s m args below meth c D cl w0 nL (cells + mr) (slots + sr) Q ((pre ++ w) ++ suf) (pc + 3) lv (v.toList ++ rest))
    (kx : ∀ (E : String) (w : va_W), postY (.inr E) w → zX p l e R s m args below meth c D cl w0 nL (cells + mc) (slots + ms) Q ((pre ++ w) ++ suf) pc lv E) : ∃ t, Steps p.tables e below S0 t ∧ Q t := by
  rw [hU] at hL hO
  obtain ⟨hF, r, w, hpost, hPw, hDw, hR⟩ := hO
  have hfree : ∀ q, va_A wc H.size q → va_A w0 s.heap.size q := fun q hq => by
    rcases hq with ⟨k, e9, hk⟩ | hle
    · exact hD.2 (pre.length + k) (q, e9) (by rw [List.append_assoc, List.getElem?_append_right (Nat.le_add_right _ _), Nat.add_sub_cancel_left, List.getElem?_append_left (List.getElem?_eq_some_iff.mp hk).1]; exact hk)
    · exact Or.inr (Nat.le_trans hS.1 hle)
  have hkeep : ∀ q : Nat, q < H.size → ¬ va_A wc H.size q → t.heap[q]? = H[q]? := fun q h1 h2 => by
    have := hF.2 q (by rw [h0]; exact h1) h2
    rw [h0] at this; exact this
  have hz : H.size ≤ t.heap.size := by have := hF.1; rw [h0] at this; exact this
  obtain ⟨hP2, hD2⟩ := z_join hP hD hkeep hfree hPw hDw
  have hS2 : va_S (va_A w0 s.heap.size) s.heap t.heap (locs ++ L) := ⟨Nat.le_trans hS.1 hz, fun q h1 h2 => by
      rw [hkeep q (Nat.lt_of_lt_of_le h1 hS.1) (fun z => h2 (hfree q z))]; exact hS.2.1 q h1 h2, fun q hq => by
      rcases List.mem_append.mp hq with h | h
      · exact hS.2.2 q h
      · exact hfree _ (hL q h)⟩
  cases r with
  | inl v =>
    have hR' : o = .returned v := hR
    subst hR'
    obtain ⟨t2, a1, b1⟩ := kk v w hpost t.heap (locs ++ L) ls hP2 hD2 hS2 hl T' e1 X'
    exact ⟨t2, (hret v rfl).trans a1, b1⟩
  | inr E =>
    obtain ⟨q, ce, ho, hce, hcv, hcl⟩ := hR
    have hcl' : s.vm.findClass E = some ce.cls := by rw [← hcl, hvm.alike.findClass]
    subst ho
    obtain ⟨t2, a1, b1⟩ := kx E w hpost t.heap (locs ++ L) ls rest q ce hP2 hD2 hS2 hl hce hcv hcl' T' e1 X'
    exact ⟨t2, (hthr q rfl).trans a1, b1⟩
theorem z_pre {pre wc suf : va_W} {av : List Value} {H : Heap} {locs : List Loc} {U : State} (Z : zC p s m args meth c cc nL own Ts D cl tys w0) (hP : va_P D cl ((pre ++ wc) ++ suf) H) (hD : va_D (va_A w0 s.heap.size) ((pre ++ wc) ++ suf)) (hS : va_S (va_A w0 s.heap.size) s.heap H locs) (hU : U.heap = H) (hW : s.WarmedH U.vm) : zPre D cl tys wc av av.toArray U :=
  ⟨rfl, by rw [hU]; exact zP_r (zP_l hP), va_K.moved hW.alike Z.2.2.2.2.2.1, (zD_r (zD_l hD)).weaken (fun _ _ _ _ => trivial), zT_to Z.2.2.2.2.2.2.2.2 Z.2.2.2.2.2.2.1 hW (fun q h1 h2 => by rw [hU]; exact hS.2.1 q h1 h2)⟩
/-- invokevirtual -/
theorem z_callV (Z : zC p s m args meth c cc nL own Ts D cl tys w0) {C : String} {y : MethodName} {bytes : ByteArray} {maxL mr sr mc ms n index ci q0 N : Nat} {ret : Option FieldType} {wsY wsY' : List Cond} {rm : Room} {pre wc suf : va_W} {b : Nat} {As rest : List Value} {postY : zRes → va_W → Prop} {fs : List Value} {T : u_T}
    (hM : zMet l y wsY rm D cl tys wc (.ref b :: As) postY mr sr mc ms) (hG : GoodIn Ts (wsV own index C y wsY)) (hw : wsY = Cond.code y bytes maxL ret :: wsY') (hrc : rm.cells = mc) (hrs : rm.slots = ms)
    (hd : y.cls = C ∧ y.cls ≠ "java/lang/invoke/MethodHandle" ∧ y.cls ≠ "java/lang/invoke/VarHandle" ∧ (parseMethodDescriptor y.desc).map (fun d => d.parameters.length) = some n) (hR : rm.frames + 1 ≤ R.frames ∧ 8 + (maxL + 11) + rm.locals ≤ R.locals)
    (hws : ws = (pre ++ wc) ++ suf) (he : wc[q0]? = some (b, .inr (ci, fs))) (hc : cl[ci]? = some (C, T, N)) (hn : As.length = n) (hst : st = As.reverse ++ .ref b :: rest) (hcat : (rest.map fun v => v.category).sum ≤ 8) (d : decode cc pc = .ok (.invokevirtual index, 3)) (hf : cells + mc ≤ R.cells ∧ slots + ms ≤ R.slots)
    (kx : ∀ (E : String) (w : va_W), postY (.inr E) w → zX p l e R s m args below meth c D cl w0 nL (cells + mc) (slots + ms) Q ((pre ++ w) ++ suf) pc lv E)
    (kk : ∀ (v : Option Value) (w : va_W), postY (.inl v) w → zAt p l e R s m args below meth c D cl w0 nL (cells + mr) (slots + sr) Q ((pre ++ w) ++ suf) (pc + 3) lv (v.toList ++ rest)) : zAt p l e R s m args below meth c D cl w0 nL cells slots Q ws pc lv st := by
  subst hws; subst hst
  intro H locs ls hP hD hS hl T0 hT X
  obtain ⟨⟨-, -, hfr, hlo, hwsY, -, hcode, hini, hy, hlen, hlink⟩, hinst, hsel⟩ := cwV (R := R) (bytes := bytes) (maxL := maxL) (ret := ret) n Z.2.2.2.2.1 hG hw hrc hrs hd hR
  obtain ⟨cellB, hcB, hoB, hclB⟩ := va_recv Z.2.2.2.2.2.1 (zP_r (zP_l hP)) hc he
  obtain ⟨mk, methM, hnamed, hmethM, hstM, habM⟩ := Cond.instanceMethod_spec hinst
  obtain ⟨methM', cM, hmethM', hcM, -, hlM, -, -, -, hsigM⟩ := Cond.code_spec hnamed hcode
  cases hmethM.symm.trans hmethM'
  obtain ⟨c2, r2, m2, q1, q2, q3, q4, kP, hkP, hkPi⟩ := Cond.selects_spec hsel
  cases hclB.symm.trans q1
  cases (State.methodFound?_of_named hnamed hy).symm.trans q2
  cases hnamed.symm.trans q3
  have hselP : selectMethod e.platform s.vm cellB.cls mk = .method mk := by rw [Launch.admits_selectMethod X.admits]; exact q4
  obtain ⟨vm₁, X₁, hstep₁⟩ := X.invokevirtual Z.1 Z.2.2.2.1 hlink hnamed hmethM hstM hkP hkPi hy (a := b) (cell := cellB) (by rw [hT]; exact hcB)
    (fun z h => by rw [h] at hoB; cases hoB) hselP hmethM habM hkP hkPi (g := F0 m pc ls (As.reverse ++ .ref b :: rest)) rfl (argsL := As) (rest := rest) (hn.trans (hlen _ hsigM)) rfl (by rw [Z.2.1]; exact d)
  have hsz : (F0 m pc ls rest).locals.size = c.maxLocals := hl.1.trans Z.2.2.1.symm
  have hWk : 2 * (F0 m pc ls rest).monitorRoom + (rest.map fun v => v.category).sum ≤ 8 := lv_room hcat
  obtain ⟨o, t, T', L, e1, e2, X', hL, hO, k1, k2⟩ := z_back (U := T0.setVm vm₁) (g := F0 m pc ls rest) (ig := .invokevirtual index) (len := 3) (mk := mk) hM hrc hrs hfr hlo hwsY
    (fun a' U hW => word_at hW (Or.inl (by first | rfl | simp [Cond.onTables, Cond.keeps, Cond.steady])) hini)
    (fun U mk' hW hn' => by
      obtain ⟨methY, cY, g1, g2, -, g4, -⟩ := Cond.code_spec hn' (hwsY (Cond.code y bytes maxL ret) (by rw [hw]; exact List.mem_cons_self) #[] U hW)
      exact ⟨methY, cY, g1, g2, g4⟩)
    X₁ rfl hsz (by rw [Z.2.1]; exact d) hWk (X₁.named hnamed) hf (z_pre Z hP hD hS (by exact hT) X₁.warmed)
  exact z_fin (tysY := tys) (U := T0.setVm vm₁) (st₀ := (T0.setVm vm₁).calling (F0 m pc ls rest) mk (Value.ref b :: As).toArray) hP hD hS hl hT hT X₁.warmed e1 X' hL hO
    (fun v hv => hstep₁ _ fun acts => by rw [doInvoke_state]; exact k1 v hv) (fun q hv => hstep₁ _ fun acts => by rw [doInvoke_state]; exact k2 q hv) kk kx
/-- invokestatic; its code with or without a table -/
theorem z_callS (Z : zC p s m args meth c cc nL own Ts D cl tys w0) {y : MethodName} {maxL mr sr mc ms n index : Nat} {wsY : List Cond} {rm : Room} {pre wc suf : va_W} {As rest : List Value} {postY : zRes → va_W → Prop}
    (hM : zMet l y wsY rm D cl tys wc As postY mr sr mc ms) (hG : GoodIn Ts wsY) (hcode : ∀ (a' : Array Value) (U : State), (∀ w ∈ wsY, w.before a' U = true) → ∃ mk methY cY, U.methodNamed? y = some mk ∧ U.vm.method? mk = some methY ∧ methY.code = some cY ∧ cY.maxLocals = maxL ∧ parseMethodDescriptor y.desc = some methY.sig)
    (hrc : rm.cells = mc) (hrs : rm.slots = ms) (hlink : Cond.methodLink own index y ∈ Ts) (hstat : Cond.static y ∈ Ts) (hini : Cond.initialized y.cls ∈ Ts)
    (hd : y.cls ≠ "java/lang/invoke/MethodHandle" ∧ y.cls ≠ "java/lang/invoke/VarHandle" ∧ (parseMethodDescriptor y.desc).map (fun d => d.parameters.length) = some n) (hR : rm.frames + 1 ≤ R.frames ∧ 8 + (maxL + 11) + rm.locals ≤ R.locals)
    (hws : ws = (pre ++ wc) ++ suf) (hn : As.length = n) (hst : st = As.reverse ++ rest) (hcat : (rest.map fun v => v.category).sum ≤ 8) (d : decode cc pc = .ok (.invokestatic index, 3)) (hf : cells + mc ≤ R.cells ∧ slots + ms ≤ R.slots)
    (kx : ∀ (E : String) (w : va_W), postY (.inr E) w → zX p l e R s m args below meth c D cl w0 nL (cells + mc) (slots + ms) Q ((pre ++ w) ++ suf) pc lv E)
    (kk : ∀ (v : Option Value) (w : va_W), postY (.inl v) w → zAt p l e R s m args below meth c D cl w0 nL (cells + mr) (slots + sr) Q ((pre ++ w) ++ suf) (pc + 3) lv (v.toList ++ rest)) : zAt p l e R s m args below meth c D cl w0 nL cells slots Q ws pc lv st := by
  subst hws; subst hst
  intro H locs ls hP hD hS hl T0 hT X
  have hwsY := pay_in Z.2.2.2.2.1 hG
  obtain ⟨mk, methM, cM, hnamed, hmethM, hcM, hlM, hsigM⟩ := hcode args s (fun w hw => hwsY w hw args s (State.WarmedH.refl s))
  have hstatic : methM.isStatic = true := Cond.static_spec hnamed hmethM (Z.2.2.2.2.1 _ hstat)
  obtain ⟨kP, hkP, -⟩ := className_of_methodNamed hnamed
  have hinitP : kP.init = .initialized := Cond.initialized_spec (findClass_of_methodNamed hnamed) hkP (Z.2.2.2.2.1 _ hini)
  have hlen : As.length = methM.sig.parameters.length := by
    have h2 := hd.2.2
    rw [hsigM] at h2
    exact hn.trans (Option.some.inj h2).symm
  obtain ⟨vm₁, X₁, hstep₁⟩ := X.invokestatic Z.1 Z.2.2.2.1 (Z.2.2.2.2.1 _ hlink) hnamed hmethM hstatic hkP hinitP ⟨hd.1, hd.2.1⟩ (g := F0 m pc ls (As.reverse ++ rest)) rfl (argsL := As) (rest := rest) hlen rfl (by rw [Z.2.1]; exact d)
  have hsz : (F0 m pc ls rest).locals.size = c.maxLocals := hl.1.trans Z.2.2.1.symm
  have hWk : 2 * (F0 m pc ls rest).monitorRoom + (rest.map fun v => v.category).sum ≤ 8 := lv_room hcat
  obtain ⟨o, t, T', L, e1, e2, X', hL, hO, k1, k2⟩ := z_back (U := T0.setVm vm₁) (g := F0 m pc ls rest) (ig := .invokestatic index) (len := 3) (mk := mk) (maxL := maxL) hM hrc hrs hR.1 hR.2 hwsY
    (fun a' U hW => word_at hW (Or.inl (by first | rfl | simp [Cond.onTables, Cond.keeps, Cond.steady])) (Z.2.2.2.2.1 _ hini))
    (fun U mk' hW hn' => by
      obtain ⟨mk2, methY, cY, g0, g1, g2, g4, -⟩ := hcode #[] U (fun w hw => hwsY w hw #[] U hW)
      cases Option.some.inj (g0.symm.trans hn')
      exact ⟨methY, cY, g1, g2, g4⟩)
    X₁ rfl hsz (by rw [Z.2.1]; exact d) hWk (X₁.named hnamed) hf (z_pre Z hP hD hS (by exact hT) X₁.warmed)
  exact z_fin (tysY := tys) (U := T0.setVm vm₁) (st₀ := (T0.setVm vm₁).calling (F0 m pc ls rest) mk As.toArray) hP hD hS hl hT hT X₁.warmed e1 X' hL hO
    (fun v hv => hstep₁ _ fun acts => by rw [doInvoke_state]; exact k1 v hv) (fun q hv => hstep₁ _ fun acts => by rw [doInvoke_state]; exact k2 q hv) kk kx
theorem z_code {y : MethodName} {bytes : ByteArray} {maxL : Nat} {ret : Option FieldType} {wsY wsY' : List Cond} (hw : wsY = Cond.code y bytes maxL ret :: wsY') (a' : Array Value) (U : State) (h : ∀ w ∈ wsY, w.before a' U = true) : ∃ mk methY cY, U.methodNamed? y = some mk ∧ U.vm.method? mk = some methY ∧ methY.code = some cY ∧ cY.maxLocals = maxL ∧ parseMethodDescriptor y.desc = some methY.sig := by
  have hc := h (Cond.code y bytes maxL ret) (by rw [hw]; exact List.mem_cons_self)
  obtain ⟨mk, hnamed⟩ := Cond.code_named hc
  obtain ⟨methY, cY, g1, g2, -, g4, -, -, -, g8⟩ := Cond.code_spec hnamed hc
  exact ⟨mk, methY, cY, hnamed, g1, g2, g4, g8⟩
theorem z_codeW {y : MethodName} {bytes : ByteArray} {maxL : Nat} {ret : Option FieldType} {hh : List (Nat × Nat × Nat × Nat)} {wsY wsY' : List Cond} (hw : wsY = Cond.codeWith y bytes maxL ret hh :: wsY') (a' : Array Value) (U : State) (h : ∀ w ∈ wsY, w.before a' U = true) : ∃ mk methY cY, U.methodNamed? y = some mk ∧ U.vm.method? mk = some methY ∧ methY.code = some cY ∧ cY.maxLocals = maxL ∧ parseMethodDescriptor y.desc = some methY.sig := by
  have hc := h (Cond.codeWith y bytes maxL ret hh) (by rw [hw]; exact List.mem_cons_self)
  obtain ⟨mk, methY, cY, hnamed, g1, g2, -, g4, -, -, -, g8⟩ := Cond.codeWith_spec hc
  exact ⟨mk, methY, cY, hnamed, g1, g2, g4, g8⟩
/-- invokespecial of a constructor of ours -/
theorem z_callI (Z : zC p s m args meth c cc nL own Ts D cl tys w0) {y : MethodName} {bytes : ByteArray} {maxL mr sr mc ms n index : Nat} {wsY wsY' : List Cond} {rm : Room} {pre wc suf : va_W} {b : Nat} {As rest : List Value} {postY : zRes → va_W → Prop}
    (hM : zMet l y wsY rm D cl tys wc (.ref b :: As) postY mr sr mc ms) (hG : GoodIn Ts wsY) (hw : wsY = Cond.code y bytes maxL none :: wsY')
    (hrc : rm.cells = mc) (hrs : rm.slots = ms) (hlink : Cond.methodLink own index y ∈ Ts) (hinst : Cond.instanceMethod y ∈ Ts) (hini : Cond.initialized y.cls ∈ Ts) (hy1 : y.name = "<init>")
    (hd : y.cls ≠ "java/lang/invoke/MethodHandle" ∧ y.cls ≠ "java/lang/invoke/VarHandle" ∧ (parseMethodDescriptor y.desc).map (fun d => d.parameters.length) = some n) (hR : rm.frames + 1 ≤ R.frames ∧ 8 + (maxL + 11) + rm.locals ≤ R.locals)
    (hws : ws = (pre ++ wc) ++ suf) (hn : As.length = n) (hst : st = As.reverse ++ .ref b :: rest) (hcat : (rest.map fun v => v.category).sum ≤ 8) (d : decode cc pc = .ok (.invokespecial index, 3)) (hf : cells + mc ≤ R.cells ∧ slots + ms ≤ R.slots)
    (kx : ∀ (E : String) (w : va_W), postY (.inr E) w → zX p l e R s m args below meth c D cl w0 nL (cells + mc) (slots + ms) Q ((pre ++ w) ++ suf) pc lv E)
    (kk : ∀ (v : Option Value) (w : va_W), postY (.inl v) w → zAt p l e R s m args below meth c D cl w0 nL (cells + mr) (slots + sr) Q ((pre ++ w) ++ suf) (pc + 3) lv (v.toList ++ rest)) : zAt p l e R s m args below meth c D cl w0 nL cells slots Q ws pc lv st := by
  subst hws; subst hst
  intro H locs ls hP hD hS hl T0 hT X
  have hwsY := pay_in Z.2.2.2.2.1 hG
  have hcode : (Cond.code y bytes maxL none).before args s = true := hwsY _ (by rw [hw]; exact List.mem_cons_self) args s (State.WarmedH.refl s)
  have hpl : e.platform.magicAccessors = ({} : Platform).magicAccessors := by rw [X.admits.platform]
  obtain ⟨mk, methM, cM, kP, vm₁, hnamed, hmethM, hcodeM, -, hlocalsM, -, hkP, -, hW₁, hstep₁⟩ := Steps.initColdArgs (e := e) X.here Z.1 X.warmed hpl Z.2.2.2.1 hy1 ⟨hd.1, hd.2.1⟩ (Z.2.2.2.2.1 _ hlink) (Z.2.2.2.2.1 _ hinst) hcode (f := F0 m pc ls (As.reverse ++ .ref b :: rest)) rfl (argsL := As) (rest := rest) (fun sig h => by
      have h2 := hd.2.2
      rw [h] at h2
      exact hn.trans (Option.some.inj h2).symm) rfl (by rw [Z.2.1]; exact d)
  have X₁ := X.noted hW₁
  have hsz : (F0 m pc ls rest).locals.size = c.maxLocals := hl.1.trans Z.2.2.1.symm
  have hWk : 2 * (F0 m pc ls rest).monitorRoom + (rest.map fun v => v.category).sum ≤ 8 := lv_room hcat
  obtain ⟨o, t, T', L, e1, e2, X', hL, hO, k1, k2⟩ := z_back (U := T0.setVm vm₁) (g := F0 m pc ls rest) (ig := .invokespecial index) (len := 3) (mk := mk) (maxL := maxL) hM hrc hrs hR.1 hR.2 hwsY
    (fun a' U hW => word_at hW (Or.inl (by first | rfl | simp [Cond.onTables, Cond.keeps, Cond.steady])) (Z.2.2.2.2.1 _ hini))
    (fun U mk' hW hn' => by
      obtain ⟨methY, cY, g1, g2, -, g4, -⟩ := Cond.code_spec hn' (hwsY (Cond.code y bytes maxL none) (by rw [hw]; exact List.mem_cons_self) #[] U hW)
      exact ⟨methY, cY, g1, g2, g4⟩)
    X₁ rfl hsz (by rw [Z.2.1]; exact d) hWk (X₁.named hnamed) hf (z_pre Z hP hD hS (by exact hT) X₁.warmed)
  exact z_fin (tysY := tys) (U := T0.setVm vm₁) (st₀ := (T0.setVm vm₁).calling (F0 m pc ls rest) mk (Value.ref b :: As).toArray) hP hD hS hl hT hT X₁.warmed e1 X' hL hO
    (fun v hv => hstep₁ _ fun acts => by rw [doInvoke_state]; exact k1 v hv) (fun q hv => hstep₁ _ fun acts => by rw [doInvoke_state]; exact k2 q hv) kk kx
/-- 'throw new cls("text")' in a method without a table -/
def zNo (w : Cond) : Bool := decide (w ≠ .isRef (.static Jvm.Bundle.tN "UNASSIGNED_STACK" Jvm.Bundle.steD)) && decide (w ≠ .isRef (.static Jvm.Bundle.tN "SUPPRESSED_SENTINEL" Jvm.Bundle.listD)) && decide (w ≠ .laysStatic Jvm.Bundle.tN "UNASSIGNED_STACK" Jvm.Bundle.steD) && decide (w ≠ .laysStatic Jvm.Bundle.tN "SUPPRESSED_SENTINEL" Jvm.Bundle.listD)
theorem z_own {L : List Cond} (hz : zT s) (h : ∀ w ∈ L.filter zNo, w.before args s = true) : ∀ w ∈ L, w.before args s = true := by
  intro w hw
  obtain ⟨⟨a1, -, a3⟩, ⟨b1, -, b3⟩, -⟩ := id hz
  by_cases e1 : w = .isRef (.static Jvm.Bundle.tN "UNASSIGNED_STACK" Jvm.Bundle.steD)
  · rw [e1]; exact a3
  by_cases e2 : w = .isRef (.static Jvm.Bundle.tN "SUPPRESSED_SENTINEL" Jvm.Bundle.listD)
  · rw [e2]; exact b3
  by_cases e3 : w = .laysStatic Jvm.Bundle.tN "UNASSIGNED_STACK" Jvm.Bundle.steD
  · rw [e3]; exact a1
  by_cases e4 : w = .laysStatic Jvm.Bundle.tN "SUPPRESSED_SENTINEL" Jvm.Bundle.listD
  · rw [e4]; exact b1
  exact h w (List.mem_filter.mpr ⟨hw, by simp [zNo, e1, e2, e3, e4]⟩)
/-- this frame, as if its method were called in the heap as it is now -/
theorem z_base {T : State} {locs : List Loc} (X : Stand p l e R s m args below meth c T locs cells slots) (hc : cells + 1 ≤ R.cells) (hs : slots + 6 ≤ R.slots) :
    Stand p l e { frames := R.frames, locals := R.locals, cells := 1, slots := 6 } ((T.setVm s.vm).setFrames (.invoking m args :: below)) m args below meth c T [] 0 0 := by
  obtain ⟨g₀, hg0⟩ := Option.isSome_iff_exists.mp (show (T.setVm s.vm).topJava?.isSome from X.here.top)
  obtain ⟨r, hr⟩ := State.topJava?_eq_some.mp hg0
  obtain ⟨t, ht, -⟩ := State.frames_cons hr
  have hF : ((T.setVm s.vm).setFrames (.invoking m args :: below)).frames = .invoking m args :: below := State.frames_setFrames _ (State.cur_lt_of_frames hr)
  have hl9 : e.platform.stackLimits (T.setVm s.vm).me = e.platform.stackLimits s.me := X.limits
  have hb9 : (T.setVm s.vm).me.stackBytes = s.me.stackBytes := X.bytes
  have hdr : T.heap.toList.drop T.heap.size = [] := List.drop_eq_nil_of_le (Nat.le_of_eq Array.length_toList)
  have hroom : ((T.setVm s.vm).setFrames (.invoking m args :: below)).hasRoom e.platform { frames := R.frames, locals := R.locals, cells := 1, slots := 6 } = true := by
    have h := X.room
    have hU : ((T.setVm s.vm).setFrames (.invoking m args :: below)).localsInUse = s.localsInUse := by
      rw [State.localsInUse_invoking hF (meth := meth) (c := c) X.method X.code, State.localsInUse_invoking X.frames X.method X.code]
    simp only [State.hasRoom, Bool.and_eq_true, decide_eq_true_eq] at h ⊢
    obtain ⟨⟨⟨⟨h1, h2, h3, h4, h5, h6⟩, h7⟩, h8⟩, h9⟩ := h
    rw [X.frames, List.length_cons] at h2 h3
    have q1 := X.heapSize
    have q2 := X.used
    simp only [hF, hU, List.length_cons, State.stackLimits_setFrames, State.stackBytes_setFrames, hl9, hb9]
    refine ⟨⟨⟨⟨by omega, by omega, by omega, by omega, by omega, h6⟩, ?_⟩, ?_⟩, X.book⟩
    · show T.heap.size + 1 ≤ e.platform.maxCells
      omega
    · show T.slotsUsed + 6 ≤ e.platform.maxSlots
      omega
  have hsame : ((T.setVm s.vm).setFrames (.invoking m args :: below)).sameButNew (T.setVm s.vm) [] 0 0 := by
    refine ⟨?_, Nat.le_refl _, Nat.le_refl _, ?_, ?_, fun a c9 h9 => ⟨c9, h9, rfl, rfl, fun _ _ => rfl⟩⟩
    · show T.setVm s.vm = { ((T.setVm s.vm).setFrames (.invoking m args :: below)).setFrames (T.setVm s.vm).frames with heap := T.heap, slotsUsed := T.slotsUsed }
      rw [State.setFrames_setFrames, State.setFrames_self ht]
      rfl
    · show T.slotsUsed = T.slotsUsed + ((T.heap.toList.drop T.heap.size).map (·.slots.size)).sum
      rw [hdr]; rfl
    · show ((T.heap.toList.drop T.heap.size).map (·.slots.size)).sum ≤ 0
      rw [hdr]; exact Nat.le_refl _
  exact ⟨X.admits, X.cas, X.clock, hF, hroom, X.hears, X.method, X.code, X.here, X.tail, X.warmed, by rw [State.stackLimits_setFrames]; rfl, by rw [State.stackBytes_setFrames]; rfl, hsame⟩
theorem z_tab {u U : State} {w : Cond} {a1 a2 : Array Value} (hv : u.vm = U.vm) (hg : (w.onTables || goodWord w) = true) (h : w.before a1 u = true) : w.before a2 U = true := by
  rcases Bool.or_eq_true _ _ ▸ hg with hg | hg
  · exact va_tabs hg hv h
  · exact word_at (by rw [← hv]; exact State.WarmedH.refl u) (good_of_word hg) h
theorem z_throw (Z : zC p s m args meth c cc nL own Ts D cl tys w0) (hlt : l.stackTraces = false) {cls text : String} {names : List String} {ik is ic mr sr mc ms : Nat} {post : zRes → va_W → Prop}
    (hcls : Jvm.Bundle.fit cls = true) (hnames : ∀ n ∈ names, Jvm.Bundle.fit n = true) (hstr : (own, is, text) ∈ zStrs) (hat : ∀ w ∈ Cond.classLink own ik cls :: Cond.initialized cls :: (Jvm.Bundle.ownAtoms own ic cls names).filter zNo, ((w ∈ Ts) ∨ zWk w = true) ∧ (w.onTables || goodWord w) = true)
    (d0 : decode cc pc = .ok (.new ik, 3)) (d3 : decode cc (pc + 3) = .ok (.dup, 1)) (d4 : decode cc (pc + 4) = .ok (.ldc is, 2)) (d6 : decode cc (pc + 6) = .ok (.invokespecial ic, 3)) (d9 : decode cc (pc + 9) = .ok (.athrow, 1))
    (hout : ∀ x ∈ c.exceptionTable.toList, covers x (pc + 9) = false)
    (hRframes : names.length + 3 < R.frames) (hRlocals : 13 * (names.length + 1) + 43 ≤ R.locals) (hRcells : cells + 1 ≤ R.cells) (hRslots : slots + 6 ≤ R.slots) (hc : cells + 1 ≤ mc) (hs : slots + 6 ≤ ms) (hq : post (.inr cls) ws) :
    zAt p l e R s m args below meth c D cl w0 nL cells slots (zEnd below D cl w0 post s mr sr mc ms) ws pc lv [] := by
  intro H locs ls hP hD hS hl T hT X
  have htr : e.platform.stackTraces = false := (show e.platform.stackTraces = l.stackTraces by rw [X.admits.platform]).trans hlt
  have Y := z_base X hRcells hRslots
  obtain ⟨s', hA⟩ : ∃ z, z = (T.setVm s.vm).setFrames (.invoking m args :: below) := ⟨_, rfl⟩
  rw [← hA] at Y
  have hvm : s'.vm = s.vm := by rw [hA]; rfl
  have hhp : s'.heap = H := by rw [hA]; exact hT
  have hW0 : s.WarmedH s'.vm := by rw [hvm]; exact State.WarmedH.refl s
  have hts : ∀ w ∈ Cond.classLink own ik cls :: Cond.initialized cls :: (Jvm.Bundle.ownAtoms own ic cls names).filter zNo, w.before args s' = true := fun w hw => z_tab hvm.symm (hat w hw).2 ((hat w hw).1.elim (Z.2.2.2.2.1 w) (zWk_at Z.2.2.2.2.2.2.2.2))
  have hzT : zT s' := zT_to Z.2.2.2.2.2.2.2.2 Z.2.2.2.2.2.2.1 hW0 (fun q h1 h2 => by rw [hhp]; exact hS.2.1 q h1 h2)
  have hAt : ∀ w ∈ Jvm.Bundle.ownAtoms own ic cls names, w.before args s' = true := z_own hzT (fun w hw => hts w (List.mem_cons_of_mem _ (List.mem_cons_of_mem _ hw)))
  have hown' : s'.vm.findClass own = some m.cls := by rw [hvm]; exact Z.2.2.2.1
  have hins : (Cond.instantiable cls 6).before args s' = true := hAt _ (by simp [Jvm.Bundle.ownAtoms])
  obtain ⟨vm₁, cX, kX, hfX, hkX, -, -, X₁, st1⟩ := Y.newCold Z.1 (own := own) (C := cls) (index := ik) (n := 6) hown' (hts _ List.mem_cons_self) hins (hts _ (List.mem_cons_of_mem _ List.mem_cons_self))
    (g := F0 m pc ls []) rfl (by rw [Z.2.1]; exact d0) (Nat.le_refl _) (Nat.le_refl _)
  generalize hT1 : (T.setVm vm₁).pushCell { cls := cX, slots := kX.instanceTypes.map defaultValue, vm := .none } = T1 at X₁ st1
  have hcellA : T1.heap[T.heap.size]? = some (freshCell cX kX) := by rw [← hT1]; exact State.heap_pushCell_size _ _
  have d3' : decode c.code (pc + 3) = .ok (.dup, 1) := by rw [Z.2.1]; exact d3
  have d4' : decode c.code (pc + 4) = .ok (.ldc is, 2) := by rw [Z.2.1]; exact d4
  obtain ⟨sa, hstr'⟩ := hzT.2.2.1 _ hstr
  have hcat : (Value.ref T.heap.size).category = 1 := rfl
  obtain ⟨U, hsteps, hrun, hend, hW, hsame, ce, hce, hO⟩ := X₁.ctorThrowS Z.1 htr (own := own) (cls := cls) (names := names) (ic := ic) hown' hcls hnames hAt (fun x hx => nomatch hx) hfX hkX hcellA (by rw [hhp, hT]; exact Nat.le_refl _) (msg := .ref sa) rfl
    (g := { method := m, pc := pc + 6, locals := ls, stack := .ref sa :: .ref T.heap.size :: .ref T.heap.size :: [], locked := none }) rfl (hl.1.trans Z.2.2.1.symm) rfl rfl (rest := []) rfl
    (by rw [Z.2.1]; exact d6) (by rw [Z.2.1]; exact d9) hout hRframes (by simp only [List.map_cons, List.map_nil, List.sum_cons, List.sum_nil, hcat]; show 2 * (0 : Nat) + _ + _ ≤ _; omega) Z.2.2.2.2.2.2.2.1
  have hWs : s.WarmedH U.vm := State.WarmedH.trans hW0 hW
  have hcl : s.vm.findClass cls = some ce.cls := by
    have h9 := hO.cls
    rw [hvm] at h9
    exact h9
  obtain ⟨f1, f2⟩ : H.size ≤ U.heap.size ∧ ∀ q : Nat, q < H.size → U.heap[q]? = H[q]? := by
    obtain ⟨-, h2, -, -, -, h6⟩ := hsame
    rw [← hhp]
    refine ⟨h2, fun q hq => ?_⟩
    obtain ⟨c9, e1, e2, e3, e4⟩ := h6 q _ (Array.getElem?_eq_getElem hq)
    have hs9 : c9.slots = (s'.heap[q]).slots := Array.ext_getElem? fun i => e4 i (fun hm => nomatch hm)
    have h9 : c9 = s'.heap[q] := by
      rw [hs9] at e2
      exact e2
    have e5 : U.heap[q]? = some c9 := e1
    rw [e5, h9, Array.getElem?_eq_getElem hq]
  have hall : s.sameButNew ({ U with vm := s.vm } : State) locs mc ms := by
    subst hA
    obtain ⟨e1, e2⟩ := hsame
    rw [State.setFrames_setFrames] at e1
    have h2 : (T.setVm s.vm).sameButNew ({ U with vm := s.vm } : State) [] (0 + 1) (0 + 6) := ⟨e1, e2⟩
    have h3 := X.same.trans h2
    rw [List.append_nil] at h3
    exact h3.mono hc hs
  refine ⟨U, ?_, .threw T.heap.size, hrun, hend, ⟨⟨Nat.le_trans hS.1 f1, fun q h1 h2 => by rw [f2 q (Nat.lt_of_lt_of_le h1 hS.1)]; exact hS.2.1 q h1 h2⟩, .inr cls, ws, hq, hP.kept (fun k q hk => f2 q.1 (hP k q hk).lt), hD, T.heap.size, ce, rfl, hce, hO.vm, hcl⟩, hWs, locs, hall, hS.2.2⟩
  refine st1 _ ?_
  show Steps p.tables e below (T1.setTop { method := m, pc := pc + 3, locals := ls, stack := .ref T.heap.size :: [], locked := none }) _
  jvm_step X₁.here [X₁.here.top, Z.1, d3', Value.category]
  exact X₁.ldcString Z.1 (own := own) (text := text) (index := is) (a := sa) hown' hstr'.1 hstr'.2
    (g := { method := m, pc := pc + 4, locals := ls, stack := .ref T.heap.size :: .ref T.heap.size :: [], locked := none }) rfl d4' _ hsteps
/-- NoSuchElementException passes its message on by another place of its pool: its own words -/
def nsN : String := "java/util/NoSuchElementException"
def nsR : String := "java/lang/RuntimeException"
def nsE : List String := ["java/lang/Exception"]
def zNS : List Cond := (Jvm.Bundle.ownAtoms R_X 145 nsN (nsR :: nsE)).filter (fun w => decide (w ≠ .code (Jvm.Bundle.initS nsN) Jvm.Bundle.six 2 none) && decide (w ≠ .methodLink nsN 7 (Jvm.Bundle.initS nsR))) ++ [.code (Jvm.Bundle.initS nsN) prog_12_method_4_code 2 none, .methodLink nsN 13 (Jvm.Bundle.initS nsR)]
theorem ns_0 : decode prog_12_method_4_code 0 = .ok (.aload_n 0, 1) := by decide +kernel
theorem ns_1 : decode prog_12_method_4_code 1 = .ok (.aload_n 1, 1) := by decide +kernel
theorem ns_2 : decode prog_12_method_4_code 2 = .ok (.invokespecial 13, 3) := by decide +kernel
theorem ns_5 : decode prog_12_method_4_code 5 = .ok (.return_, 1) := by decide +kernel
theorem ns_in {A : List Cond} (h : (A.all fun w => decide (w ∈ zNS)) = true) : ∀ w ∈ A, w ∈ zNS := fun w hw => of_decide_eq_true (List.all_eq_true.mp h w hw)
theorem ns_T : ∀ w ∈ Jvm.Bundle.throwableAtoms, w ∈ zNS := ns_in (by decide +kernel)
theorem ns_S : ∀ w ∈ Jvm.Bundle.throwableSAtoms, w ∈ zNS := ns_in (by decide +kernel)
theorem ns_P : ∀ w ∈ Jvm.Bundle.passSAtoms nsN nsR 13 prog_12_method_4_code, w ∈ zNS := ns_in (by decide +kernel)
theorem ns_C : ∀ w ∈ Jvm.Bundle.chainSAtoms nsR nsE, w ∈ zNS := ns_in (by decide +kernel)
def nsTail : List Cond := [.methodLink R_X 145 (Jvm.Bundle.initS nsN), .instantiable nsN 6, .castable nsN nsN, .selects nsN Jvm.Bundle.tFill0 Jvm.Bundle.tFill0, .selects nsN Jvm.Bundle.tFill Jvm.Bundle.tFill, .isRef (.static Jvm.Bundle.tN "UNASSIGNED_STACK" Jvm.Bundle.steD), .isRef (.static Jvm.Bundle.tN "SUPPRESSED_SENTINEL" Jvm.Bundle.listD), .fieldLink Jvm.Bundle.tN 198 Jvm.Bundle.tN "backtrace" "Ljava/lang/Object;", .lays Jvm.Bundle.tN Jvm.Bundle.tN "backtrace" "Ljava/lang/Object;", .lays nsN Jvm.Bundle.tN "cause" "Ljava/lang/Throwable;", .lays nsN Jvm.Bundle.tN "stackTrace" Jvm.Bundle.steD, .lays nsN Jvm.Bundle.tN "suppressedExceptions" Jvm.Bundle.listD, .lays nsN Jvm.Bundle.tN "detailMessage" "Ljava/lang/String;", .lays nsN Jvm.Bundle.tN "backtrace" "Ljava/lang/Object;", .instanceMethod (Jvm.Bundle.initS nsN), .code (Jvm.Bundle.initS nsN) prog_12_method_4_code 2 none]
theorem ns_L : ∀ w ∈ nsTail, w ∈ zNS := ns_in (by decide +kernel)
theorem ns_at {s : State} {args : Array Value} (h : ∀ w ∈ zNS, w.before args s = true) (i : Nat) {w : Cond} (hw : nsTail[i]? = some w) : w.before args s = true := h w (ns_L w (List.mem_of_getElem? hw))
/-- the message passed up to Throwable, no trace filled in: the new object is thrown -/
theorem z_ctorN {W : State} {locs : List Loc} (X : Stand p l e R s m args below meth c W locs cells slots) (hexec : p.tables.exec = Jvm.exec) (htr : e.platform.stackTraces = false) (hown : s.vm.findClass R_X = some m.cls) (h : ∀ w ∈ zNS, w.before args s = true) (hlocs : ∀ x ∈ locs, ∀ cell, s.heap[x.base]? = some cell → cell.vm.isStatics = false)
    {a : Addr} {cX : ClassId} {kX : Class} (hfX : s.vm.findClass nsN = some cX) (hkX : s.vm.classes[cX]? = some kX) (hcell : W.heap[a]? = some (freshCell cX kX)) (hnew : s.heap.size ≤ a) {msg : Value} (hmsg : msg.isRef = true)
    {g : JFrame} (hg : g.method = m) (hsize : g.locals.size = c.maxLocals) (hlocked : g.locked = none) (hentered : g.entered = []) {rest : List Value} (hstack : g.stack = msg :: .ref a :: .ref a :: rest)
    (hd6 : decode c.code g.pc = .ok (.invokespecial 145, 3)) (hd9 : decode c.code (g.pc + 3) = .ok (.athrow, 1)) (hout : ∀ x ∈ c.exceptionTable.toList, covers x (g.pc + 3) = false)
    (hRf : 5 < R.frames) (hRl : 2 * g.monitorRoom + ((Value.ref a :: rest).map fun v => v.category).sum + 81 ≤ R.locals) (hlocks : meth.locks = false) :
    ∃ U : State, Steps p.tables e below (W.setTop g) U ∧ U.status = .running ∧ Ended U below (.threw a) ∧ s.WarmedH U.vm ∧ s.sameButNew ({ U with vm := s.vm } : State) locs cells slots ∧ ∃ ce : Cell, U.heap[a]? = some ce ∧ s.vm.findClass nsN = some ce.cls ∧ ce.vm = .none := by
  have e1 : e.platform.frameOwnsMonitors = true := by rw [X.admits.platform]
  have e2 : e.platform.finalization = false := by rw [X.admits.platform]
  have hpl : e.platform.magicAccessors = ({} : Platform).magicAccessors := by rw [X.admits.platform]
  obtain ⟨T, I0, L, -, Y⟩ := ThrowableC.of_atoms (args := args) e1 e2 hpl (fun w hw => h w (ns_T w hw))
  obtain ⟨I, M, LI, LM, hnI⟩ := Init0T.ofS_atoms (args := args) hpl L Y (fun w hw => h w (ns_S w hw))
  obtain ⟨P, LP, hPm, hPs⟩ := PassC.ofS_atoms (args := args) (s := s) hpl (X := nsN) (Y := nsR) (by decide) (by decide) ns_0 ns_1 ns_2 ns_5 (fun w hw => h w (ns_P w hw))
  obtain ⟨P', Ps, hlen, LP', hL, hm', hsup, hpass⟩ := Jvm.Bundle.chainS (args := args) hpl hnI nsE nsR (by decide +kernel) (by decide +kernel) (fun w hw => h w (ns_C w hw))
  have hfound : s.vm.findClass nsN = some P.m.cls := findClass_of_methodNamed hPm
  cases Option.some.inj (hfX.symm.trans hfound)
  obtain ⟨c1, kX', hc1, hk, hord, -, -, hn6⟩ := Cond.instantiable_spec (ns_at h 1 rfl)
  cases Option.some.inj (hc1.symm.trans hfound)
  cases Option.some.inj (hkX.symm.trans hk)
  have s0 : selectMethod e.platform s.vm P.m.cls T.fill0 = .method T.fill0 := by
    obtain ⟨c2, r2, m2, q1, q2, q3, q4, -⟩ := Cond.selects_spec (ns_at h 3 rfl)
    cases Option.some.inj (q1.symm.trans hfound)
    cases Option.some.inj (q2.symm.trans (State.methodFound?_of_named Y.fill0 (by decide)))
    cases Option.some.inj (q3.symm.trans Y.fill0)
    rw [Launch.admits_selectMethod X.admits]; exact q4
  have s1 : selectMethod e.platform s.vm P.m.cls T.fill = .method T.fill := by
    obtain ⟨c2, r2, m2, q1, q2, q3, q4, -⟩ := Cond.selects_spec (ns_at h 4 rfl)
    cases Option.some.inj (q1.symm.trans hfound)
    cases Option.some.inj (q2.symm.trans (State.methodFound?_of_named Y.fill (by decide)))
    cases Option.some.inj (q3.symm.trans Y.fill)
    rw [Launch.admits_selectMethod X.admits]; exact q4
  obtain ⟨cS0, hcS0, hiss⟩ := Y.statics
  obtain ⟨u0, hu0⟩ := Cond.staticRefV Y.unassigned L.unassignedStatic L.statics hcS0 hiss (ns_at h 5 rfl)
  obtain ⟨sen, hsen⟩ := Cond.staticRefV Y.sentinel L.sentinelStatic L.statics hcS0 hiss (ns_at h 6 rfl)
  obtain ⟨ci, ii, fB, b1, b2, b3, b4, -, hnB, htB, hffB⟩ := Cond.ownField (t := .object "java/lang/Object") Y.found L.cls (by decide +kernel) (ns_at h 7 rfl) (ns_at h 8 rfl) e.platform hpl
  obtain ⟨cellS, hcS', heS, -, hkeep⟩ := X.same.2.2.2.2.2 T.aS cS0 hcS0
  have hno : ∀ i, (⟨T.aS, i⟩ : Loc) ∉ locs := fun i hm => by
    have := hlocs _ hm cS0 hcS0
    rw [hiss] at this; cases this
  have hkS : cellS.vm ≠ .unknown := by
    rw [heS]; intro hu
    rw [show cS0.vm = .unknown from hu] at hiss
    cases hiss
  have hne : T.aS ≠ a := Nat.ne_of_lt (Nat.lt_of_lt_of_le (Array.getElem?_eq_some_iff.mp hcS0).1 hnew)
  obtain ⟨iM, hffM⟩ := Y.msg
  obtain ⟨tyC, dC, hdC, nC⟩ := Cond.laysAt hfound hk Y.cause (ns_at h 9 rfl)
  obtain ⟨tyS, dS, hdS, nS⟩ := Cond.laysAt hfound hk Y.stack (ns_at h 10 rfl)
  obtain ⟨tyP, dP, hdP, nP⟩ := Cond.laysAt hfound hk Y.supp (ns_at h 11 rfl)
  obtain ⟨tyM, dM, hdM, nM⟩ := Cond.laysAt hfound hk hffM (ns_at h 12 rfl)
  obtain ⟨tyB, dB, hdB, nB⟩ := Cond.laysAt hfound hk hffB (ns_at h 13 rfl)
  have bC := Cond.laysApart hdB hdC nB nC (by rw [hnB, Y.causeName]; decide)
  have bS := Cond.laysApart hdB hdS nB nS (by rw [hnB, Y.stackName]; decide)
  have bP := Cond.laysApart hdB hdP nB nP (by rw [hnB, Y.suppName]; decide)
  have hskip : SkipFacts T e.platform s (fun u => u) u0 ((preparedCellV T.toThrowableT (freshCell P.m.cls kX) a u0 sen).withEntry W.cur) := ⟨{ ci198 := ci, i198 := ii, fBack := fB }, ⟨b1, b2, b3, b4⟩, by
      have := fresh_default (c := P.m.cls) tyB
      rw [htB] at this
      simpa [preparedCellV, Cell.setSlot, Cell.withEntry, Array.getElem?_setIfInBounds, bC, bS, bP, bC.symm, bS.symm, bP.symm, defaultValue] using this, fun _ _ => rfl⟩
  obtain ⟨tm, methC, cdC, kC, vm₁, hnC, -, -, -, -, -, -, -, hW₁, st1⟩ := Steps.initColdS (tb := p.tables) (e := e) (below := below) (s := s) (U := W) X.here hexec X.warmed hpl hown (t := Jvm.Bundle.initS nsN) rfl rfl (by decide) (ns_at h 0 rfl) (ns_at h 14 rfl) (bytes := prog_12_method_4_code) (maxL := 2) (ns_at h 15 rfl) (f := g) hg (a := a) (msg := msg) (rest := .ref a :: rest) hstack hd6
  cases Option.some.inj (hnC.symm.trans hPm)
  have hlink1 : P.sup = firstOf (I.m T.toThrowableT) ((P' :: Ps).map (·.toPassT)) := Option.some.inj (hPs.symm.trans hm')
  have hlen1 : Ps.length = 1 := hlen
  obtain ⟨vm₂, X₂, st2⟩ := (X.noted hW₁).ctorMessageOffV hexec (g := { g with stack := .ref a :: rest }) hg hsize T L I LI M LM (P :: P' :: Ps)
    (fun Q hQ => by rcases List.mem_cons.mp hQ with rfl | hQ; exact LP; rcases List.mem_cons.mp hQ with rfl | hQ; exact LP'; exact hL Q hQ) ⟨hlink1, hsup, hpass⟩ (u0 := u0) (sen := sen) (self := a) hmsg (cell := freshCell P.m.cls kX) (cellS := cellS)
    hcell (fun _ => by simp) (by simp) rfl rfl s0 s1 hcS' hne hkS (by rw [hkeep _ (hno _)]; exact hu0) (by rw [hkeep _ (hno _)]; exact hsen)
    (Takes.of_laid hk hord tyC (by rw [Y.causeType]; rfl)) (Takes.of_laid hk hord tyS (by rw [Y.stackType]; exact fits_refV_array _ u0)) (Takes.of_laid hk hord tyP (by rw [Y.suppType]; exact fits_refV_object _ sen))
    (Takes.of_laid hk hord tyM (by rw [Y.msgType]; exact fits_refV_object _ ⟨msg, hmsg⟩)) Y.objLocals hskip htr [] hd6
    (by simp only [List.length_cons, hlen1]; omega) (by simp only [List.length_cons, hlen1]; exact hRl)
  obtain ⟨hwalk, hrun, hended, hWU, hsame⟩ := X₂.athrowLeaves hexec (g := { g with stack := .ref a :: rest, pc := g.pc + 3 }) hg hlocked hentered hout (a := a) (rest := rest) rfl hd9 hlocks
  have hlt : a < ((W.setVm vm₁).setVm vm₂).heap.size := (Array.getElem?_eq_some_iff.mp hcell).1
  have hU := heapAt_setCell_self (s := (W.setVm vm₁).setVm vm₂) (plainBareV T.toThrowableT (freshCell P.m.cls kX) a u0 sen msg) hlt
  refine ⟨_, st1 _ (fun acts => ?_), hrun, hended, hWU, hsame.weaken (fun y hy hlt' => ?_) (Nat.le_refl _) (Nat.le_refl _), _, hU, hfound, rfl⟩
  · rw [doInvoke_state]
    exact st2 _ hwalk
  · rcases List.mem_append.mp hy with h1 | h1
    · exact h1
    · exfalso
      have hb : y.base = a := by
        simp only [List.mem_cons, List.not_mem_nil, or_false] at h1
        rcases h1 with rfl | rfl | rfl | rfl | rfl <;> rfl
      rw [hb] at hlt'
      exact Nat.not_lt.mpr hnew hlt'
theorem z_throwN (Z : zC p s m args meth c cc nL R_X Ts D cl tys w0) (hlt : l.stackTraces = false) {text : String} {ik is mr sr mc ms : Nat} {post : zRes → va_W → Prop}
    (hstr : (R_X, is, text) ∈ zStrs) (hat : ∀ w ∈ Cond.classLink R_X ik nsN :: Cond.initialized nsN :: zNS.filter zNo, ((w ∈ Ts) ∨ zWk w = true) ∧ (w.onTables || goodWord w) = true)
    (d0 : decode cc pc = .ok (.new ik, 3)) (d3 : decode cc (pc + 3) = .ok (.dup, 1)) (d4 : decode cc (pc + 4) = .ok (.ldc is, 2)) (d6 : decode cc (pc + 6) = .ok (.invokespecial 145, 3)) (d9 : decode cc (pc + 9) = .ok (.athrow, 1))
    (hout : ∀ x ∈ c.exceptionTable.toList, covers x (pc + 9) = false)
    (hRframes : 5 < R.frames) (hRlocals : 82 ≤ R.locals) (hRcells : cells + 1 ≤ R.cells) (hRslots : slots + 6 ≤ R.slots) (hc : cells + 1 ≤ mc) (hs : slots + 6 ≤ ms) (hq : post (.inr nsN) ws) :
    zAt p l e R s m args below meth c D cl w0 nL cells slots (zEnd below D cl w0 post s mr sr mc ms) ws pc lv [] := by
  intro H locs ls hP hD hS hl T hT X
  have htr : e.platform.stackTraces = false := (show e.platform.stackTraces = l.stackTraces by rw [X.admits.platform]).trans hlt
  have Y := z_base X hRcells hRslots
  obtain ⟨s', hA⟩ : ∃ z, z = (T.setVm s.vm).setFrames (.invoking m args :: below) := ⟨_, rfl⟩
  rw [← hA] at Y
  have hvm : s'.vm = s.vm := by rw [hA]; rfl
  have hhp : s'.heap = H := by rw [hA]; exact hT
  have hW0 : s.WarmedH s'.vm := by rw [hvm]; exact State.WarmedH.refl s
  have hts : ∀ w ∈ Cond.classLink R_X ik nsN :: Cond.initialized nsN :: zNS.filter zNo, w.before args s' = true := fun w hw => z_tab hvm.symm (hat w hw).2 ((hat w hw).1.elim (Z.2.2.2.2.1 w) (zWk_at Z.2.2.2.2.2.2.2.2))
  have hzT : zT s' := zT_to Z.2.2.2.2.2.2.2.2 Z.2.2.2.2.2.2.1 hW0 (fun q h1 h2 => by rw [hhp]; exact hS.2.1 q h1 h2)
  have hAt : ∀ w ∈ zNS, w.before args s' = true := z_own hzT (fun w hw => hts w (List.mem_cons_of_mem _ (List.mem_cons_of_mem _ hw)))
  have hown' : s'.vm.findClass R_X = some m.cls := by rw [hvm]; exact Z.2.2.2.1
  have hins : (Cond.instantiable nsN 6).before args s' = true := ns_at hAt 1 rfl
  obtain ⟨vm₁, cX, kX, hfX, hkX, -, -, X₁, st1⟩ := Y.newCold Z.1 (own := R_X) (C := nsN) (index := ik) (n := 6) hown' (hts _ List.mem_cons_self) hins (hts _ (List.mem_cons_of_mem _ List.mem_cons_self))
    (g := F0 m pc ls []) rfl (by rw [Z.2.1]; exact d0) (Nat.le_refl _) (Nat.le_refl _)
  generalize hT1 : (T.setVm vm₁).pushCell { cls := cX, slots := kX.instanceTypes.map defaultValue, vm := .none } = T1 at X₁ st1
  have hcellA : T1.heap[T.heap.size]? = some (freshCell cX kX) := by rw [← hT1]; exact State.heap_pushCell_size _ _
  have d3' : decode c.code (pc + 3) = .ok (.dup, 1) := by rw [Z.2.1]; exact d3
  have d4' : decode c.code (pc + 4) = .ok (.ldc is, 2) := by rw [Z.2.1]; exact d4
  obtain ⟨sa, hstr'⟩ := hzT.2.2.1 _ hstr
  have hcat : (Value.ref T.heap.size).category = 1 := rfl
  obtain ⟨U, hsteps, hrun, hend, hW, hsame, ce, hce, hO⟩ := z_ctorN X₁ Z.1 htr hown' hAt (fun x hx => nomatch hx) hfX hkX hcellA (by rw [hhp, hT]; exact Nat.le_refl _) (msg := .ref sa) rfl
    (g := { method := m, pc := pc + 6, locals := ls, stack := .ref sa :: .ref T.heap.size :: .ref T.heap.size :: [], locked := none }) rfl (hl.1.trans Z.2.2.1.symm) rfl rfl (rest := []) rfl
    (by rw [Z.2.1]; exact d6) (by rw [Z.2.1]; exact d9) hout hRframes (by simp only [List.map_cons, List.map_nil, List.sum_cons, List.sum_nil, hcat]; show 2 * (0 : Nat) + _ + _ ≤ _; omega) Z.2.2.2.2.2.2.2.1
  have hWs : s.WarmedH U.vm := State.WarmedH.trans hW0 hW
  have hcl : s.vm.findClass nsN = some ce.cls := by
    have h9 := hO.1
    rw [hvm] at h9
    exact h9
  obtain ⟨f1, f2⟩ : H.size ≤ U.heap.size ∧ ∀ q : Nat, q < H.size → U.heap[q]? = H[q]? := by
    obtain ⟨-, h2, -, -, -, h6⟩ := hsame
    rw [← hhp]
    refine ⟨h2, fun q hq => ?_⟩
    obtain ⟨c9, e1, e2, e3, e4⟩ := h6 q _ (Array.getElem?_eq_getElem hq)
    have hs9 : c9.slots = (s'.heap[q]).slots := Array.ext_getElem? fun i => e4 i (fun hm => nomatch hm)
    have h9 : c9 = s'.heap[q] := by
      rw [hs9] at e2
      exact e2
    have e5 : U.heap[q]? = some c9 := e1
    rw [e5, h9, Array.getElem?_eq_getElem hq]
  have hall : s.sameButNew ({ U with vm := s.vm } : State) locs mc ms := by
    subst hA
    obtain ⟨e1, e2⟩ := hsame
    rw [State.setFrames_setFrames] at e1
    have h2 : (T.setVm s.vm).sameButNew ({ U with vm := s.vm } : State) [] (0 + 1) (0 + 6) := ⟨e1, e2⟩
    have h3 := X.same.trans h2
    rw [List.append_nil] at h3
    exact h3.mono hc hs
  refine ⟨U, ?_, .threw T.heap.size, hrun, hend, ⟨⟨Nat.le_trans hS.1 f1, fun q h1 h2 => by rw [f2 q (Nat.lt_of_lt_of_le h1 hS.1)]; exact hS.2.1 q h1 h2⟩, .inr nsN, ws, hq, hP.kept (fun k q hk => f2 q.1 (hP k q hk).lt), hD, T.heap.size, ce, rfl, hce, hO.2, hcl⟩, hWs, locs, hall, hS.2.2⟩
  refine st1 _ ?_
  show Steps p.tables e below (T1.setTop { method := m, pc := pc + 3, locals := ls, stack := .ref T.heap.size :: [], locked := none }) _
  jvm_step X₁.here [X₁.here.top, Z.1, d3', Value.category]
  exact X₁.ldcString Z.1 (own := R_X) (text := text) (index := is) (a := sa) hown' hstr'.1 hstr'.2
    (g := { method := m, pc := pc + 4, locals := ls, stack := .ref T.heap.size :: .ref T.heap.size :: [], locked := none }) rfl d4' _ hsteps
end ZE
section ZM
variable {l : Launch} {y : MethodName} {ws ws' : List Cond} {rm : Room} {D : va_G} {cl : List vw_C} {tys : List (ClassId × FieldType)} {w0 : va_W} {av : List Value} {post : zRes → va_W → Prop} {mr sr mc ms : Nat} {cc : ByteArray} {maxL : Nat} {ret : Option FieldType}
/-- a contract out of the walk of a body -/
theorem z_meth (hy : plainName y.cls = true) (hw : ws = Cond.code y cc maxL ret :: ws') (hlen : (lg_sl av).length ≤ maxL)
    (body : ∀ (p : Program) (e : Env) (s : State) (m : MethodId) (args : Array Value) (below : List Frame) (meth : Method) (c : Code), zC p s m args meth c cc maxL y.cls ws D cl tys w0 → meth.sig.returnType = ret → meth.name = y.name → (∀ (pc : Nat), ∀ x ∈ c.exceptionTable.toList, covers x pc = false) →
      zAt p l e rm s m args below meth c D cl w0 maxL 0 0 (zEnd below D cl w0 post s mr sr mc ms) w0 0 (lv_args 0 av) []) : zMet l y ws rm D cl tys w0 av post mr sr mc ms := by
  refine Jvm.Free.MetFree.of_bodyS (code := cc) (maxLocals := maxL) (ret := ret) hy ?_ ?_
  · intro args s m h hn
    obtain ⟨meth, c, h1, h2, h3, h4, h5, h6, -, -⟩ := Cond.code_spec hn (atoms_spec (ws := ws) h _ (by rw [hw]; exact List.mem_cons_self))
    exact ⟨meth, c, h1, h2, h3, h4, h5, h6⟩
  · intro p e s m args below meth c s₁ B hml hP _
    have hh0 : s₁.heap = s.heap := by rw [B.state]; rfl
    obtain ⟨ha, hP0, hK, hD0, hzT⟩ := hP
    have ht : ∀ (pc : Nat), ∀ x ∈ c.exceptionTable.toList, covers x pc = false := by
      obtain ⟨meth9, c9, h1, h2, -, -, -, -, h7, -⟩ := Cond.code_spec B.named (atoms_spec (ws := ws) B.pre _ (by rw [hw]; exact List.mem_cons_self))
      cases Option.some.inj (h1.symm.trans B.method)
      cases Option.some.inj (h2.symm.trans (Stand.of_body B).code)
      intro pc x hx
      rw [Array.isEmpty_iff.mp h7] at hx
      cases hx
    have k := body p e s m args below meth c ⟨B.exec, B.bytes, hml, findClass_of_methodNamed B.named, atoms_spec (ws := ws) B.pre, hK, hP0, B.notSynchronized, hzT⟩ B.returns (name_of_methodNamed B.named B.method).1 ht
    have hl := lv_entry av (n := maxL) hlen
    obtain ⟨t, a1, o, b1, b2, b3, b4⟩ := k s.heap [] _ hP0 hD0.self va_S.rf hl s₁ hh0 (Stand.of_body B)
    refine ⟨t, o, ?_, b1, b2, b3, b4⟩
    rw [ha, lg_entry_eq]
    exact a1
/-- .. of a body with a table -/
theorem z_methW {hh : List (Nat × Nat × Nat × Nat)} (hy : plainName y.cls = true) (hw : ws = Cond.codeWith y cc maxL ret hh :: ws') (hlen : (lg_sl av).length ≤ maxL)
    (body : ∀ (p : Program) (e : Env) (s : State) (m : MethodId) (args : Array Value) (below : List Frame) (meth : Method) (c : Code), zC p s m args meth c cc maxL y.cls ws D cl tys w0 → meth.sig.returnType = ret → c.exceptionTable.toList = hh.map (fun q => (⟨q.1, q.2.1, q.2.2.1, q.2.2.2⟩ : ExceptionTableEntry)) →
      zAt p l e rm s m args below meth c D cl w0 maxL 0 0 (zEnd below D cl w0 post s mr sr mc ms) w0 0 (lv_args 0 av) []) : zMet l y ws rm D cl tys w0 av post mr sr mc ms := by
  refine Jvm.Free.MetFree.of_bodyS (code := cc) (maxLocals := maxL) (ret := ret) hy ?_ ?_
  · intro args s m h hn
    obtain ⟨m9, meth, c, hn9, h1, h2, h3, h4, -, h5, h6, -⟩ := Cond.codeWith_spec (atoms_spec (ws := ws) h _ (by rw [hw]; exact List.mem_cons_self))
    cases hn.symm.trans hn9
    exact ⟨meth, c, h1, h2, h3, h4, h5, h6⟩
  · intro p e s m args below meth c s₁ B hml hP _
    have hh0 : s₁.heap = s.heap := by rw [B.state]; rfl
    obtain ⟨ha, hP0, hK, hD0, hzT⟩ := hP
    have ht : c.exceptionTable.toList = hh.map (fun q => (⟨q.1, q.2.1, q.2.2.1, q.2.2.2⟩ : ExceptionTableEntry)) := by
      obtain ⟨m9, meth9, c9, hn9, h1, h2, -, -, h6, -⟩ := Cond.codeWith_spec (atoms_spec (ws := ws) B.pre _ (by rw [hw]; exact List.mem_cons_self))
      cases Option.some.inj (hn9.symm.trans B.named)
      cases Option.some.inj (h1.symm.trans B.method)
      cases Option.some.inj (h2.symm.trans (Stand.of_body B).code)
      rw [← h6, List.map_map]
      exact (List.map_id _).symm
    have k := body p e s m args below meth c ⟨B.exec, B.bytes, hml, findClass_of_methodNamed B.named, atoms_spec (ws := ws) B.pre, hK, hP0, B.notSynchronized, hzT⟩ B.returns ht
    have hl := lv_entry av (n := maxL) hlen
    obtain ⟨t, a1, o, b1, b2, b3, b4⟩ := k s.heap [] _ hP0 hD0.self va_S.rf hl s₁ hh0 (Stand.of_body B)
    refine ⟨t, o, ?_, b1, b2, b3, b4⟩
    rw [ha, lg_entry_eq]
    exact a1
end ZM
