/-! the ways in which a method ends: int or void, its world as it was or changed -/
def qi0 (w0 : va_W) (P : Int32 → Prop) (X : String → Prop) : zRes → va_W → Prop := fun r w => w = w0 ∧ (match r with | .inl (some (.int v)) => P v | .inl _ => False | .inr E => X E)
def qv0 (w0 : va_W) (P : Prop) (X : String → Prop) : zRes → va_W → Prop := fun r w => w = w0 ∧ (match r with | .inl none => P | .inl (some _) => False | .inr E => X E)
def qi {S : Type} (f : S → va_W) (P : Int32 → S → Prop) (X : String → S → Prop) : zRes → va_W → Prop := fun r w => ∃ u, w = f u ∧ (match r with | .inl (some (.int v)) => P v u | .inl _ => False | .inr E => X E u)
def qv {S : Type} (f : S → va_W) (P : S → Prop) (X : String → S → Prop) : zRes → va_W → Prop := fun r w => ∃ u, w = f u ∧ (match r with | .inl none => P u | .inl (some _) => False | .inr E => X E u)
def noX : String → Prop := fun _ => False
def noXs {S : Type} : String → S → Prop := fun _ _ => False
/-- what a call of y asks of the words -/
def okV (Ts : List Cond) (own : String) (index : Nat) (C : String) (y : MethodName) (bytes : ByteArray) (maxL : Nat) (ret : Option FieldType) (wsY : List Cond) (n : Nat) : Prop :=
  GoodIn Ts (wsV own index C y wsY) ∧ (∃ ws', wsY = Cond.code y bytes maxL ret :: ws') ∧ y.cls = C ∧ y.cls ≠ "java/lang/invoke/MethodHandle" ∧ y.cls ≠ "java/lang/invoke/VarHandle" ∧ (parseMethodDescriptor y.desc).map (fun d => d.parameters.length) = some n
def okS (Ts : List Cond) (own : String) (index : Nat) (y : MethodName) (maxL : Nat) (wsY : List Cond) (n : Nat) : Prop :=
  GoodIn Ts wsY ∧ (∀ (a' : Array Value) (U : State), (∀ w ∈ wsY, w.before a' U = true) → ∃ mk methY cY, U.methodNamed? y = some mk ∧ U.vm.method? mk = some methY ∧ methY.code = some cY ∧ cY.maxLocals = maxL ∧ parseMethodDescriptor y.desc = some methY.sig) ∧ Cond.methodLink own index y ∈ Ts ∧ Cond.static y ∈ Ts ∧ Cond.initialized y.cls ∈ Ts ∧ y.cls ≠ "java/lang/invoke/MethodHandle" ∧ y.cls ≠ "java/lang/invoke/VarHandle" ∧ (parseMethodDescriptor y.desc).map (fun d => d.parameters.length) = some n
section ZV
variable {p : Program} {l : Launch} {e : Env} {R : Room} {s : State} {m : MethodId} {args : Array Value} {below : List Frame} {meth : Method} {c : Code} {cells slots nL : Nat} {Q : State → Prop} {D : va_G} {cl : List vw_C} {tys : List (ClassId × FieldType)} {w0 : va_W} {cc : ByteArray} {own : String} {Ts : List Cond} {ws ws' pre wc suf : va_W} {pc : Nat} {lv lv' : List (Nat × Value)} {st : List Value}
variable {C : String} {y : MethodName} {bytes : ByteArray} {maxL mr sr mc ms n index ci N : Nat} {ret : Option FieldType} {wsY : List Cond} {rm : Room} {b : Nat} {As rest : List Value} {fs : List Value} {T : u_T}
theorem z_Vi0 (Z : zC p s m args meth c cc nL own Ts D cl tys w0) {P : Int32 → Prop} {X : String → Prop} (hM : zMet l y wsY rm D cl tys wc (.ref b :: As) (qi0 wc P X) mr sr mc ms) (ok : okV Ts own index C y bytes maxL ret wsY n) (hrc : rm.cells = mc) (hrs : rm.slots = ms) (hR : rm.frames + 1 ≤ R.frames ∧ 8 + (maxL + 11) + rm.locals ≤ R.locals)
    (hws : ws = (pre ++ wc) ++ suf) (he : wc[0]? = some (b, .inr (ci, fs))) (hc : cl[ci]? = some (C, T, N)) (hn : As.length = n) (hst : st = As.reverse ++ .ref b :: rest) (hcat : (rest.map fun v => v.category).sum ≤ 8) (d : decode cc pc = .ok (.invokevirtual index, 3)) (hf : cells + mc ≤ R.cells ∧ slots + ms ≤ R.slots)
    (kx : ∀ E : String, X E → zX p l e R s m args below meth c D cl w0 nL (cells + mc) (slots + ms) Q ((pre ++ wc) ++ suf) pc lv E) (kk : ∀ v : Int32, P v → zAt p l e R s m args below meth c D cl w0 nL (cells + mr) (slots + sr) Q ((pre ++ wc) ++ suf) (pc + 3) lv (.int v :: rest)) : zAt p l e R s m args below meth c D cl w0 nL cells slots Q ws pc lv st := by
  obtain ⟨hG, ⟨wsY', hw⟩, hd⟩ := ok
  exact z_callV Z hM hG hw hrc hrs hd hR hws he hc hn hst hcat d hf (fun E w h => by obtain ⟨rfl, h⟩ := h; exact kx E h) (fun v w h => by
    obtain ⟨rfl, h⟩ := h
    rcases v with _ | v
    · exact h.elim
    · cases v <;> first | exact h.elim | (exact kk _ h))
theorem z_Wi0 (Z : zC p s m args meth c cc nL own Ts D cl tys w0) {P : Int32 → Prop} {X : String → Prop} (hM : zMet l y wsY rm D cl tys ws (.ref b :: As) (qi0 ws P X) mr sr mc ms) (ok : okV Ts own index C y bytes maxL ret wsY n) (hrc : rm.cells = mc) (hrs : rm.slots = ms) (hR : rm.frames + 1 ≤ R.frames ∧ 8 + (maxL + 11) + rm.locals ≤ R.locals)
    (he : ws[0]? = some (b, .inr (ci, fs))) (hc : cl[ci]? = some (C, T, N)) (hn : As.length = n) (hst : st = As.reverse ++ .ref b :: rest) (hcat : (rest.map fun v => v.category).sum ≤ 8) (d : decode cc pc = .ok (.invokevirtual index, 3)) (hf : cells + mc ≤ R.cells ∧ slots + ms ≤ R.slots)
    (kx : ∀ E : String, X E → zX p l e R s m args below meth c D cl w0 nL (cells + mc) (slots + ms) Q ws pc lv E) (kk : ∀ v : Int32, P v → zAt p l e R s m args below meth c D cl w0 nL (cells + mr) (slots + sr) Q ws (pc + 3) lv (.int v :: rest)) : zAt p l e R s m args below meth c D cl w0 nL cells slots Q ws pc lv st :=
  z_Vi0 (pre := []) (suf := []) Z hM ok hrc hrs hR (by rw [List.nil_append, List.append_nil]) he hc hn hst hcat d hf (fun E h => by rw [List.nil_append, List.append_nil]; exact kx E h) (fun v h => by rw [List.nil_append, List.append_nil]; exact kk v h)
theorem z_Ti0 (Z : zC p s m args meth c cc nL own Ts D cl tys w0) {P : Int32 → Prop} {X : String → Prop} (hM : zMet l y wsY rm D cl tys wc As (qi0 wc P X) mr sr mc ms) (ok : okS Ts own index y maxL wsY n) (hrc : rm.cells = mc) (hrs : rm.slots = ms) (hR : rm.frames + 1 ≤ R.frames ∧ 8 + (maxL + 11) + rm.locals ≤ R.locals)
    (hws : ws = (pre ++ wc) ++ suf) (hn : As.length = n) (hst : st = As.reverse ++ rest) (hcat : (rest.map fun v => v.category).sum ≤ 8) (d : decode cc pc = .ok (.invokestatic index, 3)) (hf : cells + mc ≤ R.cells ∧ slots + ms ≤ R.slots)
    (kx : ∀ E : String, X E → zX p l e R s m args below meth c D cl w0 nL (cells + mc) (slots + ms) Q ((pre ++ wc) ++ suf) pc lv E) (kk : ∀ v : Int32, P v → zAt p l e R s m args below meth c D cl w0 nL (cells + mr) (slots + sr) Q ((pre ++ wc) ++ suf) (pc + 3) lv (.int v :: rest)) : zAt p l e R s m args below meth c D cl w0 nL cells slots Q ws pc lv st := by
  obtain ⟨hG, hco, h1, h2, h3, hd⟩ := ok
  exact z_callS Z hM hG hco hrc hrs h1 h2 h3 hd hR hws hn hst hcat d hf (fun E w h => by obtain ⟨rfl, h⟩ := h; exact kx E h) (fun v w h => by
    obtain ⟨rfl, h⟩ := h
    rcases v with _ | v
    · exact h.elim
    · cases v <;> first | exact h.elim | (exact kk _ h))
theorem z_Vv0 (Z : zC p s m args meth c cc nL own Ts D cl tys w0) {P : Prop} {X : String → Prop} (hM : zMet l y wsY rm D cl tys wc (.ref b :: As) (qv0 wc P X) mr sr mc ms) (ok : okV Ts own index C y bytes maxL ret wsY n) (hrc : rm.cells = mc) (hrs : rm.slots = ms) (hR : rm.frames + 1 ≤ R.frames ∧ 8 + (maxL + 11) + rm.locals ≤ R.locals)
    (hws : ws = (pre ++ wc) ++ suf) (he : wc[0]? = some (b, .inr (ci, fs))) (hc : cl[ci]? = some (C, T, N)) (hn : As.length = n) (hst : st = As.reverse ++ .ref b :: rest) (hcat : (rest.map fun v => v.category).sum ≤ 8) (d : decode cc pc = .ok (.invokevirtual index, 3)) (hf : cells + mc ≤ R.cells ∧ slots + ms ≤ R.slots)
    (kx : ∀ E : String, X E → zX p l e R s m args below meth c D cl w0 nL (cells + mc) (slots + ms) Q ((pre ++ wc) ++ suf) pc lv E) (kk : P → zAt p l e R s m args below meth c D cl w0 nL (cells + mr) (slots + sr) Q ((pre ++ wc) ++ suf) (pc + 3) lv rest) : zAt p l e R s m args below meth c D cl w0 nL cells slots Q ws pc lv st := by
  obtain ⟨hG, ⟨wsY', hw⟩, hd⟩ := ok
  exact z_callV Z hM hG hw hrc hrs hd hR hws he hc hn hst hcat d hf (fun E w h => by obtain ⟨rfl, h⟩ := h; exact kx E h) (fun v w h => by
    obtain ⟨rfl, h⟩ := h
    rcases v with _ | v
    · exact kk h
    · exact h.elim)
theorem z_Wv0 (Z : zC p s m args meth c cc nL own Ts D cl tys w0) {P : Prop} {X : String → Prop} (hM : zMet l y wsY rm D cl tys ws (.ref b :: As) (qv0 ws P X) mr sr mc ms) (ok : okV Ts own index C y bytes maxL ret wsY n) (hrc : rm.cells = mc) (hrs : rm.slots = ms) (hR : rm.frames + 1 ≤ R.frames ∧ 8 + (maxL + 11) + rm.locals ≤ R.locals)
    (he : ws[0]? = some (b, .inr (ci, fs))) (hc : cl[ci]? = some (C, T, N)) (hn : As.length = n) (hst : st = As.reverse ++ .ref b :: rest) (hcat : (rest.map fun v => v.category).sum ≤ 8) (d : decode cc pc = .ok (.invokevirtual index, 3)) (hf : cells + mc ≤ R.cells ∧ slots + ms ≤ R.slots)
    (kx : ∀ E : String, X E → zX p l e R s m args below meth c D cl w0 nL (cells + mc) (slots + ms) Q ws pc lv E) (kk : P → zAt p l e R s m args below meth c D cl w0 nL (cells + mr) (slots + sr) Q ws (pc + 3) lv rest) : zAt p l e R s m args below meth c D cl w0 nL cells slots Q ws pc lv st :=
  z_Vv0 (pre := []) (suf := []) Z hM ok hrc hrs hR (by rw [List.nil_append, List.append_nil]) he hc hn hst hcat d hf (fun E h => by rw [List.nil_append, List.append_nil]; exact kx E h) (fun h => by rw [List.nil_append, List.append_nil]; exact kk h)
theorem z_Tv0 (Z : zC p s m args meth c cc nL own Ts D cl tys w0) {P : Prop} {X : String → Prop} (hM : zMet l y wsY rm D cl tys wc As (qv0 wc P X) mr sr mc ms) (ok : okS Ts own index y maxL wsY n) (hrc : rm.cells = mc) (hrs : rm.slots = ms) (hR : rm.frames + 1 ≤ R.frames ∧ 8 + (maxL + 11) + rm.locals ≤ R.locals)
    (hws : ws = (pre ++ wc) ++ suf) (hn : As.length = n) (hst : st = As.reverse ++ rest) (hcat : (rest.map fun v => v.category).sum ≤ 8) (d : decode cc pc = .ok (.invokestatic index, 3)) (hf : cells + mc ≤ R.cells ∧ slots + ms ≤ R.slots)
    (kx : ∀ E : String, X E → zX p l e R s m args below meth c D cl w0 nL (cells + mc) (slots + ms) Q ((pre ++ wc) ++ suf) pc lv E) (kk : P → zAt p l e R s m args below meth c D cl w0 nL (cells + mr) (slots + sr) Q ((pre ++ wc) ++ suf) (pc + 3) lv rest) : zAt p l e R s m args below meth c D cl w0 nL cells slots Q ws pc lv st := by
  obtain ⟨hG, hco, h1, h2, h3, hd⟩ := ok
  exact z_callS Z hM hG hco hrc hrs h1 h2 h3 hd hR hws hn hst hcat d hf (fun E w h => by obtain ⟨rfl, h⟩ := h; exact kx E h) (fun v w h => by
    obtain ⟨rfl, h⟩ := h
    rcases v with _ | v
    · exact kk h
    · exact h.elim)
theorem z_Vi (Z : zC p s m args meth c cc nL own Ts D cl tys w0) {S : Type} {f : S → va_W} {P : Int32 → S → Prop} {X : String → S → Prop} (hM : zMet l y wsY rm D cl tys wc (.ref b :: As) (qi f P X) mr sr mc ms) (ok : okV Ts own index C y bytes maxL ret wsY n) (hrc : rm.cells = mc) (hrs : rm.slots = ms) (hR : rm.frames + 1 ≤ R.frames ∧ 8 + (maxL + 11) + rm.locals ≤ R.locals)
    (hws : ws = (pre ++ wc) ++ suf) (he : wc[0]? = some (b, .inr (ci, fs))) (hc : cl[ci]? = some (C, T, N)) (hn : As.length = n) (hst : st = As.reverse ++ .ref b :: rest) (hcat : (rest.map fun v => v.category).sum ≤ 8) (d : decode cc pc = .ok (.invokevirtual index, 3)) (hf : cells + mc ≤ R.cells ∧ slots + ms ≤ R.slots)
    (kx : ∀ (E : String) (u : S), X E u → zX p l e R s m args below meth c D cl w0 nL (cells + mc) (slots + ms) Q ((pre ++ f u) ++ suf) pc lv E) (kk : ∀ (v : Int32) (u : S), P v u → zAt p l e R s m args below meth c D cl w0 nL (cells + mr) (slots + sr) Q ((pre ++ f u) ++ suf) (pc + 3) lv (.int v :: rest)) : zAt p l e R s m args below meth c D cl w0 nL cells slots Q ws pc lv st := by
  obtain ⟨hG, ⟨wsY', hw⟩, hd⟩ := ok
  exact z_callV Z hM hG hw hrc hrs hd hR hws he hc hn hst hcat d hf (fun E w h => by obtain ⟨u, rfl, h⟩ := h; exact kx E u h) (fun v w h => by
    obtain ⟨u, rfl, h⟩ := h
    rcases v with _ | v
    · exact h.elim
    · cases v <;> first | exact h.elim | (exact kk _ u h))
theorem z_Wi (Z : zC p s m args meth c cc nL own Ts D cl tys w0) {S : Type} {f : S → va_W} {P : Int32 → S → Prop} {X : String → S → Prop} (hM : zMet l y wsY rm D cl tys ws (.ref b :: As) (qi f P X) mr sr mc ms) (ok : okV Ts own index C y bytes maxL ret wsY n) (hrc : rm.cells = mc) (hrs : rm.slots = ms) (hR : rm.frames + 1 ≤ R.frames ∧ 8 + (maxL + 11) + rm.locals ≤ R.locals)
    (he : ws[0]? = some (b, .inr (ci, fs))) (hc : cl[ci]? = some (C, T, N)) (hn : As.length = n) (hst : st = As.reverse ++ .ref b :: rest) (hcat : (rest.map fun v => v.category).sum ≤ 8) (d : decode cc pc = .ok (.invokevirtual index, 3)) (hf : cells + mc ≤ R.cells ∧ slots + ms ≤ R.slots)
    (kx : ∀ (E : String) (u : S), X E u → zX p l e R s m args below meth c D cl w0 nL (cells + mc) (slots + ms) Q (f u) pc lv E) (kk : ∀ (v : Int32) (u : S), P v u → zAt p l e R s m args below meth c D cl w0 nL (cells + mr) (slots + sr) Q (f u) (pc + 3) lv (.int v :: rest)) : zAt p l e R s m args below meth c D cl w0 nL cells slots Q ws pc lv st :=
  z_Vi (pre := []) (suf := []) Z hM ok hrc hrs hR (by rw [List.nil_append, List.append_nil]) he hc hn hst hcat d hf (fun E u h => by rw [List.nil_append, List.append_nil]; exact kx E u h) (fun v u h => by rw [List.nil_append, List.append_nil]; exact kk v u h)
theorem z_Ti (Z : zC p s m args meth c cc nL own Ts D cl tys w0) {S : Type} {f : S → va_W} {P : Int32 → S → Prop} {X : String → S → Prop} (hM : zMet l y wsY rm D cl tys wc As (qi f P X) mr sr mc ms) (ok : okS Ts own index y maxL wsY n) (hrc : rm.cells = mc) (hrs : rm.slots = ms) (hR : rm.frames + 1 ≤ R.frames ∧ 8 + (maxL + 11) + rm.locals ≤ R.locals)
    (hws : ws = (pre ++ wc) ++ suf) (hn : As.length = n) (hst : st = As.reverse ++ rest) (hcat : (rest.map fun v => v.category).sum ≤ 8) (d : decode cc pc = .ok (.invokestatic index, 3)) (hf : cells + mc ≤ R.cells ∧ slots + ms ≤ R.slots)
    (kx : ∀ (E : String) (u : S), X E u → zX p l e R s m args below meth c D cl w0 nL (cells + mc) (slots + ms) Q ((pre ++ f u) ++ suf) pc lv E) (kk : ∀ (v : Int32) (u : S), P v u → zAt p l e R s m args below meth c D cl w0 nL (cells + mr) (slots + sr) Q ((pre ++ f u) ++ suf) (pc + 3) lv (.int v :: rest)) : zAt p l e R s m args below meth c D cl w0 nL cells slots Q ws pc lv st := by
  obtain ⟨hG, hco, h1, h2, h3, hd⟩ := ok
  exact z_callS Z hM hG hco hrc hrs h1 h2 h3 hd hR hws hn hst hcat d hf (fun E w h => by obtain ⟨u, rfl, h⟩ := h; exact kx E u h) (fun v w h => by
    obtain ⟨u, rfl, h⟩ := h
    rcases v with _ | v
    · exact h.elim
    · cases v <;> first | exact h.elim | (exact kk _ u h))
theorem z_Vv (Z : zC p s m args meth c cc nL own Ts D cl tys w0) {S : Type} {f : S → va_W} {P : S → Prop} {X : String → S → Prop} (hM : zMet l y wsY rm D cl tys wc (.ref b :: As) (qv f P X) mr sr mc ms) (ok : okV Ts own index C y bytes maxL ret wsY n) (hrc : rm.cells = mc) (hrs : rm.slots = ms) (hR : rm.frames + 1 ≤ R.frames ∧ 8 + (maxL + 11) + rm.locals ≤ R.locals)
    (hws : ws = (pre ++ wc) ++ suf) (he : wc[0]? = some (b, .inr (ci, fs))) (hc : cl[ci]? = some (C, T, N)) (hn : As.length = n) (hst : st = As.reverse ++ .ref b :: rest) (hcat : (rest.map fun v => v.category).sum ≤ 8) (d : decode cc pc = .ok (.invokevirtual index, 3)) (hf : cells + mc ≤ R.cells ∧ slots + ms ≤ R.slots)
    (kx : ∀ (E : String) (u : S), X E u → zX p l e R s m args below meth c D cl w0 nL (cells + mc) (slots + ms) Q ((pre ++ f u) ++ suf) pc lv E) (kk : ∀ u : S, P u → zAt p l e R s m args below meth c D cl w0 nL (cells + mr) (slots + sr) Q ((pre ++ f u) ++ suf) (pc + 3) lv rest) : zAt p l e R s m args below meth c D cl w0 nL cells slots Q ws pc lv st := by
  obtain ⟨hG, ⟨wsY', hw⟩, hd⟩ := ok
  exact z_callV Z hM hG hw hrc hrs hd hR hws he hc hn hst hcat d hf (fun E w h => by obtain ⟨u, rfl, h⟩ := h; exact kx E u h) (fun v w h => by
    obtain ⟨u, rfl, h⟩ := h
    rcases v with _ | v
    · exact kk u h
    · exact h.elim)
theorem z_Wv (Z : zC p s m args meth c cc nL own Ts D cl tys w0) {S : Type} {f : S → va_W} {P : S → Prop} {X : String → S → Prop} (hM : zMet l y wsY rm D cl tys ws (.ref b :: As) (qv f P X) mr sr mc ms) (ok : okV Ts own index C y bytes maxL ret wsY n) (hrc : rm.cells = mc) (hrs : rm.slots = ms) (hR : rm.frames + 1 ≤ R.frames ∧ 8 + (maxL + 11) + rm.locals ≤ R.locals)
    (he : ws[0]? = some (b, .inr (ci, fs))) (hc : cl[ci]? = some (C, T, N)) (hn : As.length = n) (hst : st = As.reverse ++ .ref b :: rest) (hcat : (rest.map fun v => v.category).sum ≤ 8) (d : decode cc pc = .ok (.invokevirtual index, 3)) (hf : cells + mc ≤ R.cells ∧ slots + ms ≤ R.slots)
    (kx : ∀ (E : String) (u : S), X E u → zX p l e R s m args below meth c D cl w0 nL (cells + mc) (slots + ms) Q (f u) pc lv E) (kk : ∀ u : S, P u → zAt p l e R s m args below meth c D cl w0 nL (cells + mr) (slots + sr) Q (f u) (pc + 3) lv rest) : zAt p l e R s m args below meth c D cl w0 nL cells slots Q ws pc lv st :=
  z_Vv (pre := []) (suf := []) Z hM ok hrc hrs hR (by rw [List.nil_append, List.append_nil]) he hc hn hst hcat d hf (fun E u h => by rw [List.nil_append, List.append_nil]; exact kx E u h) (fun u h => by rw [List.nil_append, List.append_nil]; exact kk u h)
theorem z_Tv (Z : zC p s m args meth c cc nL own Ts D cl tys w0) {S : Type} {f : S → va_W} {P : S → Prop} {X : String → S → Prop} (hM : zMet l y wsY rm D cl tys wc As (qv f P X) mr sr mc ms) (ok : okS Ts own index y maxL wsY n) (hrc : rm.cells = mc) (hrs : rm.slots = ms) (hR : rm.frames + 1 ≤ R.frames ∧ 8 + (maxL + 11) + rm.locals ≤ R.locals)
    (hws : ws = (pre ++ wc) ++ suf) (hn : As.length = n) (hst : st = As.reverse ++ rest) (hcat : (rest.map fun v => v.category).sum ≤ 8) (d : decode cc pc = .ok (.invokestatic index, 3)) (hf : cells + mc ≤ R.cells ∧ slots + ms ≤ R.slots)
    (kx : ∀ (E : String) (u : S), X E u → zX p l e R s m args below meth c D cl w0 nL (cells + mc) (slots + ms) Q ((pre ++ f u) ++ suf) pc lv E) (kk : ∀ u : S, P u → zAt p l e R s m args below meth c D cl w0 nL (cells + mr) (slots + sr) Q ((pre ++ f u) ++ suf) (pc + 3) lv rest) : zAt p l e R s m args below meth c D cl w0 nL cells slots Q ws pc lv st := by
  obtain ⟨hG, hco, h1, h2, h3, hd⟩ := ok
  exact z_callS Z hM hG hco hrc hrs h1 h2 h3 hd hR hws hn hst hcat d hf (fun E w h => by obtain ⟨u, rfl, h⟩ := h; exact kx E u h) (fun v w h => by
    obtain ⟨u, rfl, h⟩ := h
    rcases v with _ | v
    · exact kk u h
    · exact h.elim)
theorem z_S0 (Z : zC p s m args meth c cc nL own Ts D cl tys w0) {P : Int32 → Prop} (hM : zMet l y wsY rm D cl tys [] As (qi0 [] P noX) mr sr mc ms) (ok : okS Ts own index y maxL wsY n) (hrc : rm.cells = mc) (hrs : rm.slots = ms) (hR : rm.frames + 1 ≤ R.frames ∧ 8 + (maxL + 11) + rm.locals ≤ R.locals)
    (hn : As.length = n) (hst : st = As.reverse ++ rest) (hcat : (rest.map fun v => v.category).sum ≤ 8) (d : decode cc pc = .ok (.invokestatic index, 3)) (hf : cells + mc ≤ R.cells ∧ slots + ms ≤ R.slots)
    (kk : ∀ v : Int32, P v → zAt p l e R s m args below meth c D cl w0 nL (cells + mr) (slots + sr) Q ws (pc + 3) lv (.int v :: rest)) : zAt p l e R s m args below meth c D cl w0 nL cells slots Q ws pc lv st :=
  z_Ti0 (pre := ws) (wc := []) (suf := []) Z hM ok hrc hrs hR (by rw [List.append_nil, List.append_nil]) hn hst hcat d hf (fun E h => h.elim) (fun v h => by rw [List.append_nil, List.append_nil]; exact kk v h)
/-- ends -/
theorem z_ri0 (Z : zC p s m args meth c cc nL own Ts D cl tys w0) {ty : FieldType} {v : Int32} {P : Int32 → Prop} {X : String → Prop} (hr : meth.sig.returnType = some ty) (hn : narrow ty (.int v) = .int v) (d : decode cc pc = .ok (.ireturn, 1)) (hc : cells ≤ mr) (hs : slots ≤ sr) (hq : P v) : zAt p l e R s m args below meth c D cl w0 nL cells slots (zEnd below D cl w0 (qi0 ws P X) s mr sr mc ms) ws pc lv [.int v] := z_iret Z hr hn d hc hs ⟨rfl, hq⟩
theorem z_rv0 (Z : zC p s m args meth c cc nL own Ts D cl tys w0) {P : Prop} {X : String → Prop} (hr : meth.sig.returnType = none) (d : decode cc pc = .ok (.return_, 1)) (hc : cells ≤ mr) (hs : slots ≤ sr) (hq : P) : zAt p l e R s m args below meth c D cl w0 nL cells slots (zEnd below D cl w0 (qv0 ws P X) s mr sr mc ms) ws pc lv [] := z_vret Z hr d hc hs ⟨rfl, hq⟩
theorem z_ri (Z : zC p s m args meth c cc nL own Ts D cl tys w0) {S : Type} {f : S → va_W} (u : S) {ty : FieldType} {v : Int32} {P : Int32 → S → Prop} {X : String → S → Prop} (hr : meth.sig.returnType = some ty) (hn : narrow ty (.int v) = .int v) (d : decode cc pc = .ok (.ireturn, 1)) (hc : cells ≤ mr) (hs : slots ≤ sr) (hw : ws = f u) (hq : P v u) : zAt p l e R s m args below meth c D cl w0 nL cells slots (zEnd below D cl w0 (qi f P X) s mr sr mc ms) ws pc lv [.int v] := z_iret Z hr hn d hc hs ⟨u, hw, hq⟩
theorem z_rv (Z : zC p s m args meth c cc nL own Ts D cl tys w0) {S : Type} {f : S → va_W} (u : S) {P : S → Prop} {X : String → S → Prop} (hr : meth.sig.returnType = none) (d : decode cc pc = .ok (.return_, 1)) (hc : cells ≤ mr) (hs : slots ≤ sr) (hw : ws = f u) (hq : P u) : zAt p l e R s m args below meth c D cl w0 nL cells slots (zEnd below D cl w0 (qv f P X) s mr sr mc ms) ws pc lv [] := z_vret Z hr d hc hs ⟨u, hw, hq⟩
end ZV
theorem zi_0 : Int32.ofInt 0 = nI 0 := by decide
theorem zi_1 : Int32.ofInt 1 = nI 1 := by decide
theorem zi_2 : Int32.ofInt 2 = nI 2 := by decide
theorem zi_3 : Int32.ofInt 3 = nI 3 := by decide
theorem zi_4 : Int32.ofInt 4 = nI 4 := by decide
theorem zi_5 : Int32.ofInt 5 = nI 5 := by decide
theorem zi_m1 : Int32.ofInt (-1) = (-1 : Int32) := by decide
theorem zb_6 : (Int8.ofInt 6).toInt32 = nI 6 := by decide
theorem zb_23 : (Int8.ofInt 23).toInt32 = nI 23 := by decide
theorem zb_24 : (Int8.ofInt 24).toInt32 = nI 24 := by decide
theorem zb_72 : (Int8.ofInt 72).toInt32 = nI 72 := by decide
theorem zb_96 : (Int8.ofInt 96).toInt32 = nI 96 := by decide
