/-! what holds at the start -/
theorem tDecl : ∀ w ∈ zDecl.map Cond.declares, w ∈ lw_tbl := in_all (by decide +kernel)
theorem tCast : ∀ w ∈ zCast.map (fun q => Cond.castable q.1 q.2), w ∈ lw_tbl := in_all (by decide +kernel)
theorem tStr : ∀ w ∈ zStrs.map (fun q => Cond.stringRef q.1 q.2.1 q.2.2), w ∈ lw_tbl := in_all (by decide +kernel)
def zStat : List Cond := [.initialized Jvm.Bundle.tN, .laysStatic Jvm.Bundle.tN "UNASSIGNED_STACK" Jvm.Bundle.steD, .laysStatic Jvm.Bundle.tN "SUPPRESSED_SENTINEL" Jvm.Bundle.listD]
theorem tStat : ∀ w ∈ zStat, w ∈ lw_tbl := in_all (by decide +kernel)
theorem fN : ∀ w ∈ zNcast.map (fun q => Cond.not (.castable q.1 q.2)), w ∈ flatC (Jvm.Cond.and given_1 narrow_1) := in_all (by decide +kernel)
theorem fS : ∀ w ∈ zStrs.map (fun q => Cond.exactly (.string q.1 q.2.1) "java/lang/String"), w ∈ flatC (Jvm.Cond.and given_1 narrow_1) := in_all (by decide +kernel)
def zRefs : List Cond := [.isRef (.static Jvm.Bundle.tN "UNASSIGNED_STACK" Jvm.Bundle.steD), .isRef (.static Jvm.Bundle.tN "SUPPRESSED_SENTINEL" Jvm.Bundle.listD)]
theorem fR : ∀ w ∈ zRefs, w ∈ flatC (Jvm.Cond.and given_1 narrow_1) := in_all (by decide +kernel)
theorem zT_0 {s : State} {a : Array Value} (hts : ∀ w ∈ lw_tbl, w.before a s = true) (hg : (Jvm.Cond.and given_1 narrow_1).before a s = true) : zT s := by
  have hf := flat_of_before _ hg
  have i0 : (Cond.initialized Jvm.Bundle.tN).before #[] s = true := hts _ (tStat _ (List.mem_of_getElem? (i := 0) rfl))
  refine ⟨⟨hts _ (tStat _ (List.mem_of_getElem? (i := 1) rfl)), i0, hf _ (fR _ (List.mem_of_getElem? (i := 0) rfl))⟩, ⟨hts _ (tStat _ (List.mem_of_getElem? (i := 2) rfl)), i0, hf _ (fR _ (List.mem_of_getElem? (i := 1) rfl))⟩, fun q hq => ?_, fun x hx => ?_, fun q hq => ?_, fun q hq => ?_⟩
  · have h1 := hts _ (tStr _ (List.mem_map.mpr ⟨q, hq, rfl⟩))
    obtain ⟨x, -, -, -, h2, -⟩ := Cond.exactly_spec (hf _ (fS _ (List.mem_map.mpr ⟨q, hq, rfl⟩)))
    exact ⟨x, vk_R.of h1 h2⟩
  · exact hts _ (tDecl _ (List.mem_map.mpr ⟨x, hx, rfl⟩))
  · exact hts _ (tCast _ (List.mem_map.mpr ⟨q, hq, rfl⟩))
  · exact va_Nc.of (hf _ (fN _ (List.mem_map.mpr ⟨q, hq, rfl⟩)))
theorem arr_0 {s : State} {a : Array Value} {ty : FieldType} (h : (Cond.arrayClass ty).before a s = true) : ∃ cA : ClassId, ArrOfT s cA ty ∧ s.vm.findClass ("[" ++ ty.toString) = some cA := by
  obtain ⟨cA, kA, comp, h1, h2, h3⟩ := Cond.arrayClass_spec h
  exact ⟨cA, fun n z => ⟨fun k h => (by cases h), kA, h2, comp, h3⟩, h1⟩
theorem va_K0 {s : State} {a : Array Value} (hts : ∀ w ∈ lw_tbl, w.before a s = true) : ∃ (D : va_G) (cI cB cL : ClassId), va_K D zCl (zTy cI cB cL) s := by
  obtain ⟨cX, iX, kX⟩ := u_known (C := R_X) (T := F_X) (N := 15) hts (fun w hw => tX w (inX_u w hw)) (hts _ at_iX)
  obtain ⟨cM, iM, kM⟩ := u_known (C := R_M) (T := F_M) (N := 16) hts (fun w hw => tWM w (inM_u w hw)) (hts _ at_iM)
  obtain ⟨cI, a1, n1⟩ := arr_0 (hts _ at_aI)
  obtain ⟨cB, a2, n2⟩ := arr_0 (hts _ at_aZ)
  obtain ⟨cL, a3, n3⟩ := arr_0 (hts _ at_aL)
  refine ⟨(fun k => match k with | 0 => cX | _ => cM, fun k => match k with | 0 => iX | _ => iM), cI, cB, cL, fun k q hq => ?_, fun k q hq => ?_⟩
  · match k, hq with
    | 0, hq => cases hq; exact kX
    | 1, hq => cases hq; exact kM
    | n + 2, hq => cases hq
  · match k, hq with
    | 0, hq => cases hq; exact ⟨a1, n1⟩
    | 1, hq => cases hq; exact ⟨a2, n2⟩
    | 2, hq => cases hq; exact ⟨a3, n3⟩
    | n + 3, hq => cases hq
/-- from the entry, for every script of at most 2048 ints, the law comes to its end with true -/
theorem whole_start {p : Program} {e : Env} {s : State} {m : MethodId} {below : List Frame} {meth : Method} {c : Code} (l : Launch) (hlt : l.stackTraces = false) {b L : Nat} {xs : Nat → Int32} (hL : L ≤ 2048) (C0 : lw_At p s m meth c b L xs) : W p l e room_1 s m #[Value.ref b] below meth c s.heap [] 0 0 (lw_Z below #[Value.ref b] s) (entryFrame m ([Value.ref b] : List Value).toArray 7) := by
  obtain ⟨c1, c2, c3, c4, c5, c6, c7, c8, c9, c10⟩ := C0
  obtain ⟨D, cI, cB, cL, hK⟩ := va_K0 c6
  have Z : zC p s m #[Value.ref b] meth c code 7 R_L lw_tbl D zCl (zTy cI cB cL) [] := ⟨c1, c2, c4, c5, c6, hK, fun k q hq => (by cases k <;> cases hq), c9, zT_0 c6 c10⟩
  have hA := law_all (e := e) (below := below) Z hlt c7 c8 (fun h => Nat.not_le.mpr c8 (noA h)) hL c3
  have hl := lv_entry ([.ref b]) (n := 7) (Nat.le_of_ble_eq_true rfl)
  rw [lg_entry_eq]
  exact hA s.heap [] _ (fun k q hq => (by cases k <;> cases hq)) ⟨fun i j p q h => (by cases i <;> cases h), fun k q h => (by cases k <;> cases h)⟩ va_S.rf hl
