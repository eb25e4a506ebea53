/-! the words that the two classes' methods rest on, and how a call finds them -/
def zNames : List String := ["java/lang/RuntimeException", "java/lang/Exception"]
theorem zNames_fit : ∀ n ∈ zNames, Jvm.Bundle.fit n = true := by decide +kernel
def wX0 : List Cond := [.initialized R_X, .fieldLink R_X 9 "EphemeronHeap" "kinds" "[I", .fieldLink R_X 13 "EphemeronHeap" "serials" "[I", .fieldLink R_X 16 "EphemeronHeap" "fields" "[I", .fieldLink R_X 19 "EphemeronHeap" "keys" "[I", .fieldLink R_X 22 "EphemeronHeap" "values" "[I", .fieldLink R_X 25 "EphemeronHeap" "entryCounts" "[I", .fieldLink R_X 28 "EphemeronHeap" "states" "[I", .fieldLink R_X 31 "EphemeronHeap" "actions" "[I", .fieldLink R_X 34 "EphemeronHeap" "targets" "[I", .fieldLink R_X 37 "EphemeronHeap" "roots" "[I", .fieldLink R_X 40 "EphemeronHeap" "queue" "[I", .fieldLink R_X 110 "EphemeronHeap" "timesCollected" "I", .fieldLink R_X 124 "EphemeronHeap" "occupied" "I", .fieldLink R_X 138 "EphemeronHeap" "queueLength" "I", .fieldLink R_X 171 "EphemeronHeap" "thingsMade" "I", .methodLink R_X 50 y_leastFreeCell, .instanceMethod y_leastFreeCell, .selects R_X y_leastFreeCell y_leastFreeCell, .code y_leastFreeCell b_leastFreeCell 2 (some .int), .methodLink R_X 54 y_collect, .instanceMethod y_collect, .selects R_X y_collect y_collect, .code y_collect b_collect 4 (some .int), .methodLink R_X 62 y_placeThing, .instanceMethod y_placeThing, .selects R_X y_placeThing y_placeThing, .code y_placeThing b_placeThing 3 none, .methodLink R_X 66 y_requireThing, .instanceMethod y_requireThing, .selects R_X y_requireThing y_requireThing, .code y_requireThing b_requireThing 2 none, .methodLink R_X 70 y_requireThingOrNone, .instanceMethod y_requireThingOrNone, .selects R_X y_requireThingOrNone y_requireThingOrNone, .code y_requireThingOrNone b_requireThingOrNone 2 none, .methodLink R_X 73 y_requireField, .instanceMethod y_requireField, .selects R_X y_requireField y_requireField, .code y_requireField b_requireField 3 none, .methodLink R_X 76 y_fieldSlot, .static y_fieldSlot, .code y_fieldSlot b_fieldSlot 2 (some .int), .methodLink R_X 80 y_requireTable, .instanceMethod y_requireTable, .selects R_X y_requireTable y_requireTable, .code y_requireTable b_requireTable 2 none, .methodLink R_X 83 y_entryOf, .instanceMethod y_entryOf, .selects R_X y_entryOf y_entryOf, .code y_entryOf b_entryOf 4 (some .int), .methodLink R_X 86 y_entrySlot, .static y_entrySlot, .code y_entrySlot b_entrySlot 2 (some .int), .methodLink R_X 91 y_appendEntry, .instanceMethod y_appendEntry, .selects R_X y_appendEntry y_appendEntry, .code y_appendEntry b_appendEntry 5 none, .methodLink R_X 95 y_dropEntry, .instanceMethod y_dropEntry, .selects R_X y_dropEntry y_dropEntry, .code y_dropEntry b_dropEntry 5 none, .methodLink R_X 103 y_requireRoot, .instanceMethod y_requireRoot, .selects R_X y_requireRoot y_requireRoot, .code y_requireRoot b_requireRoot 2 none, .methodLink R_X 114 y_thingsInRoots, .instanceMethod y_thingsInRoots, .selects R_X y_thingsInRoots y_thingsInRoots, .code y_thingsInRoots b_thingsInRoots 3 (some .int), .methodLink R_X 117 y_closureOf, .instanceMethod y_closureOf, .selects R_X y_closureOf y_closureOf, .code y_closureOf b_closureOf 5 (some .int), .methodLink R_X 121 y_forgetOutside, .instanceMethod y_forgetOutside, .selects R_X y_forgetOutside y_forgetOutside, .code y_forgetOutside b_forgetOutside 3 none, .methodLink R_X 127 y_queueWaiting, .instanceMethod y_queueWaiting, .selects R_X y_queueWaiting y_queueWaiting, .code y_queueWaiting b_queueWaiting 3 none, .methodLink R_X 130 y_thingsInQueue, .instanceMethod y_thingsInQueue, .selects R_X y_thingsInQueue y_thingsInQueue, .code y_thingsInQueue b_thingsInQueue 3 (some .int), .methodLink R_X 133 y_bitCount, .static y_bitCount, .initialized "java/lang/Integer", .code y_bitCount b_bitCount 1 (some .int), .constant "java/lang/Integer" 265 1431655765, .constant "java/lang/Integer" 266 858993459, .constant "java/lang/Integer" 267 252645135, .methodLink R_X 146 y_takeFirstQueued, .instanceMethod y_takeFirstQueued, .selects R_X y_takeFirstQueued y_takeFirstQueued, .code y_takeFirstQueued b_takeFirstQueued 3 (some .int), .methodLink R_X 149 y_performAction, .instanceMethod y_performAction, .selects R_X y_performAction y_performAction, .code y_performAction b_performAction 2 none, .methodLink R_X 152 y_contains, .static y_contains, .code y_contains b_contains 2 (some .boolean), .methodLink R_X 156 y_hasThing, .instanceMethod y_hasThing, .selects R_X y_hasThing y_hasThing, .code y_hasThing b_hasThing 2 (some .boolean), .methodLink R_X 162 y_fieldCount, .static y_fieldCount, .code y_fieldCount b_fieldCount 1 (some .int), .methodLink R_X 174 y_emptyThing, .instanceMethod y_emptyThing, .selects R_X y_emptyThing y_emptyThing, .code y_emptyThing b_emptyThing 3 none, .methodLink R_X 177 y_copyEntry, .instanceMethod y_copyEntry, .selects R_X y_copyEntry y_copyEntry, .code y_copyEntry b_copyEntry 4 none, .methodLink R_X 180 y_withThingsHeld, .instanceMethod y_withThingsHeld, .selects R_X y_withThingsHeld y_withThingsHeld, .code y_withThingsHeld b_withThingsHeld 4 (some .int), .methodLink R_X 183 y_thingsHeldBy, .instanceMethod y_thingsHeldBy, .selects R_X y_thingsHeldBy y_thingsHeldBy, .code y_thingsHeldBy b_thingsHeldBy 3 (some .int), .methodLink R_X 186 y_thingsInFields, .instanceMethod y_thingsInFields, .selects R_X y_thingsInFields y_thingsInFields, .code y_thingsInFields b_thingsInFields 5 (some .int), .methodLink R_X 189 y_valuesOfKeysIn, .instanceMethod y_valuesOfKeysIn, .selects R_X y_valuesOfKeysIn y_valuesOfKeysIn, .code y_valuesOfKeysIn b_valuesOfKeysIn 6 (some .int), .methodLink R_X 192 y_forgetReferentOutside, .instanceMethod y_forgetReferentOutside, .selects R_X y_forgetReferentOutside y_forgetReferentOutside, .code y_forgetReferentOutside b_forgetReferentOutside 4 none, .methodLink R_X 195 y_forgetEntriesOutside, .instanceMethod y_forgetEntriesOutside, .selects R_X y_forgetEntriesOutside y_forgetEntriesOutside, .code y_forgetEntriesOutside b_forgetEntriesOutside 5 none]
def wT_IllegalArgumentException : List Cond := .classLink R_X 43 "java/lang/IllegalArgumentException" :: .initialized "java/lang/IllegalArgumentException" :: (Jvm.Bundle.ownAtoms R_X 47 "java/lang/IllegalArgumentException" zNames).filter zNo
def wT_IllegalStateException : List Cond := .classLink R_X 57 "java/lang/IllegalStateException" :: .initialized "java/lang/IllegalStateException" :: (Jvm.Bundle.ownAtoms R_X 61 "java/lang/IllegalStateException" zNames).filter zNo
def wT_IndexOutOfBoundsException : List Cond := .classLink R_X 98 "java/lang/IndexOutOfBoundsException" :: .initialized "java/lang/IndexOutOfBoundsException" :: (Jvm.Bundle.ownAtoms R_X 102 "java/lang/IndexOutOfBoundsException" zNames).filter zNo
def wT_NoSuchElementException : List Cond := .classLink R_X 141 nsN :: .initialized nsN :: zNS.filter zNo
def wX : List Cond := wX0 ++ (u_ws R_X F_X 15 ++ ((wT_IllegalArgumentException ++ wT_IllegalStateException ++ wT_IndexOutOfBoundsException ++ wT_NoSuchElementException).filter goodWord))
def wM0 : List Cond := [.initialized R_M, .fieldLink R_M 7 "EphemeronHeapModel" "kinds" "[I", .fieldLink R_M 13 "EphemeronHeapModel" "serials" "[I", .fieldLink R_M 16 "EphemeronHeapModel" "fields" "[I", .fieldLink R_M 19 "EphemeronHeapModel" "entries" "[I", .fieldLink R_M 22 "EphemeronHeapModel" "keys" "[I", .fieldLink R_M 25 "EphemeronHeapModel" "values" "[I", .fieldLink R_M 28 "EphemeronHeapModel" "states" "[I", .fieldLink R_M 31 "EphemeronHeapModel" "actions" "[I", .fieldLink R_M 34 "EphemeronHeapModel" "places" "[I", .fieldLink R_M 37 "EphemeronHeapModel" "roots" "[I", .fieldLink R_M 40 "EphemeronHeapModel" "queue" "[I", .fieldLink R_M 43 "EphemeronHeapModel" "in" "[Z", .fieldLink R_M 47 "EphemeronHeapModel" "thrown" "I", .fieldLink R_M 58 "EphemeronHeapModel" "made" "I", .fieldLink R_M 90 "EphemeronHeapModel" "collections" "I", .fieldLink R_M 99 "EphemeronHeapModel" "waiting" "I", .methodLink R_M 51 y_m_freeCell, .instanceMethod y_m_freeCell, .selects R_M y_m_freeCell y_m_freeCell, .code y_m_freeCell b_m_freeCell 3 (some .int), .methodLink R_M 55 y_m_gather, .instanceMethod y_m_gather, .selects R_M y_m_gather y_m_gather, .code y_m_gather b_m_gather 3 (some .int), .methodLink R_M 61 y_m_lose, .instanceMethod y_m_lose, .selects R_M y_m_lose y_m_lose, .code y_m_lose b_m_lose 3 none, .methodLink R_M 65 y_m_isThing, .instanceMethod y_m_isThing, .selects R_M y_m_isThing y_m_isThing, .code y_m_isThing b_m_isThing 2 (some .boolean), .methodLink R_M 69 y_m_isField, .instanceMethod y_m_isField, .selects R_M y_m_isField y_m_isField, .code y_m_isField b_m_isField 3 (some .boolean), .methodLink R_M 73 y_m_entryOf, .instanceMethod y_m_entryOf, .selects R_M y_m_entryOf y_m_entryOf, .code y_m_entryOf b_m_entryOf 5 (some .int), .methodLink R_M 77 y_m_isTable, .instanceMethod y_m_isTable, .selects R_M y_m_isTable y_m_isTable, .code y_m_isTable b_m_isTable 3 (some .boolean), .methodLink R_M 80 y_m_dropEntry, .instanceMethod y_m_dropEntry, .selects R_M y_m_dropEntry y_m_dropEntry, .code y_m_dropEntry b_m_dropEntry 4 none, .methodLink R_M 84 y_m_isRoot, .static y_m_isRoot, .code y_m_isRoot b_m_isRoot 1 (some .boolean), .methodLink R_M 87 y_m_add, .instanceMethod y_m_add, .selects R_M y_m_add y_m_add, .code y_m_add b_m_add 2 (some .boolean), .methodLink R_M 93 y_m_close, .instanceMethod y_m_close, .selects R_M y_m_close y_m_close, .code y_m_close b_m_close 4 none, .methodLink R_M 96 y_m_forget, .instanceMethod y_m_forget, .selects R_M y_m_forget y_m_forget, .code y_m_forget b_m_forget 4 none]
def wM : List Cond := wM0 ++ u_ws R_M F_M 16
theorem inX_0 {w : Cond} (h : w ∈ wX0) : w ∈ wX := List.mem_append_left _ h
theorem inX_u : ∀ w ∈ u_ws R_X F_X 15, w ∈ wX := fun w h => List.mem_append_right _ (List.mem_append_left _ h)
theorem lk_X_kinds : Cond.fieldLink R_X 9 "EphemeronHeap" "kinds" "[I" ∈ wX := inX_0 (List.mem_of_getElem? (i := 1) rfl)
theorem lk_X_serials : Cond.fieldLink R_X 13 "EphemeronHeap" "serials" "[I" ∈ wX := inX_0 (List.mem_of_getElem? (i := 2) rfl)
theorem lk_X_fields : Cond.fieldLink R_X 16 "EphemeronHeap" "fields" "[I" ∈ wX := inX_0 (List.mem_of_getElem? (i := 3) rfl)
theorem lk_X_keys : Cond.fieldLink R_X 19 "EphemeronHeap" "keys" "[I" ∈ wX := inX_0 (List.mem_of_getElem? (i := 4) rfl)
theorem lk_X_values : Cond.fieldLink R_X 22 "EphemeronHeap" "values" "[I" ∈ wX := inX_0 (List.mem_of_getElem? (i := 5) rfl)
theorem lk_X_entryCounts : Cond.fieldLink R_X 25 "EphemeronHeap" "entryCounts" "[I" ∈ wX := inX_0 (List.mem_of_getElem? (i := 6) rfl)
theorem lk_X_states : Cond.fieldLink R_X 28 "EphemeronHeap" "states" "[I" ∈ wX := inX_0 (List.mem_of_getElem? (i := 7) rfl)
theorem lk_X_actions : Cond.fieldLink R_X 31 "EphemeronHeap" "actions" "[I" ∈ wX := inX_0 (List.mem_of_getElem? (i := 8) rfl)
theorem lk_X_targets : Cond.fieldLink R_X 34 "EphemeronHeap" "targets" "[I" ∈ wX := inX_0 (List.mem_of_getElem? (i := 9) rfl)
theorem lk_X_roots : Cond.fieldLink R_X 37 "EphemeronHeap" "roots" "[I" ∈ wX := inX_0 (List.mem_of_getElem? (i := 10) rfl)
theorem lk_X_queue : Cond.fieldLink R_X 40 "EphemeronHeap" "queue" "[I" ∈ wX := inX_0 (List.mem_of_getElem? (i := 11) rfl)
theorem lk_X_timesCollected : Cond.fieldLink R_X 110 "EphemeronHeap" "timesCollected" "I" ∈ wX := inX_0 (List.mem_of_getElem? (i := 12) rfl)
theorem lk_X_occupied : Cond.fieldLink R_X 124 "EphemeronHeap" "occupied" "I" ∈ wX := inX_0 (List.mem_of_getElem? (i := 13) rfl)
theorem lk_X_queueLength : Cond.fieldLink R_X 138 "EphemeronHeap" "queueLength" "I" ∈ wX := inX_0 (List.mem_of_getElem? (i := 14) rfl)
theorem lk_X_thingsMade : Cond.fieldLink R_X 171 "EphemeronHeap" "thingsMade" "I" ∈ wX := inX_0 (List.mem_of_getElem? (i := 15) rfl)
theorem good_X : ∀ w ∈ wX, goodWord w = true := by
  have h : wX.all goodWord = true := by decide +kernel
  exact List.all_eq_true.mp h
theorem inM_0 {w : Cond} (h : w ∈ wM0) : w ∈ wM := List.mem_append_left _ h
theorem inM_u : ∀ w ∈ u_ws R_M F_M 16, w ∈ wM := fun w h => List.mem_append_right _ h
theorem lk_M_kinds : Cond.fieldLink R_M 7 "EphemeronHeapModel" "kinds" "[I" ∈ wM := inM_0 (List.mem_of_getElem? (i := 1) rfl)
theorem lk_M_serials : Cond.fieldLink R_M 13 "EphemeronHeapModel" "serials" "[I" ∈ wM := inM_0 (List.mem_of_getElem? (i := 2) rfl)
theorem lk_M_fields : Cond.fieldLink R_M 16 "EphemeronHeapModel" "fields" "[I" ∈ wM := inM_0 (List.mem_of_getElem? (i := 3) rfl)
theorem lk_M_entries : Cond.fieldLink R_M 19 "EphemeronHeapModel" "entries" "[I" ∈ wM := inM_0 (List.mem_of_getElem? (i := 4) rfl)
theorem lk_M_keys : Cond.fieldLink R_M 22 "EphemeronHeapModel" "keys" "[I" ∈ wM := inM_0 (List.mem_of_getElem? (i := 5) rfl)
theorem lk_M_values : Cond.fieldLink R_M 25 "EphemeronHeapModel" "values" "[I" ∈ wM := inM_0 (List.mem_of_getElem? (i := 6) rfl)
theorem lk_M_states : Cond.fieldLink R_M 28 "EphemeronHeapModel" "states" "[I" ∈ wM := inM_0 (List.mem_of_getElem? (i := 7) rfl)
theorem lk_M_actions : Cond.fieldLink R_M 31 "EphemeronHeapModel" "actions" "[I" ∈ wM := inM_0 (List.mem_of_getElem? (i := 8) rfl)
theorem lk_M_places : Cond.fieldLink R_M 34 "EphemeronHeapModel" "places" "[I" ∈ wM := inM_0 (List.mem_of_getElem? (i := 9) rfl)
theorem lk_M_roots : Cond.fieldLink R_M 37 "EphemeronHeapModel" "roots" "[I" ∈ wM := inM_0 (List.mem_of_getElem? (i := 10) rfl)
theorem lk_M_queue : Cond.fieldLink R_M 40 "EphemeronHeapModel" "queue" "[I" ∈ wM := inM_0 (List.mem_of_getElem? (i := 11) rfl)
theorem lk_M_in : Cond.fieldLink R_M 43 "EphemeronHeapModel" "in" "[Z" ∈ wM := inM_0 (List.mem_of_getElem? (i := 12) rfl)
theorem lk_M_thrown : Cond.fieldLink R_M 47 "EphemeronHeapModel" "thrown" "I" ∈ wM := inM_0 (List.mem_of_getElem? (i := 13) rfl)
theorem lk_M_made : Cond.fieldLink R_M 58 "EphemeronHeapModel" "made" "I" ∈ wM := inM_0 (List.mem_of_getElem? (i := 14) rfl)
theorem lk_M_collections : Cond.fieldLink R_M 90 "EphemeronHeapModel" "collections" "I" ∈ wM := inM_0 (List.mem_of_getElem? (i := 15) rfl)
theorem lk_M_waiting : Cond.fieldLink R_M 99 "EphemeronHeapModel" "waiting" "I" ∈ wM := inM_0 (List.mem_of_getElem? (i := 16) rfl)
theorem good_M : ∀ w ∈ wM, goodWord w = true := by
  have h : wM.all goodWord = true := by decide +kernel
  exact List.all_eq_true.mp h
theorem goodC {W : List Cond} (hg : ∀ w ∈ W, goodWord w = true) (c0 : Cond) {L : List Cond} (h : ∀ w ∈ L, w ∈ W) : GoodIn (c0 :: W) L := fun w hw => ⟨List.mem_cons_of_mem _ (h w hw), good_of_word (hg w (h w hw))⟩
def w_make : List Cond := .code y_make b_make 3 (some .int) :: wX
abbrev rm_make : Room := { frames := 6, cells := 1, slots := 6, locals := 138 }
def w_set : List Cond := .code y_set b_set 4 none :: wX
abbrev rm_set : Room := { frames := 8, cells := 1, slots := 6, locals := 124 }
def w_get : List Cond := .code y_get b_get 3 (some .int) :: wX
abbrev rm_get : Room := { frames := 7, cells := 1, slots := 6, locals := 104 }
def w_put : List Cond := .code y_put b_put 5 (some .boolean) :: wX
abbrev rm_put : Room := { frames := 7, cells := 1, slots := 6, locals := 103 }
def w_find : List Cond := .code y_find b_find 4 (some .int) :: wX
abbrev rm_find : Room := { frames := 7, cells := 1, slots := 6, locals := 103 }
def w_remove : List Cond := .code y_remove b_remove 4 (some .boolean) :: wX
abbrev rm_remove : Room := { frames := 7, cells := 1, slots := 6, locals := 103 }
def w_key : List Cond := .code y_key b_key 3 (some .int) :: wX
abbrev rm_key : Room := { frames := 7, cells := 1, slots := 6, locals := 103 }
def w_root : List Cond := .code y_root b_root 3 none :: wX
abbrev rm_root : Room := { frames := 8, cells := 1, slots := 6, locals := 124 }
def w_rootAt : List Cond := .code y_rootAt b_rootAt 2 (some .int) :: wX
abbrev rm_rootAt : Room := { frames := 7, cells := 1, slots := 6, locals := 103 }
def w_guard : List Cond := .code y_guard b_guard 4 none :: wX
abbrev rm_guard : Room := { frames := 7, cells := 1, slots := 6, locals := 103 }
def w_collect : List Cond := .code y_collect b_collect 4 (some .int) :: wX
abbrev rm_collect : Room := { frames := 5, cells := 0, slots := 0, locals := 115 }
def w_run : List Cond := .code y_run b_run 2 (some .int) :: wX
abbrev rm_run : Room := { frames := 6, cells := 1, slots := 6, locals := 82 }
def w_queued : List Cond := .code y_queued b_queued 1 (some .int) :: wX
abbrev rm_queued : Room := { frames := 0, cells := 0, slots := 0, locals := 0 }
def w_used : List Cond := .code y_used b_used 1 (some .int) :: wX
abbrev rm_used : Room := { frames := 0, cells := 0, slots := 0, locals := 0 }
def w_kind : List Cond := .code y_kind b_kind 2 (some .int) :: wX
abbrev rm_kind : Room := { frames := 7, cells := 1, slots := 6, locals := 103 }
def w_serial : List Cond := .code y_serial b_serial 2 (some .int) :: wX
abbrev rm_serial : Room := { frames := 7, cells := 1, slots := 6, locals := 103 }
def w_collections : List Cond := .code y_collections b_collections 1 (some .int) :: wX
abbrev rm_collections : Room := { frames := 0, cells := 0, slots := 0, locals := 0 }
def w_contains : List Cond := .code y_contains b_contains 2 (some .boolean) :: wX
abbrev rm_contains : Room := { frames := 0, cells := 0, slots := 0, locals := 0 }
def w_hasThing : List Cond := .code y_hasThing b_hasThing 2 (some .boolean) :: wX
abbrev rm_hasThing : Room := { frames := 1, cells := 0, slots := 0, locals := 21 }
def w_requireThing : List Cond := .code y_requireThing b_requireThing 2 none :: wX
abbrev rm_requireThing : Room := { frames := 6, cells := 1, slots := 6, locals := 82 }
def w_requireThingOrNone : List Cond := .code y_requireThingOrNone b_requireThingOrNone 2 none :: wX
abbrev rm_requireThingOrNone : Room := { frames := 7, cells := 1, slots := 6, locals := 103 }
def w_requireField : List Cond := .code y_requireField b_requireField 3 none :: wX
abbrev rm_requireField : Room := { frames := 6, cells := 1, slots := 6, locals := 82 }
def w_requireTable : List Cond := .code y_requireTable b_requireTable 2 none :: wX
abbrev rm_requireTable : Room := { frames := 6, cells := 1, slots := 6, locals := 82 }
def w_requireRoot : List Cond := .code y_requireRoot b_requireRoot 2 none :: wX
abbrev rm_requireRoot : Room := { frames := 6, cells := 1, slots := 6, locals := 82 }
def w_fieldCount : List Cond := .code y_fieldCount b_fieldCount 1 (some .int) :: wX
abbrev rm_fieldCount : Room := { frames := 0, cells := 0, slots := 0, locals := 0 }
def w_fieldSlot : List Cond := .code y_fieldSlot b_fieldSlot 2 (some .int) :: wX
abbrev rm_fieldSlot : Room := { frames := 0, cells := 0, slots := 0, locals := 0 }
def w_entrySlot : List Cond := .code y_entrySlot b_entrySlot 2 (some .int) :: wX
abbrev rm_entrySlot : Room := { frames := 0, cells := 0, slots := 0, locals := 0 }
def w_leastFreeCell : List Cond := .code y_leastFreeCell b_leastFreeCell 2 (some .int) :: wX
abbrev rm_leastFreeCell : Room := { frames := 1, cells := 0, slots := 0, locals := 21 }
def w_placeThing : List Cond := .code y_placeThing b_placeThing 3 none :: wX
abbrev rm_placeThing : Room := { frames := 2, cells := 0, slots := 0, locals := 43 }
def w_emptyThing : List Cond := .code y_emptyThing b_emptyThing 3 none :: wX
abbrev rm_emptyThing : Room := { frames := 1, cells := 0, slots := 0, locals := 21 }
def w_entryOf : List Cond := .code y_entryOf b_entryOf 4 (some .int) :: wX
abbrev rm_entryOf : Room := { frames := 1, cells := 0, slots := 0, locals := 21 }
def w_appendEntry : List Cond := .code y_appendEntry b_appendEntry 5 none :: wX
abbrev rm_appendEntry : Room := { frames := 1, cells := 0, slots := 0, locals := 21 }
def w_dropEntry : List Cond := .code y_dropEntry b_dropEntry 5 none :: wX
abbrev rm_dropEntry : Room := { frames := 2, cells := 0, slots := 0, locals := 44 }
def w_copyEntry : List Cond := .code y_copyEntry b_copyEntry 4 none :: wX
abbrev rm_copyEntry : Room := { frames := 1, cells := 0, slots := 0, locals := 21 }
def w_thingsInRoots : List Cond := .code y_thingsInRoots b_thingsInRoots 3 (some .int) :: wX
abbrev rm_thingsInRoots : Room := { frames := 0, cells := 0, slots := 0, locals := 0 }
def w_thingsInQueue : List Cond := .code y_thingsInQueue b_thingsInQueue 3 (some .int) :: wX
abbrev rm_thingsInQueue : Room := { frames := 0, cells := 0, slots := 0, locals := 0 }
def w_closureOf : List Cond := .code y_closureOf b_closureOf 5 (some .int) :: wX
abbrev rm_closureOf : Room := { frames := 4, cells := 0, slots := 0, locals := 91 }
def w_withThingsHeld : List Cond := .code y_withThingsHeld b_withThingsHeld 4 (some .int) :: wX
abbrev rm_withThingsHeld : Room := { frames := 3, cells := 0, slots := 0, locals := 68 }
def w_thingsHeldBy : List Cond := .code y_thingsHeldBy b_thingsHeldBy 3 (some .int) :: wX
abbrev rm_thingsHeldBy : Room := { frames := 2, cells := 0, slots := 0, locals := 46 }
def w_thingsInFields : List Cond := .code y_thingsInFields b_thingsInFields 5 (some .int) :: wX
abbrev rm_thingsInFields : Room := { frames := 1, cells := 0, slots := 0, locals := 21 }
def w_valuesOfKeysIn : List Cond := .code y_valuesOfKeysIn b_valuesOfKeysIn 6 (some .int) :: wX
abbrev rm_valuesOfKeysIn : Room := { frames := 1, cells := 0, slots := 0, locals := 21 }
def w_forgetOutside : List Cond := .code y_forgetOutside b_forgetOutside 3 none :: wX
abbrev rm_forgetOutside : Room := { frames := 3, cells := 0, slots := 0, locals := 68 }
def w_forgetReferentOutside : List Cond := .code y_forgetReferentOutside b_forgetReferentOutside 4 none :: wX
abbrev rm_forgetReferentOutside : Room := { frames := 1, cells := 0, slots := 0, locals := 21 }
def w_forgetEntriesOutside : List Cond := .code y_forgetEntriesOutside b_forgetEntriesOutside 5 none :: wX
abbrev rm_forgetEntriesOutside : Room := { frames := 2, cells := 0, slots := 0, locals := 44 }
def w_queueWaiting : List Cond := .code y_queueWaiting b_queueWaiting 3 none :: wX
abbrev rm_queueWaiting : Room := { frames := 1, cells := 0, slots := 0, locals := 21 }
def w_takeFirstQueued : List Cond := .code y_takeFirstQueued b_takeFirstQueued 3 (some .int) :: wX
abbrev rm_takeFirstQueued : Room := { frames := 0, cells := 0, slots := 0, locals := 0 }
def w_performAction : List Cond := .code y_performAction b_performAction 2 none :: wX
abbrev rm_performAction : Room := { frames := 2, cells := 0, slots := 0, locals := 43 }
def w_m_thrown : List Cond := .code y_m_thrown b_m_thrown 1 (some .int) :: wM
abbrev rm_m_thrown : Room := { frames := 0, cells := 0, slots := 0, locals := 0 }
def w_m_isThing : List Cond := .code y_m_isThing b_m_isThing 2 (some .boolean) :: wM
abbrev rm_m_isThing : Room := { frames := 0, cells := 0, slots := 0, locals := 0 }
def w_m_isRoot : List Cond := .code y_m_isRoot b_m_isRoot 1 (some .boolean) :: wM
abbrev rm_m_isRoot : Room := { frames := 0, cells := 0, slots := 0, locals := 0 }
def w_m_isField : List Cond := .code y_m_isField b_m_isField 3 (some .boolean) :: wM
abbrev rm_m_isField : Room := { frames := 0, cells := 0, slots := 0, locals := 0 }
def w_m_freeCell : List Cond := .code y_m_freeCell b_m_freeCell 3 (some .int) :: wM
abbrev rm_m_freeCell : Room := { frames := 0, cells := 0, slots := 0, locals := 0 }
def w_m_make : List Cond := .code y_m_make b_m_make 3 (some .int) :: wM
abbrev rm_m_make : Room := { frames := 3, cells := 0, slots := 0, locals := 68 }
def w_m_lose : List Cond := .code y_m_lose b_m_lose 3 none :: wM
abbrev rm_m_lose : Room := { frames := 0, cells := 0, slots := 0, locals := 0 }
def w_m_set : List Cond := .code y_m_set b_m_set 4 none :: wM
abbrev rm_m_set : Room := { frames := 1, cells := 0, slots := 0, locals := 22 }
def w_m_get : List Cond := .code y_m_get b_m_get 3 (some .int) :: wM
abbrev rm_m_get : Room := { frames := 1, cells := 0, slots := 0, locals := 22 }
def w_m_entryOf : List Cond := .code y_m_entryOf b_m_entryOf 5 (some .int) :: wM
abbrev rm_m_entryOf : Room := { frames := 0, cells := 0, slots := 0, locals := 0 }
def w_m_dropEntry : List Cond := .code y_m_dropEntry b_m_dropEntry 4 none :: wM
abbrev rm_m_dropEntry : Room := { frames := 0, cells := 0, slots := 0, locals := 0 }
def w_m_put : List Cond := .code y_m_put b_m_put 6 (some .boolean) :: wM
abbrev rm_m_put : Room := { frames := 1, cells := 0, slots := 0, locals := 24 }
def w_m_isTable : List Cond := .code y_m_isTable b_m_isTable 3 (some .boolean) :: wM
abbrev rm_m_isTable : Room := { frames := 1, cells := 0, slots := 0, locals := 21 }
def w_m_find : List Cond := .code y_m_find b_m_find 4 (some .int) :: wM
abbrev rm_m_find : Room := { frames := 2, cells := 0, slots := 0, locals := 43 }
def w_m_remove : List Cond := .code y_m_remove b_m_remove 4 (some .boolean) :: wM
abbrev rm_m_remove : Room := { frames := 2, cells := 0, slots := 0, locals := 43 }
def w_m_key : List Cond := .code y_m_key b_m_key 3 (some .int) :: wM
abbrev rm_m_key : Room := { frames := 1, cells := 0, slots := 0, locals := 21 }
def w_m_root : List Cond := .code y_m_root b_m_root 3 none :: wM
abbrev rm_m_root : Room := { frames := 1, cells := 0, slots := 0, locals := 21 }
def w_m_rootAt : List Cond := .code y_m_rootAt b_m_rootAt 2 (some .int) :: wM
abbrev rm_m_rootAt : Room := { frames := 1, cells := 0, slots := 0, locals := 20 }
def w_m_guard : List Cond := .code y_m_guard b_m_guard 4 none :: wM
abbrev rm_m_guard : Room := { frames := 1, cells := 0, slots := 0, locals := 21 }
def w_m_close : List Cond := .code y_m_close b_m_close 4 none :: wM
abbrev rm_m_close : Room := { frames := 1, cells := 0, slots := 0, locals := 21 }
def w_m_add : List Cond := .code y_m_add b_m_add 2 (some .boolean) :: wM
abbrev rm_m_add : Room := { frames := 0, cells := 0, slots := 0, locals := 0 }
def w_m_forget : List Cond := .code y_m_forget b_m_forget 4 none :: wM
abbrev rm_m_forget : Room := { frames := 1, cells := 0, slots := 0, locals := 23 }
def w_m_gather : List Cond := .code y_m_gather b_m_gather 3 (some .int) :: wM
abbrev rm_m_gather : Room := { frames := 2, cells := 0, slots := 0, locals := 46 }
def w_m_collect : List Cond := .code y_m_collect b_m_collect 1 (some .int) :: wM
abbrev rm_m_collect : Room := { frames := 3, cells := 0, slots := 0, locals := 68 }
def w_m_run : List Cond := .code y_m_run b_m_run 3 (some .int) :: wM
abbrev rm_m_run : Room := { frames := 1, cells := 0, slots := 0, locals := 22 }
def w_m_queued : List Cond := .code y_m_queued b_m_queued 1 (some .int) :: wM
abbrev rm_m_queued : Room := { frames := 0, cells := 0, slots := 0, locals := 0 }
def w_m_used : List Cond := .code y_m_used b_m_used 3 (some .int) :: wM
abbrev rm_m_used : Room := { frames := 0, cells := 0, slots := 0, locals := 0 }
def w_m_kind : List Cond := .code y_m_kind b_m_kind 2 (some .int) :: wM
abbrev rm_m_kind : Room := { frames := 1, cells := 0, slots := 0, locals := 21 }
def w_m_serial : List Cond := .code y_m_serial b_m_serial 2 (some .int) :: wM
abbrev rm_m_serial : Room := { frames := 1, cells := 0, slots := 0, locals := 21 }
def w_m_collections : List Cond := .code y_m_collections b_m_collections 1 (some .int) :: wM
abbrev rm_m_collections : Room := { frames := 0, cells := 0, slots := 0, locals := 0 }
def w_bitCount : List Cond := .code y_bitCount b_bitCount 1 (some .int) :: wX
abbrev rm_bitCount : Room := { frames := 0, cells := 0, slots := 0, locals := 0 }
theorem at_IllegalArgumentException (c0 : Cond) : ∀ w ∈ wT_IllegalArgumentException, (w ∈ c0 :: wX ∨ zWk w = true) ∧ (w.onTables || goodWord w) = true := by
  have h : wT_IllegalArgumentException.all (fun w => (goodWord w || zWk w) && (w.onTables || goodWord w)) = true := by decide +kernel
  intro w hw
  have h1 := List.all_eq_true.mp h w hw
  rw [Bool.and_eq_true, Bool.or_eq_true] at h1
  refine ⟨h1.1.imp (fun hg => List.mem_cons_of_mem _ (List.mem_append_right _ (List.mem_append_right _ (List.mem_filter.mpr ⟨?_, hg⟩)))) id, h1.2⟩
  simp only [List.mem_append]; simp [hw]
theorem at_IllegalStateException (c0 : Cond) : ∀ w ∈ wT_IllegalStateException, (w ∈ c0 :: wX ∨ zWk w = true) ∧ (w.onTables || goodWord w) = true := by
  have h : wT_IllegalStateException.all (fun w => (goodWord w || zWk w) && (w.onTables || goodWord w)) = true := by decide +kernel
  intro w hw
  have h1 := List.all_eq_true.mp h w hw
  rw [Bool.and_eq_true, Bool.or_eq_true] at h1
  refine ⟨h1.1.imp (fun hg => List.mem_cons_of_mem _ (List.mem_append_right _ (List.mem_append_right _ (List.mem_filter.mpr ⟨?_, hg⟩)))) id, h1.2⟩
  simp only [List.mem_append]; simp [hw]
theorem at_IndexOutOfBoundsException (c0 : Cond) : ∀ w ∈ wT_IndexOutOfBoundsException, (w ∈ c0 :: wX ∨ zWk w = true) ∧ (w.onTables || goodWord w) = true := by
  have h : wT_IndexOutOfBoundsException.all (fun w => (goodWord w || zWk w) && (w.onTables || goodWord w)) = true := by decide +kernel
  intro w hw
  have h1 := List.all_eq_true.mp h w hw
  rw [Bool.and_eq_true, Bool.or_eq_true] at h1
  refine ⟨h1.1.imp (fun hg => List.mem_cons_of_mem _ (List.mem_append_right _ (List.mem_append_right _ (List.mem_filter.mpr ⟨?_, hg⟩)))) id, h1.2⟩
  simp only [List.mem_append]; simp [hw]
theorem at_NoSuchElementException (c0 : Cond) : ∀ w ∈ wT_NoSuchElementException, (w ∈ c0 :: wX ∨ zWk w = true) ∧ (w.onTables || goodWord w) = true := by
  have h : wT_NoSuchElementException.all (fun w => (goodWord w || zWk w) && (w.onTables || goodWord w)) = true := by decide +kernel
  intro w hw
  have h1 := List.all_eq_true.mp h w hw
  rw [Bool.and_eq_true, Bool.or_eq_true] at h1
  refine ⟨h1.1.imp (fun hg => List.mem_cons_of_mem _ (List.mem_append_right _ (List.mem_append_right _ (List.mem_filter.mpr ⟨?_, hg⟩)))) id, h1.2⟩
  simp only [List.mem_append]; simp [hw]
theorem st_45 : (R_X, 45, "no such kind") ∈ zStrs := List.mem_of_getElem? (i := 0) rfl
theorem st_59 : (R_X, 59, "no cell is free") ∈ zStrs := List.mem_of_getElem? (i := 1) rfl
theorem st_160 : (R_X, 160, "no thing in this cell") ∈ zStrs := List.mem_of_getElem? (i := 2) rfl
theorem st_165 : (R_X, 165, "no such field") ∈ zStrs := List.mem_of_getElem? (i := 3) rfl
theorem st_167 : (R_X, 167, "no table") ∈ zStrs := List.mem_of_getElem? (i := 4) rfl
theorem st_89 : (R_X, 89, "the table is full") ∈ zStrs := List.mem_of_getElem? (i := 5) rfl
theorem st_100 : (R_X, 100, "no such entry") ∈ zStrs := List.mem_of_getElem? (i := 6) rfl
theorem st_169 : (R_X, 169, "no such root") ∈ zStrs := List.mem_of_getElem? (i := 7) rfl
theorem st_106 : (R_X, 106, "no such action") ∈ zStrs := List.mem_of_getElem? (i := 8) rfl
theorem st_108 : (R_X, 108, "the thing has a finaliser") ∈ zStrs := List.mem_of_getElem? (i := 9) rfl
theorem st_143 : (R_X, 143, "the queue is empty") ∈ zStrs := List.mem_of_getElem? (i := 10) rfl
theorem ok_leastFreeCell (c0 : Cond) : okV (c0 :: wX) R_X 50 R_X y_leastFreeCell b_leastFreeCell 2 (some .int) w_leastFreeCell 0 := ⟨goodC good_X c0 (fun w hw => by
    rcases List.mem_append.mp hw with h | h
    · rcases List.mem_cons.mp h with e | h
      · rw [e]; exact (inX_0 (List.mem_of_getElem? (i := 16) rfl))
      · rcases List.mem_cons.mp h with e | h
        · rw [e]; exact (inX_0 (List.mem_of_getElem? (i := 17) rfl))
        · rcases List.mem_cons.mp h with e | h
          · rw [e]; exact (inX_0 (List.mem_of_getElem? (i := 18) rfl))
          · rcases List.mem_cons.mp h with e | h
            · rw [e]; exact inX_0 (List.mem_of_getElem? (i := 0) rfl)
            · cases h
    · exact (fun w hw => (List.mem_cons.mp hw).elim (fun e => e ▸ (inX_0 (List.mem_of_getElem? (i := 19) rfl))) id) w h), ⟨_, rfl⟩, by decide, by decide, by decide, by decide +kernel⟩
theorem ok_collect (c0 : Cond) : okV (c0 :: wX) R_X 54 R_X y_collect b_collect 4 (some .int) w_collect 0 := ⟨goodC good_X c0 (fun w hw => by
    rcases List.mem_append.mp hw with h | h
    · rcases List.mem_cons.mp h with e | h
      · rw [e]; exact (inX_0 (List.mem_of_getElem? (i := 20) rfl))
      · rcases List.mem_cons.mp h with e | h
        · rw [e]; exact (inX_0 (List.mem_of_getElem? (i := 21) rfl))
        · rcases List.mem_cons.mp h with e | h
          · rw [e]; exact (inX_0 (List.mem_of_getElem? (i := 22) rfl))
          · rcases List.mem_cons.mp h with e | h
            · rw [e]; exact inX_0 (List.mem_of_getElem? (i := 0) rfl)
            · cases h
    · exact (fun w hw => (List.mem_cons.mp hw).elim (fun e => e ▸ (inX_0 (List.mem_of_getElem? (i := 23) rfl))) id) w h), ⟨_, rfl⟩, by decide, by decide, by decide, by decide +kernel⟩
theorem ok_placeThing (c0 : Cond) : okV (c0 :: wX) R_X 62 R_X y_placeThing b_placeThing 3 none w_placeThing 2 := ⟨goodC good_X c0 (fun w hw => by
    rcases List.mem_append.mp hw with h | h
    · rcases List.mem_cons.mp h with e | h
      · rw [e]; exact (inX_0 (List.mem_of_getElem? (i := 24) rfl))
      · rcases List.mem_cons.mp h with e | h
        · rw [e]; exact (inX_0 (List.mem_of_getElem? (i := 25) rfl))
        · rcases List.mem_cons.mp h with e | h
          · rw [e]; exact (inX_0 (List.mem_of_getElem? (i := 26) rfl))
          · rcases List.mem_cons.mp h with e | h
            · rw [e]; exact inX_0 (List.mem_of_getElem? (i := 0) rfl)
            · cases h
    · exact (fun w hw => (List.mem_cons.mp hw).elim (fun e => e ▸ (inX_0 (List.mem_of_getElem? (i := 27) rfl))) id) w h), ⟨_, rfl⟩, by decide, by decide, by decide, by decide +kernel⟩
theorem ok_requireThing (c0 : Cond) : okV (c0 :: wX) R_X 66 R_X y_requireThing b_requireThing 2 none w_requireThing 1 := ⟨goodC good_X c0 (fun w hw => by
    rcases List.mem_append.mp hw with h | h
    · rcases List.mem_cons.mp h with e | h
      · rw [e]; exact (inX_0 (List.mem_of_getElem? (i := 28) rfl))
      · rcases List.mem_cons.mp h with e | h
        · rw [e]; exact (inX_0 (List.mem_of_getElem? (i := 29) rfl))
        · rcases List.mem_cons.mp h with e | h
          · rw [e]; exact (inX_0 (List.mem_of_getElem? (i := 30) rfl))
          · rcases List.mem_cons.mp h with e | h
            · rw [e]; exact inX_0 (List.mem_of_getElem? (i := 0) rfl)
            · cases h
    · exact (fun w hw => (List.mem_cons.mp hw).elim (fun e => e ▸ (inX_0 (List.mem_of_getElem? (i := 31) rfl))) id) w h), ⟨_, rfl⟩, by decide, by decide, by decide, by decide +kernel⟩
theorem ok_requireThingOrNone (c0 : Cond) : okV (c0 :: wX) R_X 70 R_X y_requireThingOrNone b_requireThingOrNone 2 none w_requireThingOrNone 1 := ⟨goodC good_X c0 (fun w hw => by
    rcases List.mem_append.mp hw with h | h
    · rcases List.mem_cons.mp h with e | h
      · rw [e]; exact (inX_0 (List.mem_of_getElem? (i := 32) rfl))
      · rcases List.mem_cons.mp h with e | h
        · rw [e]; exact (inX_0 (List.mem_of_getElem? (i := 33) rfl))
        · rcases List.mem_cons.mp h with e | h
          · rw [e]; exact (inX_0 (List.mem_of_getElem? (i := 34) rfl))
          · rcases List.mem_cons.mp h with e | h
            · rw [e]; exact inX_0 (List.mem_of_getElem? (i := 0) rfl)
            · cases h
    · exact (fun w hw => (List.mem_cons.mp hw).elim (fun e => e ▸ (inX_0 (List.mem_of_getElem? (i := 35) rfl))) id) w h), ⟨_, rfl⟩, by decide, by decide, by decide, by decide +kernel⟩
theorem ok_requireField (c0 : Cond) : okV (c0 :: wX) R_X 73 R_X y_requireField b_requireField 3 none w_requireField 2 := ⟨goodC good_X c0 (fun w hw => by
    rcases List.mem_append.mp hw with h | h
    · rcases List.mem_cons.mp h with e | h
      · rw [e]; exact (inX_0 (List.mem_of_getElem? (i := 36) rfl))
      · rcases List.mem_cons.mp h with e | h
        · rw [e]; exact (inX_0 (List.mem_of_getElem? (i := 37) rfl))
        · rcases List.mem_cons.mp h with e | h
          · rw [e]; exact (inX_0 (List.mem_of_getElem? (i := 38) rfl))
          · rcases List.mem_cons.mp h with e | h
            · rw [e]; exact inX_0 (List.mem_of_getElem? (i := 0) rfl)
            · cases h
    · exact (fun w hw => (List.mem_cons.mp hw).elim (fun e => e ▸ (inX_0 (List.mem_of_getElem? (i := 39) rfl))) id) w h), ⟨_, rfl⟩, by decide, by decide, by decide, by decide +kernel⟩
theorem ok_fieldSlot (c0 : Cond) : okS (c0 :: wX) R_X 76 y_fieldSlot 2 w_fieldSlot 2 := ⟨goodC good_X c0 (fun w hw => (List.mem_cons.mp hw).elim (fun e => e ▸ (inX_0 (List.mem_of_getElem? (i := 42) rfl))) id), z_code rfl, List.mem_cons_of_mem _ (inX_0 (List.mem_of_getElem? (i := 40) rfl)), List.mem_cons_of_mem _ (inX_0 (List.mem_of_getElem? (i := 41) rfl)), List.mem_cons_of_mem _ (inX_0 (List.mem_of_getElem? (i := 0) rfl)), by decide, by decide, by decide +kernel⟩
theorem ok_requireTable (c0 : Cond) : okV (c0 :: wX) R_X 80 R_X y_requireTable b_requireTable 2 none w_requireTable 1 := ⟨goodC good_X c0 (fun w hw => by
    rcases List.mem_append.mp hw with h | h
    · rcases List.mem_cons.mp h with e | h
      · rw [e]; exact (inX_0 (List.mem_of_getElem? (i := 43) rfl))
      · rcases List.mem_cons.mp h with e | h
        · rw [e]; exact (inX_0 (List.mem_of_getElem? (i := 44) rfl))
        · rcases List.mem_cons.mp h with e | h
          · rw [e]; exact (inX_0 (List.mem_of_getElem? (i := 45) rfl))
          · rcases List.mem_cons.mp h with e | h
            · rw [e]; exact inX_0 (List.mem_of_getElem? (i := 0) rfl)
            · cases h
    · exact (fun w hw => (List.mem_cons.mp hw).elim (fun e => e ▸ (inX_0 (List.mem_of_getElem? (i := 46) rfl))) id) w h), ⟨_, rfl⟩, by decide, by decide, by decide, by decide +kernel⟩
theorem ok_entryOf (c0 : Cond) : okV (c0 :: wX) R_X 83 R_X y_entryOf b_entryOf 4 (some .int) w_entryOf 2 := ⟨goodC good_X c0 (fun w hw => by
    rcases List.mem_append.mp hw with h | h
    · rcases List.mem_cons.mp h with e | h
      · rw [e]; exact (inX_0 (List.mem_of_getElem? (i := 47) rfl))
      · rcases List.mem_cons.mp h with e | h
        · rw [e]; exact (inX_0 (List.mem_of_getElem? (i := 48) rfl))
        · rcases List.mem_cons.mp h with e | h
          · rw [e]; exact (inX_0 (List.mem_of_getElem? (i := 49) rfl))
          · rcases List.mem_cons.mp h with e | h
            · rw [e]; exact inX_0 (List.mem_of_getElem? (i := 0) rfl)
            · cases h
    · exact (fun w hw => (List.mem_cons.mp hw).elim (fun e => e ▸ (inX_0 (List.mem_of_getElem? (i := 50) rfl))) id) w h), ⟨_, rfl⟩, by decide, by decide, by decide, by decide +kernel⟩
theorem ok_entrySlot (c0 : Cond) : okS (c0 :: wX) R_X 86 y_entrySlot 2 w_entrySlot 2 := ⟨goodC good_X c0 (fun w hw => (List.mem_cons.mp hw).elim (fun e => e ▸ (inX_0 (List.mem_of_getElem? (i := 53) rfl))) id), z_code rfl, List.mem_cons_of_mem _ (inX_0 (List.mem_of_getElem? (i := 51) rfl)), List.mem_cons_of_mem _ (inX_0 (List.mem_of_getElem? (i := 52) rfl)), List.mem_cons_of_mem _ (inX_0 (List.mem_of_getElem? (i := 0) rfl)), by decide, by decide, by decide +kernel⟩
theorem ok_appendEntry (c0 : Cond) : okV (c0 :: wX) R_X 91 R_X y_appendEntry b_appendEntry 5 none w_appendEntry 3 := ⟨goodC good_X c0 (fun w hw => by
    rcases List.mem_append.mp hw with h | h
    · rcases List.mem_cons.mp h with e | h
      · rw [e]; exact (inX_0 (List.mem_of_getElem? (i := 54) rfl))
      · rcases List.mem_cons.mp h with e | h
        · rw [e]; exact (inX_0 (List.mem_of_getElem? (i := 55) rfl))
        · rcases List.mem_cons.mp h with e | h
          · rw [e]; exact (inX_0 (List.mem_of_getElem? (i := 56) rfl))
          · rcases List.mem_cons.mp h with e | h
            · rw [e]; exact inX_0 (List.mem_of_getElem? (i := 0) rfl)
            · cases h
    · exact (fun w hw => (List.mem_cons.mp hw).elim (fun e => e ▸ (inX_0 (List.mem_of_getElem? (i := 57) rfl))) id) w h), ⟨_, rfl⟩, by decide, by decide, by decide, by decide +kernel⟩
theorem ok_dropEntry (c0 : Cond) : okV (c0 :: wX) R_X 95 R_X y_dropEntry b_dropEntry 5 none w_dropEntry 2 := ⟨goodC good_X c0 (fun w hw => by
    rcases List.mem_append.mp hw with h | h
    · rcases List.mem_cons.mp h with e | h
      · rw [e]; exact (inX_0 (List.mem_of_getElem? (i := 58) rfl))
      · rcases List.mem_cons.mp h with e | h
        · rw [e]; exact (inX_0 (List.mem_of_getElem? (i := 59) rfl))
        · rcases List.mem_cons.mp h with e | h
          · rw [e]; exact (inX_0 (List.mem_of_getElem? (i := 60) rfl))
          · rcases List.mem_cons.mp h with e | h
            · rw [e]; exact inX_0 (List.mem_of_getElem? (i := 0) rfl)
            · cases h
    · exact (fun w hw => (List.mem_cons.mp hw).elim (fun e => e ▸ (inX_0 (List.mem_of_getElem? (i := 61) rfl))) id) w h), ⟨_, rfl⟩, by decide, by decide, by decide, by decide +kernel⟩
theorem ok_requireRoot (c0 : Cond) : okV (c0 :: wX) R_X 103 R_X y_requireRoot b_requireRoot 2 none w_requireRoot 1 := ⟨goodC good_X c0 (fun w hw => by
    rcases List.mem_append.mp hw with h | h
    · rcases List.mem_cons.mp h with e | h
      · rw [e]; exact (inX_0 (List.mem_of_getElem? (i := 62) rfl))
      · rcases List.mem_cons.mp h with e | h
        · rw [e]; exact (inX_0 (List.mem_of_getElem? (i := 63) rfl))
        · rcases List.mem_cons.mp h with e | h
          · rw [e]; exact (inX_0 (List.mem_of_getElem? (i := 64) rfl))
          · rcases List.mem_cons.mp h with e | h
            · rw [e]; exact inX_0 (List.mem_of_getElem? (i := 0) rfl)
            · cases h
    · exact (fun w hw => (List.mem_cons.mp hw).elim (fun e => e ▸ (inX_0 (List.mem_of_getElem? (i := 65) rfl))) id) w h), ⟨_, rfl⟩, by decide, by decide, by decide, by decide +kernel⟩
theorem ok_thingsInRoots (c0 : Cond) : okV (c0 :: wX) R_X 114 R_X y_thingsInRoots b_thingsInRoots 3 (some .int) w_thingsInRoots 0 := ⟨goodC good_X c0 (fun w hw => by
    rcases List.mem_append.mp hw with h | h
    · rcases List.mem_cons.mp h with e | h
      · rw [e]; exact (inX_0 (List.mem_of_getElem? (i := 66) rfl))
      · rcases List.mem_cons.mp h with e | h
        · rw [e]; exact (inX_0 (List.mem_of_getElem? (i := 67) rfl))
        · rcases List.mem_cons.mp h with e | h
          · rw [e]; exact (inX_0 (List.mem_of_getElem? (i := 68) rfl))
          · rcases List.mem_cons.mp h with e | h
            · rw [e]; exact inX_0 (List.mem_of_getElem? (i := 0) rfl)
            · cases h
    · exact (fun w hw => (List.mem_cons.mp hw).elim (fun e => e ▸ (inX_0 (List.mem_of_getElem? (i := 69) rfl))) id) w h), ⟨_, rfl⟩, by decide, by decide, by decide, by decide +kernel⟩
theorem ok_closureOf (c0 : Cond) : okV (c0 :: wX) R_X 117 R_X y_closureOf b_closureOf 5 (some .int) w_closureOf 1 := ⟨goodC good_X c0 (fun w hw => by
    rcases List.mem_append.mp hw with h | h
    · rcases List.mem_cons.mp h with e | h
      · rw [e]; exact (inX_0 (List.mem_of_getElem? (i := 70) rfl))
      · rcases List.mem_cons.mp h with e | h
        · rw [e]; exact (inX_0 (List.mem_of_getElem? (i := 71) rfl))
        · rcases List.mem_cons.mp h with e | h
          · rw [e]; exact (inX_0 (List.mem_of_getElem? (i := 72) rfl))
          · rcases List.mem_cons.mp h with e | h
            · rw [e]; exact inX_0 (List.mem_of_getElem? (i := 0) rfl)
            · cases h
    · exact (fun w hw => (List.mem_cons.mp hw).elim (fun e => e ▸ (inX_0 (List.mem_of_getElem? (i := 73) rfl))) id) w h), ⟨_, rfl⟩, by decide, by decide, by decide, by decide +kernel⟩
theorem ok_forgetOutside (c0 : Cond) : okV (c0 :: wX) R_X 121 R_X y_forgetOutside b_forgetOutside 3 none w_forgetOutside 1 := ⟨goodC good_X c0 (fun w hw => by
    rcases List.mem_append.mp hw with h | h
    · rcases List.mem_cons.mp h with e | h
      · rw [e]; exact (inX_0 (List.mem_of_getElem? (i := 74) rfl))
      · rcases List.mem_cons.mp h with e | h
        · rw [e]; exact (inX_0 (List.mem_of_getElem? (i := 75) rfl))
        · rcases List.mem_cons.mp h with e | h
          · rw [e]; exact (inX_0 (List.mem_of_getElem? (i := 76) rfl))
          · rcases List.mem_cons.mp h with e | h
            · rw [e]; exact inX_0 (List.mem_of_getElem? (i := 0) rfl)
            · cases h
    · exact (fun w hw => (List.mem_cons.mp hw).elim (fun e => e ▸ (inX_0 (List.mem_of_getElem? (i := 77) rfl))) id) w h), ⟨_, rfl⟩, by decide, by decide, by decide, by decide +kernel⟩
theorem ok_queueWaiting (c0 : Cond) : okV (c0 :: wX) R_X 127 R_X y_queueWaiting b_queueWaiting 3 none w_queueWaiting 1 := ⟨goodC good_X c0 (fun w hw => by
    rcases List.mem_append.mp hw with h | h
    · rcases List.mem_cons.mp h with e | h
      · rw [e]; exact (inX_0 (List.mem_of_getElem? (i := 78) rfl))
      · rcases List.mem_cons.mp h with e | h
        · rw [e]; exact (inX_0 (List.mem_of_getElem? (i := 79) rfl))
        · rcases List.mem_cons.mp h with e | h
          · rw [e]; exact (inX_0 (List.mem_of_getElem? (i := 80) rfl))
          · rcases List.mem_cons.mp h with e | h
            · rw [e]; exact inX_0 (List.mem_of_getElem? (i := 0) rfl)
            · cases h
    · exact (fun w hw => (List.mem_cons.mp hw).elim (fun e => e ▸ (inX_0 (List.mem_of_getElem? (i := 81) rfl))) id) w h), ⟨_, rfl⟩, by decide, by decide, by decide, by decide +kernel⟩
theorem ok_thingsInQueue (c0 : Cond) : okV (c0 :: wX) R_X 130 R_X y_thingsInQueue b_thingsInQueue 3 (some .int) w_thingsInQueue 0 := ⟨goodC good_X c0 (fun w hw => by
    rcases List.mem_append.mp hw with h | h
    · rcases List.mem_cons.mp h with e | h
      · rw [e]; exact (inX_0 (List.mem_of_getElem? (i := 82) rfl))
      · rcases List.mem_cons.mp h with e | h
        · rw [e]; exact (inX_0 (List.mem_of_getElem? (i := 83) rfl))
        · rcases List.mem_cons.mp h with e | h
          · rw [e]; exact (inX_0 (List.mem_of_getElem? (i := 84) rfl))
          · rcases List.mem_cons.mp h with e | h
            · rw [e]; exact inX_0 (List.mem_of_getElem? (i := 0) rfl)
            · cases h
    · exact (fun w hw => (List.mem_cons.mp hw).elim (fun e => e ▸ (inX_0 (List.mem_of_getElem? (i := 85) rfl))) id) w h), ⟨_, rfl⟩, by decide, by decide, by decide, by decide +kernel⟩
theorem ok_bitCount (c0 : Cond) : okS (c0 :: wX) R_X 133 y_bitCount 1 w_bitCount 1 := ⟨goodC good_X c0 (fun w hw => (List.mem_cons.mp hw).elim (fun e => e ▸ (inX_0 (List.mem_of_getElem? (i := 89) rfl))) id), z_code rfl, List.mem_cons_of_mem _ (inX_0 (List.mem_of_getElem? (i := 86) rfl)), List.mem_cons_of_mem _ (inX_0 (List.mem_of_getElem? (i := 87) rfl)), List.mem_cons_of_mem _ (inX_0 (List.mem_of_getElem? (i := 88) rfl)), by decide, by decide, by decide +kernel⟩
theorem ok_takeFirstQueued (c0 : Cond) : okV (c0 :: wX) R_X 146 R_X y_takeFirstQueued b_takeFirstQueued 3 (some .int) w_takeFirstQueued 0 := ⟨goodC good_X c0 (fun w hw => by
    rcases List.mem_append.mp hw with h | h
    · rcases List.mem_cons.mp h with e | h
      · rw [e]; exact (inX_0 (List.mem_of_getElem? (i := 93) rfl))
      · rcases List.mem_cons.mp h with e | h
        · rw [e]; exact (inX_0 (List.mem_of_getElem? (i := 94) rfl))
        · rcases List.mem_cons.mp h with e | h
          · rw [e]; exact (inX_0 (List.mem_of_getElem? (i := 95) rfl))
          · rcases List.mem_cons.mp h with e | h
            · rw [e]; exact inX_0 (List.mem_of_getElem? (i := 0) rfl)
            · cases h
    · exact (fun w hw => (List.mem_cons.mp hw).elim (fun e => e ▸ (inX_0 (List.mem_of_getElem? (i := 96) rfl))) id) w h), ⟨_, rfl⟩, by decide, by decide, by decide, by decide +kernel⟩
theorem ok_performAction (c0 : Cond) : okV (c0 :: wX) R_X 149 R_X y_performAction b_performAction 2 none w_performAction 1 := ⟨goodC good_X c0 (fun w hw => by
    rcases List.mem_append.mp hw with h | h
    · rcases List.mem_cons.mp h with e | h
      · rw [e]; exact (inX_0 (List.mem_of_getElem? (i := 97) rfl))
      · rcases List.mem_cons.mp h with e | h
        · rw [e]; exact (inX_0 (List.mem_of_getElem? (i := 98) rfl))
        · rcases List.mem_cons.mp h with e | h
          · rw [e]; exact (inX_0 (List.mem_of_getElem? (i := 99) rfl))
          · rcases List.mem_cons.mp h with e | h
            · rw [e]; exact inX_0 (List.mem_of_getElem? (i := 0) rfl)
            · cases h
    · exact (fun w hw => (List.mem_cons.mp hw).elim (fun e => e ▸ (inX_0 (List.mem_of_getElem? (i := 100) rfl))) id) w h), ⟨_, rfl⟩, by decide, by decide, by decide, by decide +kernel⟩
theorem ok_contains (c0 : Cond) : okS (c0 :: wX) R_X 152 y_contains 2 w_contains 2 := ⟨goodC good_X c0 (fun w hw => (List.mem_cons.mp hw).elim (fun e => e ▸ (inX_0 (List.mem_of_getElem? (i := 103) rfl))) id), z_code rfl, List.mem_cons_of_mem _ (inX_0 (List.mem_of_getElem? (i := 101) rfl)), List.mem_cons_of_mem _ (inX_0 (List.mem_of_getElem? (i := 102) rfl)), List.mem_cons_of_mem _ (inX_0 (List.mem_of_getElem? (i := 0) rfl)), by decide, by decide, by decide +kernel⟩
theorem ok_hasThing (c0 : Cond) : okV (c0 :: wX) R_X 156 R_X y_hasThing b_hasThing 2 (some .boolean) w_hasThing 1 := ⟨goodC good_X c0 (fun w hw => by
    rcases List.mem_append.mp hw with h | h
    · rcases List.mem_cons.mp h with e | h
      · rw [e]; exact (inX_0 (List.mem_of_getElem? (i := 104) rfl))
      · rcases List.mem_cons.mp h with e | h
        · rw [e]; exact (inX_0 (List.mem_of_getElem? (i := 105) rfl))
        · rcases List.mem_cons.mp h with e | h
          · rw [e]; exact (inX_0 (List.mem_of_getElem? (i := 106) rfl))
          · rcases List.mem_cons.mp h with e | h
            · rw [e]; exact inX_0 (List.mem_of_getElem? (i := 0) rfl)
            · cases h
    · exact (fun w hw => (List.mem_cons.mp hw).elim (fun e => e ▸ (inX_0 (List.mem_of_getElem? (i := 107) rfl))) id) w h), ⟨_, rfl⟩, by decide, by decide, by decide, by decide +kernel⟩
theorem ok_fieldCount (c0 : Cond) : okS (c0 :: wX) R_X 162 y_fieldCount 1 w_fieldCount 1 := ⟨goodC good_X c0 (fun w hw => (List.mem_cons.mp hw).elim (fun e => e ▸ (inX_0 (List.mem_of_getElem? (i := 110) rfl))) id), z_code rfl, List.mem_cons_of_mem _ (inX_0 (List.mem_of_getElem? (i := 108) rfl)), List.mem_cons_of_mem _ (inX_0 (List.mem_of_getElem? (i := 109) rfl)), List.mem_cons_of_mem _ (inX_0 (List.mem_of_getElem? (i := 0) rfl)), by decide, by decide, by decide +kernel⟩
theorem ok_emptyThing (c0 : Cond) : okV (c0 :: wX) R_X 174 R_X y_emptyThing b_emptyThing 3 none w_emptyThing 1 := ⟨goodC good_X c0 (fun w hw => by
    rcases List.mem_append.mp hw with h | h
    · rcases List.mem_cons.mp h with e | h
      · rw [e]; exact (inX_0 (List.mem_of_getElem? (i := 111) rfl))
      · rcases List.mem_cons.mp h with e | h
        · rw [e]; exact (inX_0 (List.mem_of_getElem? (i := 112) rfl))
        · rcases List.mem_cons.mp h with e | h
          · rw [e]; exact (inX_0 (List.mem_of_getElem? (i := 113) rfl))
          · rcases List.mem_cons.mp h with e | h
            · rw [e]; exact inX_0 (List.mem_of_getElem? (i := 0) rfl)
            · cases h
    · exact (fun w hw => (List.mem_cons.mp hw).elim (fun e => e ▸ (inX_0 (List.mem_of_getElem? (i := 114) rfl))) id) w h), ⟨_, rfl⟩, by decide, by decide, by decide, by decide +kernel⟩
theorem ok_copyEntry (c0 : Cond) : okV (c0 :: wX) R_X 177 R_X y_copyEntry b_copyEntry 4 none w_copyEntry 3 := ⟨goodC good_X c0 (fun w hw => by
    rcases List.mem_append.mp hw with h | h
    · rcases List.mem_cons.mp h with e | h
      · rw [e]; exact (inX_0 (List.mem_of_getElem? (i := 115) rfl))
      · rcases List.mem_cons.mp h with e | h
        · rw [e]; exact (inX_0 (List.mem_of_getElem? (i := 116) rfl))
        · rcases List.mem_cons.mp h with e | h
          · rw [e]; exact (inX_0 (List.mem_of_getElem? (i := 117) rfl))
          · rcases List.mem_cons.mp h with e | h
            · rw [e]; exact inX_0 (List.mem_of_getElem? (i := 0) rfl)
            · cases h
    · exact (fun w hw => (List.mem_cons.mp hw).elim (fun e => e ▸ (inX_0 (List.mem_of_getElem? (i := 118) rfl))) id) w h), ⟨_, rfl⟩, by decide, by decide, by decide, by decide +kernel⟩
theorem ok_withThingsHeld (c0 : Cond) : okV (c0 :: wX) R_X 180 R_X y_withThingsHeld b_withThingsHeld 4 (some .int) w_withThingsHeld 1 := ⟨goodC good_X c0 (fun w hw => by
    rcases List.mem_append.mp hw with h | h
    · rcases List.mem_cons.mp h with e | h
      · rw [e]; exact (inX_0 (List.mem_of_getElem? (i := 119) rfl))
      · rcases List.mem_cons.mp h with e | h
        · rw [e]; exact (inX_0 (List.mem_of_getElem? (i := 120) rfl))
        · rcases List.mem_cons.mp h with e | h
          · rw [e]; exact (inX_0 (List.mem_of_getElem? (i := 121) rfl))
          · rcases List.mem_cons.mp h with e | h
            · rw [e]; exact inX_0 (List.mem_of_getElem? (i := 0) rfl)
            · cases h
    · exact (fun w hw => (List.mem_cons.mp hw).elim (fun e => e ▸ (inX_0 (List.mem_of_getElem? (i := 122) rfl))) id) w h), ⟨_, rfl⟩, by decide, by decide, by decide, by decide +kernel⟩
theorem ok_thingsHeldBy (c0 : Cond) : okV (c0 :: wX) R_X 183 R_X y_thingsHeldBy b_thingsHeldBy 3 (some .int) w_thingsHeldBy 2 := ⟨goodC good_X c0 (fun w hw => by
    rcases List.mem_append.mp hw with h | h
    · rcases List.mem_cons.mp h with e | h
      · rw [e]; exact (inX_0 (List.mem_of_getElem? (i := 123) rfl))
      · rcases List.mem_cons.mp h with e | h
        · rw [e]; exact (inX_0 (List.mem_of_getElem? (i := 124) rfl))
        · rcases List.mem_cons.mp h with e | h
          · rw [e]; exact (inX_0 (List.mem_of_getElem? (i := 125) rfl))
          · rcases List.mem_cons.mp h with e | h
            · rw [e]; exact inX_0 (List.mem_of_getElem? (i := 0) rfl)
            · cases h
    · exact (fun w hw => (List.mem_cons.mp hw).elim (fun e => e ▸ (inX_0 (List.mem_of_getElem? (i := 126) rfl))) id) w h), ⟨_, rfl⟩, by decide, by decide, by decide, by decide +kernel⟩
theorem ok_thingsInFields (c0 : Cond) : okV (c0 :: wX) R_X 186 R_X y_thingsInFields b_thingsInFields 5 (some .int) w_thingsInFields 1 := ⟨goodC good_X c0 (fun w hw => by
    rcases List.mem_append.mp hw with h | h
    · rcases List.mem_cons.mp h with e | h
      · rw [e]; exact (inX_0 (List.mem_of_getElem? (i := 127) rfl))
      · rcases List.mem_cons.mp h with e | h
        · rw [e]; exact (inX_0 (List.mem_of_getElem? (i := 128) rfl))
        · rcases List.mem_cons.mp h with e | h
          · rw [e]; exact (inX_0 (List.mem_of_getElem? (i := 129) rfl))
          · rcases List.mem_cons.mp h with e | h
            · rw [e]; exact inX_0 (List.mem_of_getElem? (i := 0) rfl)
            · cases h
    · exact (fun w hw => (List.mem_cons.mp hw).elim (fun e => e ▸ (inX_0 (List.mem_of_getElem? (i := 130) rfl))) id) w h), ⟨_, rfl⟩, by decide, by decide, by decide, by decide +kernel⟩
theorem ok_valuesOfKeysIn (c0 : Cond) : okV (c0 :: wX) R_X 189 R_X y_valuesOfKeysIn b_valuesOfKeysIn 6 (some .int) w_valuesOfKeysIn 2 := ⟨goodC good_X c0 (fun w hw => by
    rcases List.mem_append.mp hw with h | h
    · rcases List.mem_cons.mp h with e | h
      · rw [e]; exact (inX_0 (List.mem_of_getElem? (i := 131) rfl))
      · rcases List.mem_cons.mp h with e | h
        · rw [e]; exact (inX_0 (List.mem_of_getElem? (i := 132) rfl))
        · rcases List.mem_cons.mp h with e | h
          · rw [e]; exact (inX_0 (List.mem_of_getElem? (i := 133) rfl))
          · rcases List.mem_cons.mp h with e | h
            · rw [e]; exact inX_0 (List.mem_of_getElem? (i := 0) rfl)
            · cases h
    · exact (fun w hw => (List.mem_cons.mp hw).elim (fun e => e ▸ (inX_0 (List.mem_of_getElem? (i := 134) rfl))) id) w h), ⟨_, rfl⟩, by decide, by decide, by decide, by decide +kernel⟩
theorem ok_forgetReferentOutside (c0 : Cond) : okV (c0 :: wX) R_X 192 R_X y_forgetReferentOutside b_forgetReferentOutside 4 none w_forgetReferentOutside 2 := ⟨goodC good_X c0 (fun w hw => by
    rcases List.mem_append.mp hw with h | h
    · rcases List.mem_cons.mp h with e | h
      · rw [e]; exact (inX_0 (List.mem_of_getElem? (i := 135) rfl))
      · rcases List.mem_cons.mp h with e | h
        · rw [e]; exact (inX_0 (List.mem_of_getElem? (i := 136) rfl))
        · rcases List.mem_cons.mp h with e | h
          · rw [e]; exact (inX_0 (List.mem_of_getElem? (i := 137) rfl))
          · rcases List.mem_cons.mp h with e | h
            · rw [e]; exact inX_0 (List.mem_of_getElem? (i := 0) rfl)
            · cases h
    · exact (fun w hw => (List.mem_cons.mp hw).elim (fun e => e ▸ (inX_0 (List.mem_of_getElem? (i := 138) rfl))) id) w h), ⟨_, rfl⟩, by decide, by decide, by decide, by decide +kernel⟩
theorem ok_forgetEntriesOutside (c0 : Cond) : okV (c0 :: wX) R_X 195 R_X y_forgetEntriesOutside b_forgetEntriesOutside 5 none w_forgetEntriesOutside 2 := ⟨goodC good_X c0 (fun w hw => by
    rcases List.mem_append.mp hw with h | h
    · rcases List.mem_cons.mp h with e | h
      · rw [e]; exact (inX_0 (List.mem_of_getElem? (i := 139) rfl))
      · rcases List.mem_cons.mp h with e | h
        · rw [e]; exact (inX_0 (List.mem_of_getElem? (i := 140) rfl))
        · rcases List.mem_cons.mp h with e | h
          · rw [e]; exact (inX_0 (List.mem_of_getElem? (i := 141) rfl))
          · rcases List.mem_cons.mp h with e | h
            · rw [e]; exact inX_0 (List.mem_of_getElem? (i := 0) rfl)
            · cases h
    · exact (fun w hw => (List.mem_cons.mp hw).elim (fun e => e ▸ (inX_0 (List.mem_of_getElem? (i := 142) rfl))) id) w h), ⟨_, rfl⟩, by decide, by decide, by decide, by decide +kernel⟩
theorem ok_m_freeCell (c0 : Cond) : okV (c0 :: wM) R_M 51 R_M y_m_freeCell b_m_freeCell 3 (some .int) w_m_freeCell 0 := ⟨goodC good_M c0 (fun w hw => by
    rcases List.mem_append.mp hw with h | h
    · rcases List.mem_cons.mp h with e | h
      · rw [e]; exact (inM_0 (List.mem_of_getElem? (i := 17) rfl))
      · rcases List.mem_cons.mp h with e | h
        · rw [e]; exact (inM_0 (List.mem_of_getElem? (i := 18) rfl))
        · rcases List.mem_cons.mp h with e | h
          · rw [e]; exact (inM_0 (List.mem_of_getElem? (i := 19) rfl))
          · rcases List.mem_cons.mp h with e | h
            · rw [e]; exact inM_0 (List.mem_of_getElem? (i := 0) rfl)
            · cases h
    · exact (fun w hw => (List.mem_cons.mp hw).elim (fun e => e ▸ (inM_0 (List.mem_of_getElem? (i := 20) rfl))) id) w h), ⟨_, rfl⟩, by decide, by decide, by decide, by decide +kernel⟩
theorem ok_m_gather (c0 : Cond) : okV (c0 :: wM) R_M 55 R_M y_m_gather b_m_gather 3 (some .int) w_m_gather 0 := ⟨goodC good_M c0 (fun w hw => by
    rcases List.mem_append.mp hw with h | h
    · rcases List.mem_cons.mp h with e | h
      · rw [e]; exact (inM_0 (List.mem_of_getElem? (i := 21) rfl))
      · rcases List.mem_cons.mp h with e | h
        · rw [e]; exact (inM_0 (List.mem_of_getElem? (i := 22) rfl))
        · rcases List.mem_cons.mp h with e | h
          · rw [e]; exact (inM_0 (List.mem_of_getElem? (i := 23) rfl))
          · rcases List.mem_cons.mp h with e | h
            · rw [e]; exact inM_0 (List.mem_of_getElem? (i := 0) rfl)
            · cases h
    · exact (fun w hw => (List.mem_cons.mp hw).elim (fun e => e ▸ (inM_0 (List.mem_of_getElem? (i := 24) rfl))) id) w h), ⟨_, rfl⟩, by decide, by decide, by decide, by decide +kernel⟩
theorem ok_m_lose (c0 : Cond) : okV (c0 :: wM) R_M 61 R_M y_m_lose b_m_lose 3 none w_m_lose 1 := ⟨goodC good_M c0 (fun w hw => by
    rcases List.mem_append.mp hw with h | h
    · rcases List.mem_cons.mp h with e | h
      · rw [e]; exact (inM_0 (List.mem_of_getElem? (i := 25) rfl))
      · rcases List.mem_cons.mp h with e | h
        · rw [e]; exact (inM_0 (List.mem_of_getElem? (i := 26) rfl))
        · rcases List.mem_cons.mp h with e | h
          · rw [e]; exact (inM_0 (List.mem_of_getElem? (i := 27) rfl))
          · rcases List.mem_cons.mp h with e | h
            · rw [e]; exact inM_0 (List.mem_of_getElem? (i := 0) rfl)
            · cases h
    · exact (fun w hw => (List.mem_cons.mp hw).elim (fun e => e ▸ (inM_0 (List.mem_of_getElem? (i := 28) rfl))) id) w h), ⟨_, rfl⟩, by decide, by decide, by decide, by decide +kernel⟩
theorem ok_m_isThing (c0 : Cond) : okV (c0 :: wM) R_M 65 R_M y_m_isThing b_m_isThing 2 (some .boolean) w_m_isThing 1 := ⟨goodC good_M c0 (fun w hw => by
    rcases List.mem_append.mp hw with h | h
    · rcases List.mem_cons.mp h with e | h
      · rw [e]; exact (inM_0 (List.mem_of_getElem? (i := 29) rfl))
      · rcases List.mem_cons.mp h with e | h
        · rw [e]; exact (inM_0 (List.mem_of_getElem? (i := 30) rfl))
        · rcases List.mem_cons.mp h with e | h
          · rw [e]; exact (inM_0 (List.mem_of_getElem? (i := 31) rfl))
          · rcases List.mem_cons.mp h with e | h
            · rw [e]; exact inM_0 (List.mem_of_getElem? (i := 0) rfl)
            · cases h
    · exact (fun w hw => (List.mem_cons.mp hw).elim (fun e => e ▸ (inM_0 (List.mem_of_getElem? (i := 32) rfl))) id) w h), ⟨_, rfl⟩, by decide, by decide, by decide, by decide +kernel⟩
theorem ok_m_isField (c0 : Cond) : okV (c0 :: wM) R_M 69 R_M y_m_isField b_m_isField 3 (some .boolean) w_m_isField 2 := ⟨goodC good_M c0 (fun w hw => by
    rcases List.mem_append.mp hw with h | h
    · rcases List.mem_cons.mp h with e | h
      · rw [e]; exact (inM_0 (List.mem_of_getElem? (i := 33) rfl))
      · rcases List.mem_cons.mp h with e | h
        · rw [e]; exact (inM_0 (List.mem_of_getElem? (i := 34) rfl))
        · rcases List.mem_cons.mp h with e | h
          · rw [e]; exact (inM_0 (List.mem_of_getElem? (i := 35) rfl))
          · rcases List.mem_cons.mp h with e | h
            · rw [e]; exact inM_0 (List.mem_of_getElem? (i := 0) rfl)
            · cases h
    · exact (fun w hw => (List.mem_cons.mp hw).elim (fun e => e ▸ (inM_0 (List.mem_of_getElem? (i := 36) rfl))) id) w h), ⟨_, rfl⟩, by decide, by decide, by decide, by decide +kernel⟩
theorem ok_m_entryOf (c0 : Cond) : okV (c0 :: wM) R_M 73 R_M y_m_entryOf b_m_entryOf 5 (some .int) w_m_entryOf 2 := ⟨goodC good_M c0 (fun w hw => by
    rcases List.mem_append.mp hw with h | h
    · rcases List.mem_cons.mp h with e | h
      · rw [e]; exact (inM_0 (List.mem_of_getElem? (i := 37) rfl))
      · rcases List.mem_cons.mp h with e | h
        · rw [e]; exact (inM_0 (List.mem_of_getElem? (i := 38) rfl))
        · rcases List.mem_cons.mp h with e | h
          · rw [e]; exact (inM_0 (List.mem_of_getElem? (i := 39) rfl))
          · rcases List.mem_cons.mp h with e | h
            · rw [e]; exact inM_0 (List.mem_of_getElem? (i := 0) rfl)
            · cases h
    · exact (fun w hw => (List.mem_cons.mp hw).elim (fun e => e ▸ (inM_0 (List.mem_of_getElem? (i := 40) rfl))) id) w h), ⟨_, rfl⟩, by decide, by decide, by decide, by decide +kernel⟩
theorem ok_m_isTable (c0 : Cond) : okV (c0 :: wM) R_M 77 R_M y_m_isTable b_m_isTable 3 (some .boolean) w_m_isTable 2 := ⟨goodC good_M c0 (fun w hw => by
    rcases List.mem_append.mp hw with h | h
    · rcases List.mem_cons.mp h with e | h
      · rw [e]; exact (inM_0 (List.mem_of_getElem? (i := 41) rfl))
      · rcases List.mem_cons.mp h with e | h
        · rw [e]; exact (inM_0 (List.mem_of_getElem? (i := 42) rfl))
        · rcases List.mem_cons.mp h with e | h
          · rw [e]; exact (inM_0 (List.mem_of_getElem? (i := 43) rfl))
          · rcases List.mem_cons.mp h with e | h
            · rw [e]; exact inM_0 (List.mem_of_getElem? (i := 0) rfl)
            · cases h
    · exact (fun w hw => (List.mem_cons.mp hw).elim (fun e => e ▸ (inM_0 (List.mem_of_getElem? (i := 44) rfl))) id) w h), ⟨_, rfl⟩, by decide, by decide, by decide, by decide +kernel⟩
theorem ok_m_dropEntry (c0 : Cond) : okV (c0 :: wM) R_M 80 R_M y_m_dropEntry b_m_dropEntry 4 none w_m_dropEntry 2 := ⟨goodC good_M c0 (fun w hw => by
    rcases List.mem_append.mp hw with h | h
    · rcases List.mem_cons.mp h with e | h
      · rw [e]; exact (inM_0 (List.mem_of_getElem? (i := 45) rfl))
      · rcases List.mem_cons.mp h with e | h
        · rw [e]; exact (inM_0 (List.mem_of_getElem? (i := 46) rfl))
        · rcases List.mem_cons.mp h with e | h
          · rw [e]; exact (inM_0 (List.mem_of_getElem? (i := 47) rfl))
          · rcases List.mem_cons.mp h with e | h
            · rw [e]; exact inM_0 (List.mem_of_getElem? (i := 0) rfl)
            · cases h
    · exact (fun w hw => (List.mem_cons.mp hw).elim (fun e => e ▸ (inM_0 (List.mem_of_getElem? (i := 48) rfl))) id) w h), ⟨_, rfl⟩, by decide, by decide, by decide, by decide +kernel⟩
theorem ok_m_isRoot (c0 : Cond) : okS (c0 :: wM) R_M 84 y_m_isRoot 1 w_m_isRoot 1 := ⟨goodC good_M c0 (fun w hw => (List.mem_cons.mp hw).elim (fun e => e ▸ (inM_0 (List.mem_of_getElem? (i := 51) rfl))) id), z_code rfl, List.mem_cons_of_mem _ (inM_0 (List.mem_of_getElem? (i := 49) rfl)), List.mem_cons_of_mem _ (inM_0 (List.mem_of_getElem? (i := 50) rfl)), List.mem_cons_of_mem _ (inM_0 (List.mem_of_getElem? (i := 0) rfl)), by decide, by decide, by decide +kernel⟩
theorem ok_m_add (c0 : Cond) : okV (c0 :: wM) R_M 87 R_M y_m_add b_m_add 2 (some .boolean) w_m_add 1 := ⟨goodC good_M c0 (fun w hw => by
    rcases List.mem_append.mp hw with h | h
    · rcases List.mem_cons.mp h with e | h
      · rw [e]; exact (inM_0 (List.mem_of_getElem? (i := 52) rfl))
      · rcases List.mem_cons.mp h with e | h
        · rw [e]; exact (inM_0 (List.mem_of_getElem? (i := 53) rfl))
        · rcases List.mem_cons.mp h with e | h
          · rw [e]; exact (inM_0 (List.mem_of_getElem? (i := 54) rfl))
          · rcases List.mem_cons.mp h with e | h
            · rw [e]; exact inM_0 (List.mem_of_getElem? (i := 0) rfl)
            · cases h
    · exact (fun w hw => (List.mem_cons.mp hw).elim (fun e => e ▸ (inM_0 (List.mem_of_getElem? (i := 55) rfl))) id) w h), ⟨_, rfl⟩, by decide, by decide, by decide, by decide +kernel⟩
theorem ok_m_close (c0 : Cond) : okV (c0 :: wM) R_M 93 R_M y_m_close b_m_close 4 none w_m_close 0 := ⟨goodC good_M c0 (fun w hw => by
    rcases List.mem_append.mp hw with h | h
    · rcases List.mem_cons.mp h with e | h
      · rw [e]; exact (inM_0 (List.mem_of_getElem? (i := 56) rfl))
      · rcases List.mem_cons.mp h with e | h
        · rw [e]; exact (inM_0 (List.mem_of_getElem? (i := 57) rfl))
        · rcases List.mem_cons.mp h with e | h
          · rw [e]; exact (inM_0 (List.mem_of_getElem? (i := 58) rfl))
          · rcases List.mem_cons.mp h with e | h
            · rw [e]; exact inM_0 (List.mem_of_getElem? (i := 0) rfl)
            · cases h
    · exact (fun w hw => (List.mem_cons.mp hw).elim (fun e => e ▸ (inM_0 (List.mem_of_getElem? (i := 59) rfl))) id) w h), ⟨_, rfl⟩, by decide, by decide, by decide, by decide +kernel⟩
theorem ok_m_forget (c0 : Cond) : okV (c0 :: wM) R_M 96 R_M y_m_forget b_m_forget 4 none w_m_forget 0 := ⟨goodC good_M c0 (fun w hw => by
    rcases List.mem_append.mp hw with h | h
    · rcases List.mem_cons.mp h with e | h
      · rw [e]; exact (inM_0 (List.mem_of_getElem? (i := 60) rfl))
      · rcases List.mem_cons.mp h with e | h
        · rw [e]; exact (inM_0 (List.mem_of_getElem? (i := 61) rfl))
        · rcases List.mem_cons.mp h with e | h
          · rw [e]; exact (inM_0 (List.mem_of_getElem? (i := 62) rfl))
          · rcases List.mem_cons.mp h with e | h
            · rw [e]; exact inM_0 (List.mem_of_getElem? (i := 0) rfl)
            · cases h
    · exact (fun w hw => (List.mem_cons.mp hw).elim (fun e => e ▸ (inM_0 (List.mem_of_getElem? (i := 63) rfl))) id) w h), ⟨_, rfl⟩, by decide, by decide, by decide, by decide +kernel⟩
