/-! the law's helpers -/
def R_L : String := "EphemeronHeapLaw"
abbrev b_l_kind : ByteArray := method_14_code
def y_l_kind : MethodName := ⟨R_L, "kind", "(LEphemeronHeap;I[J)I"⟩
abbrev b_l_serial : ByteArray := method_15_code
def y_l_serial : MethodName := ⟨R_L, "serial", "(LEphemeronHeap;I[J)I"⟩
abbrev b_l_rootAt : ByteArray := method_11_code
def y_l_rootAt : MethodName := ⟨R_L, "rootAt", "(LEphemeronHeap;I[J)I"⟩
abbrev b_l_get : ByteArray := method_5_code
def y_l_get : MethodName := ⟨R_L, "get", "(LEphemeronHeap;II[J)I"⟩
abbrev b_l_find : ByteArray := method_7_code
def y_l_find : MethodName := ⟨R_L, "find", "(LEphemeronHeap;II[J)I"⟩
abbrev b_l_key : ByteArray := method_9_code
def y_l_key : MethodName := ⟨R_L, "key", "(LEphemeronHeap;II[J)I"⟩
abbrev b_l_set : ByteArray := method_4_code
def y_l_set : MethodName := ⟨R_L, "set", "(LEphemeronHeap;III)I"⟩
abbrev b_l_root : ByteArray := method_10_code
def y_l_root : MethodName := ⟨R_L, "root", "(LEphemeronHeap;II)I"⟩
abbrev b_l_guard : ByteArray := method_12_code
def y_l_guard : MethodName := ⟨R_L, "guard", "(LEphemeronHeap;III)I"⟩
abbrev b_l_remove : ByteArray := method_8_code
def y_l_remove : MethodName := ⟨R_L, "remove", "(LEphemeronHeap;II[J)I"⟩
abbrev b_l_put : ByteArray := method_6_code
def y_l_put : MethodName := ⟨R_L, "put", "(LEphemeronHeap;III[J)I"⟩
abbrev b_l_make : ByteArray := method_3_code
def y_l_make : MethodName := ⟨R_L, "make", "(LEphemeronHeap;I[J)I"⟩
abbrev b_l_run : ByteArray := method_13_code
def y_l_run : MethodName := ⟨R_L, "run", "(LEphemeronHeap;[J)I"⟩
theorem d_l_kind_0 : decode b_l_kind 0 = .ok (.aload_n 2, 1) := by decide +kernel
theorem d_l_kind_1 : decode b_l_kind 1 = .ok (.iconst 0, 1) := by decide +kernel
theorem d_l_kind_2 : decode b_l_kind 2 = .ok (.aload_n 0, 1) := by decide +kernel
theorem d_l_kind_3 : decode b_l_kind 3 = .ok (.iload_n 1, 1) := by decide +kernel
theorem d_l_kind_4 : decode b_l_kind 4 = .ok (.invokevirtual 57, 3) := by decide +kernel
theorem d_l_kind_7 : decode b_l_kind 7 = .ok (.i2l, 1) := by decide +kernel
theorem d_l_kind_8 : decode b_l_kind 8 = .ok (.lastore, 1) := by decide +kernel
theorem d_l_kind_9 : decode b_l_kind 9 = .ok (.goto 6, 3) := by decide +kernel
theorem d_l_kind_12 : decode b_l_kind 12 = .ok (.astore_n 3, 1) := by decide +kernel
theorem d_l_kind_13 : decode b_l_kind 13 = .ok (.iconst 1, 1) := by decide +kernel
theorem d_l_kind_14 : decode b_l_kind 14 = .ok (.ireturn, 1) := by decide +kernel
theorem d_l_kind_15 : decode b_l_kind 15 = .ok (.iconst 0, 1) := by decide +kernel
theorem d_l_kind_16 : decode b_l_kind 16 = .ok (.ireturn, 1) := by decide +kernel
theorem d_l_serial_0 : decode b_l_serial 0 = .ok (.aload_n 2, 1) := by decide +kernel
theorem d_l_serial_1 : decode b_l_serial 1 = .ok (.iconst 0, 1) := by decide +kernel
theorem d_l_serial_2 : decode b_l_serial 2 = .ok (.aload_n 0, 1) := by decide +kernel
theorem d_l_serial_3 : decode b_l_serial 3 = .ok (.iload_n 1, 1) := by decide +kernel
theorem d_l_serial_4 : decode b_l_serial 4 = .ok (.invokevirtual 60, 3) := by decide +kernel
theorem d_l_serial_7 : decode b_l_serial 7 = .ok (.i2l, 1) := by decide +kernel
theorem d_l_serial_8 : decode b_l_serial 8 = .ok (.lastore, 1) := by decide +kernel
theorem d_l_serial_9 : decode b_l_serial 9 = .ok (.goto 6, 3) := by decide +kernel
theorem d_l_serial_12 : decode b_l_serial 12 = .ok (.astore_n 3, 1) := by decide +kernel
theorem d_l_serial_13 : decode b_l_serial 13 = .ok (.iconst 1, 1) := by decide +kernel
theorem d_l_serial_14 : decode b_l_serial 14 = .ok (.ireturn, 1) := by decide +kernel
theorem d_l_serial_15 : decode b_l_serial 15 = .ok (.iconst 0, 1) := by decide +kernel
theorem d_l_serial_16 : decode b_l_serial 16 = .ok (.ireturn, 1) := by decide +kernel
theorem d_l_rootAt_0 : decode b_l_rootAt 0 = .ok (.aload_n 2, 1) := by decide +kernel
theorem d_l_rootAt_1 : decode b_l_rootAt 1 = .ok (.iconst 0, 1) := by decide +kernel
theorem d_l_rootAt_2 : decode b_l_rootAt 2 = .ok (.aload_n 0, 1) := by decide +kernel
theorem d_l_rootAt_3 : decode b_l_rootAt 3 = .ok (.iload_n 1, 1) := by decide +kernel
theorem d_l_rootAt_4 : decode b_l_rootAt 4 = .ok (.invokevirtual 47, 3) := by decide +kernel
theorem d_l_rootAt_7 : decode b_l_rootAt 7 = .ok (.i2l, 1) := by decide +kernel
theorem d_l_rootAt_8 : decode b_l_rootAt 8 = .ok (.lastore, 1) := by decide +kernel
theorem d_l_rootAt_9 : decode b_l_rootAt 9 = .ok (.goto 6, 3) := by decide +kernel
theorem d_l_rootAt_12 : decode b_l_rootAt 12 = .ok (.astore_n 3, 1) := by decide +kernel
theorem d_l_rootAt_13 : decode b_l_rootAt 13 = .ok (.iconst 1, 1) := by decide +kernel
theorem d_l_rootAt_14 : decode b_l_rootAt 14 = .ok (.ireturn, 1) := by decide +kernel
theorem d_l_rootAt_15 : decode b_l_rootAt 15 = .ok (.iconst 0, 1) := by decide +kernel
theorem d_l_rootAt_16 : decode b_l_rootAt 16 = .ok (.ireturn, 1) := by decide +kernel
theorem d_l_get_0 : decode b_l_get 0 = .ok (.aload_n 3, 1) := by decide +kernel
theorem d_l_get_1 : decode b_l_get 1 = .ok (.iconst 0, 1) := by decide +kernel
theorem d_l_get_2 : decode b_l_get 2 = .ok (.aload_n 0, 1) := by decide +kernel
theorem d_l_get_3 : decode b_l_get 3 = .ok (.iload_n 1, 1) := by decide +kernel
theorem d_l_get_4 : decode b_l_get 4 = .ok (.iload_n 2, 1) := by decide +kernel
theorem d_l_get_5 : decode b_l_get 5 = .ok (.invokevirtual 23, 3) := by decide +kernel
theorem d_l_get_8 : decode b_l_get 8 = .ok (.i2l, 1) := by decide +kernel
theorem d_l_get_9 : decode b_l_get 9 = .ok (.lastore, 1) := by decide +kernel
theorem d_l_get_10 : decode b_l_get 10 = .ok (.goto 11, 3) := by decide +kernel
theorem d_l_get_13 : decode b_l_get 13 = .ok (.astore 4, 2) := by decide +kernel
theorem d_l_get_15 : decode b_l_get 15 = .ok (.iconst 1, 1) := by decide +kernel
theorem d_l_get_16 : decode b_l_get 16 = .ok (.ireturn, 1) := by decide +kernel
theorem d_l_get_17 : decode b_l_get 17 = .ok (.astore 4, 2) := by decide +kernel
theorem d_l_get_19 : decode b_l_get 19 = .ok (.iconst 2, 1) := by decide +kernel
theorem d_l_get_20 : decode b_l_get 20 = .ok (.ireturn, 1) := by decide +kernel
theorem d_l_get_21 : decode b_l_get 21 = .ok (.iconst 0, 1) := by decide +kernel
theorem d_l_get_22 : decode b_l_get 22 = .ok (.ireturn, 1) := by decide +kernel
theorem d_l_find_0 : decode b_l_find 0 = .ok (.aload_n 3, 1) := by decide +kernel
theorem d_l_find_1 : decode b_l_find 1 = .ok (.iconst 0, 1) := by decide +kernel
theorem d_l_find_2 : decode b_l_find 2 = .ok (.aload_n 0, 1) := by decide +kernel
theorem d_l_find_3 : decode b_l_find 3 = .ok (.iload_n 1, 1) := by decide +kernel
theorem d_l_find_4 : decode b_l_find 4 = .ok (.iload_n 2, 1) := by decide +kernel
theorem d_l_find_5 : decode b_l_find 5 = .ok (.invokevirtual 31, 3) := by decide +kernel
theorem d_l_find_8 : decode b_l_find 8 = .ok (.i2l, 1) := by decide +kernel
theorem d_l_find_9 : decode b_l_find 9 = .ok (.lastore, 1) := by decide +kernel
theorem d_l_find_10 : decode b_l_find 10 = .ok (.goto 11, 3) := by decide +kernel
theorem d_l_find_13 : decode b_l_find 13 = .ok (.astore 4, 2) := by decide +kernel
theorem d_l_find_15 : decode b_l_find 15 = .ok (.iconst 1, 1) := by decide +kernel
theorem d_l_find_16 : decode b_l_find 16 = .ok (.ireturn, 1) := by decide +kernel
theorem d_l_find_17 : decode b_l_find 17 = .ok (.astore 4, 2) := by decide +kernel
theorem d_l_find_19 : decode b_l_find 19 = .ok (.iconst 2, 1) := by decide +kernel
theorem d_l_find_20 : decode b_l_find 20 = .ok (.ireturn, 1) := by decide +kernel
theorem d_l_find_21 : decode b_l_find 21 = .ok (.iconst 0, 1) := by decide +kernel
theorem d_l_find_22 : decode b_l_find 22 = .ok (.ireturn, 1) := by decide +kernel
theorem d_l_key_0 : decode b_l_key 0 = .ok (.aload_n 3, 1) := by decide +kernel
theorem d_l_key_1 : decode b_l_key 1 = .ok (.iconst 0, 1) := by decide +kernel
theorem d_l_key_2 : decode b_l_key 2 = .ok (.aload_n 0, 1) := by decide +kernel
theorem d_l_key_3 : decode b_l_key 3 = .ok (.iload_n 1, 1) := by decide +kernel
theorem d_l_key_4 : decode b_l_key 4 = .ok (.iload_n 2, 1) := by decide +kernel
theorem d_l_key_5 : decode b_l_key 5 = .ok (.invokevirtual 38, 3) := by decide +kernel
theorem d_l_key_8 : decode b_l_key 8 = .ok (.i2l, 1) := by decide +kernel
theorem d_l_key_9 : decode b_l_key 9 = .ok (.lastore, 1) := by decide +kernel
theorem d_l_key_10 : decode b_l_key 10 = .ok (.goto 15, 3) := by decide +kernel
theorem d_l_key_13 : decode b_l_key 13 = .ok (.astore 4, 2) := by decide +kernel
theorem d_l_key_15 : decode b_l_key 15 = .ok (.iconst 1, 1) := by decide +kernel
theorem d_l_key_16 : decode b_l_key 16 = .ok (.ireturn, 1) := by decide +kernel
theorem d_l_key_17 : decode b_l_key 17 = .ok (.astore 4, 2) := by decide +kernel
theorem d_l_key_19 : decode b_l_key 19 = .ok (.iconst 2, 1) := by decide +kernel
theorem d_l_key_20 : decode b_l_key 20 = .ok (.ireturn, 1) := by decide +kernel
theorem d_l_key_21 : decode b_l_key 21 = .ok (.astore 4, 2) := by decide +kernel
theorem d_l_key_23 : decode b_l_key 23 = .ok (.iconst 3, 1) := by decide +kernel
theorem d_l_key_24 : decode b_l_key 24 = .ok (.ireturn, 1) := by decide +kernel
theorem d_l_key_25 : decode b_l_key 25 = .ok (.iconst 0, 1) := by decide +kernel
theorem d_l_key_26 : decode b_l_key 26 = .ok (.ireturn, 1) := by decide +kernel
theorem d_l_set_0 : decode b_l_set 0 = .ok (.aload_n 0, 1) := by decide +kernel
theorem d_l_set_1 : decode b_l_set 1 = .ok (.iload_n 1, 1) := by decide +kernel
theorem d_l_set_2 : decode b_l_set 2 = .ok (.iload_n 2, 1) := by decide +kernel
theorem d_l_set_3 : decode b_l_set 3 = .ok (.iload_n 3, 1) := by decide +kernel
theorem d_l_set_4 : decode b_l_set 4 = .ok (.invokevirtual 17, 3) := by decide +kernel
theorem d_l_set_7 : decode b_l_set 7 = .ok (.goto 11, 3) := by decide +kernel
theorem d_l_set_10 : decode b_l_set 10 = .ok (.astore 4, 2) := by decide +kernel
theorem d_l_set_12 : decode b_l_set 12 = .ok (.iconst 1, 1) := by decide +kernel
theorem d_l_set_13 : decode b_l_set 13 = .ok (.ireturn, 1) := by decide +kernel
theorem d_l_set_14 : decode b_l_set 14 = .ok (.astore 4, 2) := by decide +kernel
theorem d_l_set_16 : decode b_l_set 16 = .ok (.iconst 2, 1) := by decide +kernel
theorem d_l_set_17 : decode b_l_set 17 = .ok (.ireturn, 1) := by decide +kernel
theorem d_l_set_18 : decode b_l_set 18 = .ok (.iconst 0, 1) := by decide +kernel
theorem d_l_set_19 : decode b_l_set 19 = .ok (.ireturn, 1) := by decide +kernel
theorem d_l_root_0 : decode b_l_root 0 = .ok (.aload_n 0, 1) := by decide +kernel
theorem d_l_root_1 : decode b_l_root 1 = .ok (.iload_n 1, 1) := by decide +kernel
theorem d_l_root_2 : decode b_l_root 2 = .ok (.iload_n 2, 1) := by decide +kernel
theorem d_l_root_3 : decode b_l_root 3 = .ok (.invokevirtual 43, 3) := by decide +kernel
theorem d_l_root_6 : decode b_l_root 6 = .ok (.goto 9, 3) := by decide +kernel
theorem d_l_root_9 : decode b_l_root 9 = .ok (.astore_n 3, 1) := by decide +kernel
theorem d_l_root_10 : decode b_l_root 10 = .ok (.iconst 1, 1) := by decide +kernel
theorem d_l_root_11 : decode b_l_root 11 = .ok (.ireturn, 1) := by decide +kernel
theorem d_l_root_12 : decode b_l_root 12 = .ok (.astore_n 3, 1) := by decide +kernel
theorem d_l_root_13 : decode b_l_root 13 = .ok (.iconst 2, 1) := by decide +kernel
theorem d_l_root_14 : decode b_l_root 14 = .ok (.ireturn, 1) := by decide +kernel
theorem d_l_root_15 : decode b_l_root 15 = .ok (.iconst 0, 1) := by decide +kernel
theorem d_l_root_16 : decode b_l_root 16 = .ok (.ireturn, 1) := by decide +kernel
theorem d_l_guard_0 : decode b_l_guard 0 = .ok (.aload_n 0, 1) := by decide +kernel
theorem d_l_guard_1 : decode b_l_guard 1 = .ok (.iload_n 1, 1) := by decide +kernel
theorem d_l_guard_2 : decode b_l_guard 2 = .ok (.iload_n 2, 1) := by decide +kernel
theorem d_l_guard_3 : decode b_l_guard 3 = .ok (.iload_n 3, 1) := by decide +kernel
theorem d_l_guard_4 : decode b_l_guard 4 = .ok (.invokevirtual 50, 3) := by decide +kernel
theorem d_l_guard_7 : decode b_l_guard 7 = .ok (.goto 19, 3) := by decide +kernel
theorem d_l_guard_10 : decode b_l_guard 10 = .ok (.astore 4, 2) := by decide +kernel
theorem d_l_guard_12 : decode b_l_guard 12 = .ok (.iconst 1, 1) := by decide +kernel
theorem d_l_guard_13 : decode b_l_guard 13 = .ok (.ireturn, 1) := by decide +kernel
theorem d_l_guard_14 : decode b_l_guard 14 = .ok (.astore 4, 2) := by decide +kernel
theorem d_l_guard_16 : decode b_l_guard 16 = .ok (.iconst 2, 1) := by decide +kernel
theorem d_l_guard_17 : decode b_l_guard 17 = .ok (.ireturn, 1) := by decide +kernel
theorem d_l_guard_18 : decode b_l_guard 18 = .ok (.astore 4, 2) := by decide +kernel
theorem d_l_guard_20 : decode b_l_guard 20 = .ok (.iconst 3, 1) := by decide +kernel
theorem d_l_guard_21 : decode b_l_guard 21 = .ok (.ireturn, 1) := by decide +kernel
theorem d_l_guard_22 : decode b_l_guard 22 = .ok (.astore 4, 2) := by decide +kernel
theorem d_l_guard_24 : decode b_l_guard 24 = .ok (.iconst 4, 1) := by decide +kernel
theorem d_l_guard_25 : decode b_l_guard 25 = .ok (.ireturn, 1) := by decide +kernel
theorem d_l_guard_26 : decode b_l_guard 26 = .ok (.iconst 0, 1) := by decide +kernel
theorem d_l_guard_27 : decode b_l_guard 27 = .ok (.ireturn, 1) := by decide +kernel
theorem d_l_remove_0 : decode b_l_remove 0 = .ok (.aload_n 3, 1) := by decide +kernel
theorem d_l_remove_1 : decode b_l_remove 1 = .ok (.iconst 0, 1) := by decide +kernel
theorem d_l_remove_2 : decode b_l_remove 2 = .ok (.aload_n 0, 1) := by decide +kernel
theorem d_l_remove_3 : decode b_l_remove 3 = .ok (.iload_n 1, 1) := by decide +kernel
theorem d_l_remove_4 : decode b_l_remove 4 = .ok (.iload_n 2, 1) := by decide +kernel
theorem d_l_remove_5 : decode b_l_remove 5 = .ok (.invokevirtual 34, 3) := by decide +kernel
theorem d_l_remove_8 : decode b_l_remove 8 = .ok (.ifCond .eq 7, 3) := by decide +kernel
theorem d_l_remove_11 : decode b_l_remove 11 = .ok (.lconst 1, 1) := by decide +kernel
theorem d_l_remove_12 : decode b_l_remove 12 = .ok (.goto 4, 3) := by decide +kernel
theorem d_l_remove_15 : decode b_l_remove 15 = .ok (.lconst 0, 1) := by decide +kernel
theorem d_l_remove_16 : decode b_l_remove 16 = .ok (.lastore, 1) := by decide +kernel
theorem d_l_remove_17 : decode b_l_remove 17 = .ok (.goto 11, 3) := by decide +kernel
theorem d_l_remove_20 : decode b_l_remove 20 = .ok (.astore 4, 2) := by decide +kernel
theorem d_l_remove_22 : decode b_l_remove 22 = .ok (.iconst 1, 1) := by decide +kernel
theorem d_l_remove_23 : decode b_l_remove 23 = .ok (.ireturn, 1) := by decide +kernel
theorem d_l_remove_24 : decode b_l_remove 24 = .ok (.astore 4, 2) := by decide +kernel
theorem d_l_remove_26 : decode b_l_remove 26 = .ok (.iconst 2, 1) := by decide +kernel
theorem d_l_remove_27 : decode b_l_remove 27 = .ok (.ireturn, 1) := by decide +kernel
theorem d_l_remove_28 : decode b_l_remove 28 = .ok (.iconst 0, 1) := by decide +kernel
theorem d_l_remove_29 : decode b_l_remove 29 = .ok (.ireturn, 1) := by decide +kernel
theorem d_l_put_0 : decode b_l_put 0 = .ok (.aload 4, 2) := by decide +kernel
theorem d_l_put_2 : decode b_l_put 2 = .ok (.iconst 0, 1) := by decide +kernel
theorem d_l_put_3 : decode b_l_put 3 = .ok (.aload_n 0, 1) := by decide +kernel
theorem d_l_put_4 : decode b_l_put 4 = .ok (.iload_n 1, 1) := by decide +kernel
theorem d_l_put_5 : decode b_l_put 5 = .ok (.iload_n 2, 1) := by decide +kernel
theorem d_l_put_6 : decode b_l_put 6 = .ok (.iload_n 3, 1) := by decide +kernel
theorem d_l_put_7 : decode b_l_put 7 = .ok (.invokevirtual 27, 3) := by decide +kernel
theorem d_l_put_10 : decode b_l_put 10 = .ok (.ifCond .eq 7, 3) := by decide +kernel
theorem d_l_put_13 : decode b_l_put 13 = .ok (.lconst 1, 1) := by decide +kernel
theorem d_l_put_14 : decode b_l_put 14 = .ok (.goto 4, 3) := by decide +kernel
theorem d_l_put_17 : decode b_l_put 17 = .ok (.lconst 0, 1) := by decide +kernel
theorem d_l_put_18 : decode b_l_put 18 = .ok (.lastore, 1) := by decide +kernel
theorem d_l_put_19 : decode b_l_put 19 = .ok (.goto 15, 3) := by decide +kernel
theorem d_l_put_22 : decode b_l_put 22 = .ok (.astore 5, 2) := by decide +kernel
theorem d_l_put_24 : decode b_l_put 24 = .ok (.iconst 1, 1) := by decide +kernel
theorem d_l_put_25 : decode b_l_put 25 = .ok (.ireturn, 1) := by decide +kernel
theorem d_l_put_26 : decode b_l_put 26 = .ok (.astore 5, 2) := by decide +kernel
theorem d_l_put_28 : decode b_l_put 28 = .ok (.iconst 2, 1) := by decide +kernel
theorem d_l_put_29 : decode b_l_put 29 = .ok (.ireturn, 1) := by decide +kernel
theorem d_l_put_30 : decode b_l_put 30 = .ok (.astore 5, 2) := by decide +kernel
theorem d_l_put_32 : decode b_l_put 32 = .ok (.iconst 3, 1) := by decide +kernel
theorem d_l_put_33 : decode b_l_put 33 = .ok (.ireturn, 1) := by decide +kernel
theorem d_l_put_34 : decode b_l_put 34 = .ok (.iconst 0, 1) := by decide +kernel
theorem d_l_put_35 : decode b_l_put 35 = .ok (.ireturn, 1) := by decide +kernel
theorem d_l_make_0 : decode b_l_make 0 = .ok (.aload_n 2, 1) := by decide +kernel
theorem d_l_make_1 : decode b_l_make 1 = .ok (.iconst 0, 1) := by decide +kernel
theorem d_l_make_2 : decode b_l_make 2 = .ok (.aload_n 0, 1) := by decide +kernel
theorem d_l_make_3 : decode b_l_make 3 = .ok (.iload_n 1, 1) := by decide +kernel
theorem d_l_make_4 : decode b_l_make 4 = .ok (.invokevirtual 7, 3) := by decide +kernel
theorem d_l_make_7 : decode b_l_make 7 = .ok (.i2l, 1) := by decide +kernel
theorem d_l_make_8 : decode b_l_make 8 = .ok (.lastore, 1) := by decide +kernel
theorem d_l_make_9 : decode b_l_make 9 = .ok (.goto 9, 3) := by decide +kernel
theorem d_l_make_12 : decode b_l_make 12 = .ok (.astore_n 3, 1) := by decide +kernel
theorem d_l_make_13 : decode b_l_make 13 = .ok (.iconst 1, 1) := by decide +kernel
theorem d_l_make_14 : decode b_l_make 14 = .ok (.ireturn, 1) := by decide +kernel
theorem d_l_make_15 : decode b_l_make 15 = .ok (.astore_n 3, 1) := by decide +kernel
theorem d_l_make_16 : decode b_l_make 16 = .ok (.iconst 2, 1) := by decide +kernel
theorem d_l_make_17 : decode b_l_make 17 = .ok (.ireturn, 1) := by decide +kernel
theorem d_l_make_18 : decode b_l_make 18 = .ok (.iconst 0, 1) := by decide +kernel
theorem d_l_make_19 : decode b_l_make 19 = .ok (.ireturn, 1) := by decide +kernel
theorem d_l_run_0 : decode b_l_run 0 = .ok (.aload_n 1, 1) := by decide +kernel
theorem d_l_run_1 : decode b_l_run 1 = .ok (.iconst 0, 1) := by decide +kernel
theorem d_l_run_2 : decode b_l_run 2 = .ok (.aload_n 0, 1) := by decide +kernel
theorem d_l_run_3 : decode b_l_run 3 = .ok (.invokevirtual 53, 3) := by decide +kernel
theorem d_l_run_6 : decode b_l_run 6 = .ok (.i2l, 1) := by decide +kernel
theorem d_l_run_7 : decode b_l_run 7 = .ok (.lastore, 1) := by decide +kernel
theorem d_l_run_8 : decode b_l_run 8 = .ok (.goto 6, 3) := by decide +kernel
theorem d_l_run_11 : decode b_l_run 11 = .ok (.astore_n 2, 1) := by decide +kernel
theorem d_l_run_12 : decode b_l_run 12 = .ok (.iconst 1, 1) := by decide +kernel
theorem d_l_run_13 : decode b_l_run 13 = .ok (.ireturn, 1) := by decide +kernel
theorem d_l_run_14 : decode b_l_run 14 = .ok (.iconst 0, 1) := by decide +kernel
theorem d_l_run_15 : decode b_l_run 15 = .ok (.ireturn, 1) := by decide +kernel
def wo (o : Nat) (cL : ClassId) (g : Nat → Int64) (h : Nat → Nat) (cI : ClassId) (σ : St) : va_W := (o, .inl (cL, 1, .inr (.inl g))) :: wx h cI σ
def wL0 : List Cond := [.initialized R_L, .classLink R_L 21 "java/util/NoSuchElementException", .classLink R_L 13 "java/lang/IllegalArgumentException", .classLink R_L 41 "java/lang/IndexOutOfBoundsException", .classLink R_L 15 "java/lang/IllegalStateException", .methodLink R_L 57 y_kind, .instanceMethod y_kind, .selects R_X y_kind y_kind, .code y_kind b_kind 2 (some .int), .methodLink R_L 60 y_serial, .instanceMethod y_serial, .selects R_X y_serial y_serial, .code y_serial b_serial 2 (some .int), .methodLink R_L 47 y_rootAt, .instanceMethod y_rootAt, .selects R_X y_rootAt y_rootAt, .code y_rootAt b_rootAt 2 (some .int), .methodLink R_L 23 y_get, .instanceMethod y_get, .selects R_X y_get y_get, .code y_get b_get 3 (some .int), .methodLink R_L 31 y_find, .instanceMethod y_find, .selects R_X y_find y_find, .code y_find b_find 4 (some .int), .methodLink R_L 38 y_key, .instanceMethod y_key, .selects R_X y_key y_key, .code y_key b_key 3 (some .int), .methodLink R_L 17 y_set, .instanceMethod y_set, .selects R_X y_set y_set, .code y_set b_set 4 none, .methodLink R_L 43 y_root, .instanceMethod y_root, .selects R_X y_root y_root, .code y_root b_root 3 none, .methodLink R_L 50 y_guard, .instanceMethod y_guard, .selects R_X y_guard y_guard, .code y_guard b_guard 4 none, .methodLink R_L 34 y_remove, .instanceMethod y_remove, .selects R_X y_remove y_remove, .code y_remove b_remove 4 (some .boolean), .methodLink R_L 27 y_put, .instanceMethod y_put, .selects R_X y_put y_put, .code y_put b_put 5 (some .boolean), .methodLink R_L 7 y_make, .instanceMethod y_make, .selects R_X y_make y_make, .code y_make b_make 3 (some .int), .methodLink R_L 53 y_run, .instanceMethod y_run, .selects R_X y_run y_run, .code y_run b_run 2 (some .int)]
def wL : List Cond := wL0 ++ wX
theorem good_L : ∀ w ∈ wL, goodWord w = true := by
  have h : wL0.all goodWord = true := by decide +kernel
  intro w hw
  rcases List.mem_append.mp hw with q | q
  · exact List.all_eq_true.mp h w q
  · exact good_X w q
theorem inL_0 {w : Cond} (h : w ∈ wL0) : w ∈ wL := List.mem_append_left _ h
theorem inL_X {w : Cond} (h : w ∈ wX) : w ∈ wL := List.mem_append_right _ h
def w_l_kind : List Cond := .codeWith y_l_kind b_l_kind 4 (some .int) [(0, 9, 12, 21)] :: wL
abbrev rm_l_kind : Room := { frames := 8, cells := 1, slots := 6, locals := 124 }
theorem ok_lx_kind (c0 : Cond) : okV (c0 :: wL) R_L 57 R_X y_kind b_kind 2 (some .int) w_kind 1 := ⟨goodC good_L c0 (fun w hw => by
    rcases List.mem_append.mp hw with h | h
    · rcases List.mem_cons.mp h with e | h
      · rw [e]; exact (inL_0 (List.mem_of_getElem? (i := 5) rfl))
      · rcases List.mem_cons.mp h with e | h
        · rw [e]; exact (inL_0 (List.mem_of_getElem? (i := 6) rfl))
        · rcases List.mem_cons.mp h with e | h
          · rw [e]; exact (inL_0 (List.mem_of_getElem? (i := 7) rfl))
          · rcases List.mem_cons.mp h with e | h
            · rw [e]; exact inL_X (inX_0 (List.mem_of_getElem? (i := 0) rfl))
            · cases h
    · rcases List.mem_cons.mp h with e | h
      · rw [e]; exact (inL_0 (List.mem_of_getElem? (i := 8) rfl))
      · exact inL_X h), ⟨_, rfl⟩, by decide, by decide, by decide, by decide +kernel⟩
def w_l_serial : List Cond := .codeWith y_l_serial b_l_serial 4 (some .int) [(0, 9, 12, 21)] :: wL
abbrev rm_l_serial : Room := { frames := 8, cells := 1, slots := 6, locals := 124 }
theorem ok_lx_serial (c0 : Cond) : okV (c0 :: wL) R_L 60 R_X y_serial b_serial 2 (some .int) w_serial 1 := ⟨goodC good_L c0 (fun w hw => by
    rcases List.mem_append.mp hw with h | h
    · rcases List.mem_cons.mp h with e | h
      · rw [e]; exact (inL_0 (List.mem_of_getElem? (i := 9) rfl))
      · rcases List.mem_cons.mp h with e | h
        · rw [e]; exact (inL_0 (List.mem_of_getElem? (i := 10) rfl))
        · rcases List.mem_cons.mp h with e | h
          · rw [e]; exact (inL_0 (List.mem_of_getElem? (i := 11) rfl))
          · rcases List.mem_cons.mp h with e | h
            · rw [e]; exact inL_X (inX_0 (List.mem_of_getElem? (i := 0) rfl))
            · cases h
    · rcases List.mem_cons.mp h with e | h
      · rw [e]; exact (inL_0 (List.mem_of_getElem? (i := 12) rfl))
      · exact inL_X h), ⟨_, rfl⟩, by decide, by decide, by decide, by decide +kernel⟩
def w_l_rootAt : List Cond := .codeWith y_l_rootAt b_l_rootAt 4 (some .int) [(0, 9, 12, 41)] :: wL
abbrev rm_l_rootAt : Room := { frames := 8, cells := 1, slots := 6, locals := 124 }
theorem ok_lx_rootAt (c0 : Cond) : okV (c0 :: wL) R_L 47 R_X y_rootAt b_rootAt 2 (some .int) w_rootAt 1 := ⟨goodC good_L c0 (fun w hw => by
    rcases List.mem_append.mp hw with h | h
    · rcases List.mem_cons.mp h with e | h
      · rw [e]; exact (inL_0 (List.mem_of_getElem? (i := 13) rfl))
      · rcases List.mem_cons.mp h with e | h
        · rw [e]; exact (inL_0 (List.mem_of_getElem? (i := 14) rfl))
        · rcases List.mem_cons.mp h with e | h
          · rw [e]; exact (inL_0 (List.mem_of_getElem? (i := 15) rfl))
          · rcases List.mem_cons.mp h with e | h
            · rw [e]; exact inL_X (inX_0 (List.mem_of_getElem? (i := 0) rfl))
            · cases h
    · rcases List.mem_cons.mp h with e | h
      · rw [e]; exact (inL_0 (List.mem_of_getElem? (i := 16) rfl))
      · exact inL_X h), ⟨_, rfl⟩, by decide, by decide, by decide, by decide +kernel⟩
def w_l_get : List Cond := .codeWith y_l_get b_l_get 5 (some .int) [(0, 10, 13, 21), (0, 10, 17, 13)] :: wL
abbrev rm_l_get : Room := { frames := 8, cells := 1, slots := 6, locals := 126 }
theorem ok_lx_get (c0 : Cond) : okV (c0 :: wL) R_L 23 R_X y_get b_get 3 (some .int) w_get 2 := ⟨goodC good_L c0 (fun w hw => by
    rcases List.mem_append.mp hw with h | h
    · rcases List.mem_cons.mp h with e | h
      · rw [e]; exact (inL_0 (List.mem_of_getElem? (i := 17) rfl))
      · rcases List.mem_cons.mp h with e | h
        · rw [e]; exact (inL_0 (List.mem_of_getElem? (i := 18) rfl))
        · rcases List.mem_cons.mp h with e | h
          · rw [e]; exact (inL_0 (List.mem_of_getElem? (i := 19) rfl))
          · rcases List.mem_cons.mp h with e | h
            · rw [e]; exact inL_X (inX_0 (List.mem_of_getElem? (i := 0) rfl))
            · cases h
    · rcases List.mem_cons.mp h with e | h
      · rw [e]; exact (inL_0 (List.mem_of_getElem? (i := 20) rfl))
      · exact inL_X h), ⟨_, rfl⟩, by decide, by decide, by decide, by decide +kernel⟩
def w_l_find : List Cond := .codeWith y_l_find b_l_find 5 (some .int) [(0, 10, 13, 21), (0, 10, 17, 13)] :: wL
abbrev rm_l_find : Room := { frames := 8, cells := 1, slots := 6, locals := 126 }
theorem ok_lx_find (c0 : Cond) : okV (c0 :: wL) R_L 31 R_X y_find b_find 4 (some .int) w_find 2 := ⟨goodC good_L c0 (fun w hw => by
    rcases List.mem_append.mp hw with h | h
    · rcases List.mem_cons.mp h with e | h
      · rw [e]; exact (inL_0 (List.mem_of_getElem? (i := 21) rfl))
      · rcases List.mem_cons.mp h with e | h
        · rw [e]; exact (inL_0 (List.mem_of_getElem? (i := 22) rfl))
        · rcases List.mem_cons.mp h with e | h
          · rw [e]; exact (inL_0 (List.mem_of_getElem? (i := 23) rfl))
          · rcases List.mem_cons.mp h with e | h
            · rw [e]; exact inL_X (inX_0 (List.mem_of_getElem? (i := 0) rfl))
            · cases h
    · rcases List.mem_cons.mp h with e | h
      · rw [e]; exact (inL_0 (List.mem_of_getElem? (i := 24) rfl))
      · exact inL_X h), ⟨_, rfl⟩, by decide, by decide, by decide, by decide +kernel⟩
def w_l_key : List Cond := .codeWith y_l_key b_l_key 5 (some .int) [(0, 10, 13, 21), (0, 10, 17, 13), (0, 10, 21, 41)] :: wL
abbrev rm_l_key : Room := { frames := 8, cells := 1, slots := 6, locals := 125 }
theorem ok_lx_key (c0 : Cond) : okV (c0 :: wL) R_L 38 R_X y_key b_key 3 (some .int) w_key 2 := ⟨goodC good_L c0 (fun w hw => by
    rcases List.mem_append.mp hw with h | h
    · rcases List.mem_cons.mp h with e | h
      · rw [e]; exact (inL_0 (List.mem_of_getElem? (i := 25) rfl))
      · rcases List.mem_cons.mp h with e | h
        · rw [e]; exact (inL_0 (List.mem_of_getElem? (i := 26) rfl))
        · rcases List.mem_cons.mp h with e | h
          · rw [e]; exact (inL_0 (List.mem_of_getElem? (i := 27) rfl))
          · rcases List.mem_cons.mp h with e | h
            · rw [e]; exact inL_X (inX_0 (List.mem_of_getElem? (i := 0) rfl))
            · cases h
    · rcases List.mem_cons.mp h with e | h
      · rw [e]; exact (inL_0 (List.mem_of_getElem? (i := 28) rfl))
      · exact inL_X h), ⟨_, rfl⟩, by decide, by decide, by decide, by decide +kernel⟩
def w_l_set : List Cond := .codeWith y_l_set b_l_set 5 (some .int) [(0, 7, 10, 21), (0, 7, 14, 13)] :: wL
abbrev rm_l_set : Room := { frames := 9, cells := 1, slots := 6, locals := 147 }
theorem ok_lx_set (c0 : Cond) : okV (c0 :: wL) R_L 17 R_X y_set b_set 4 none w_set 3 := ⟨goodC good_L c0 (fun w hw => by
    rcases List.mem_append.mp hw with h | h
    · rcases List.mem_cons.mp h with e | h
      · rw [e]; exact (inL_0 (List.mem_of_getElem? (i := 29) rfl))
      · rcases List.mem_cons.mp h with e | h
        · rw [e]; exact (inL_0 (List.mem_of_getElem? (i := 30) rfl))
        · rcases List.mem_cons.mp h with e | h
          · rw [e]; exact (inL_0 (List.mem_of_getElem? (i := 31) rfl))
          · rcases List.mem_cons.mp h with e | h
            · rw [e]; exact inL_X (inX_0 (List.mem_of_getElem? (i := 0) rfl))
            · cases h
    · rcases List.mem_cons.mp h with e | h
      · rw [e]; exact (inL_0 (List.mem_of_getElem? (i := 32) rfl))
      · exact inL_X h), ⟨_, rfl⟩, by decide, by decide, by decide, by decide +kernel⟩
def w_l_root : List Cond := .codeWith y_l_root b_l_root 4 (some .int) [(0, 6, 9, 41), (0, 6, 12, 21)] :: wL
abbrev rm_l_root : Room := { frames := 9, cells := 1, slots := 6, locals := 146 }
theorem ok_lx_root (c0 : Cond) : okV (c0 :: wL) R_L 43 R_X y_root b_root 3 none w_root 2 := ⟨goodC good_L c0 (fun w hw => by
    rcases List.mem_append.mp hw with h | h
    · rcases List.mem_cons.mp h with e | h
      · rw [e]; exact (inL_0 (List.mem_of_getElem? (i := 33) rfl))
      · rcases List.mem_cons.mp h with e | h
        · rw [e]; exact (inL_0 (List.mem_of_getElem? (i := 34) rfl))
        · rcases List.mem_cons.mp h with e | h
          · rw [e]; exact (inL_0 (List.mem_of_getElem? (i := 35) rfl))
          · rcases List.mem_cons.mp h with e | h
            · rw [e]; exact inL_X (inX_0 (List.mem_of_getElem? (i := 0) rfl))
            · cases h
    · rcases List.mem_cons.mp h with e | h
      · rw [e]; exact (inL_0 (List.mem_of_getElem? (i := 36) rfl))
      · exact inL_X h), ⟨_, rfl⟩, by decide, by decide, by decide, by decide +kernel⟩
def w_l_guard : List Cond := .codeWith y_l_guard b_l_guard 5 (some .int) [(0, 7, 10, 21), (0, 7, 14, 13), (0, 7, 18, 41), (0, 7, 22, 15)] :: wL
abbrev rm_l_guard : Room := { frames := 8, cells := 1, slots := 6, locals := 126 }
theorem ok_lx_guard (c0 : Cond) : okV (c0 :: wL) R_L 50 R_X y_guard b_guard 4 none w_guard 3 := ⟨goodC good_L c0 (fun w hw => by
    rcases List.mem_append.mp hw with h | h
    · rcases List.mem_cons.mp h with e | h
      · rw [e]; exact (inL_0 (List.mem_of_getElem? (i := 37) rfl))
      · rcases List.mem_cons.mp h with e | h
        · rw [e]; exact (inL_0 (List.mem_of_getElem? (i := 38) rfl))
        · rcases List.mem_cons.mp h with e | h
          · rw [e]; exact (inL_0 (List.mem_of_getElem? (i := 39) rfl))
          · rcases List.mem_cons.mp h with e | h
            · rw [e]; exact inL_X (inX_0 (List.mem_of_getElem? (i := 0) rfl))
            · cases h
    · rcases List.mem_cons.mp h with e | h
      · rw [e]; exact (inL_0 (List.mem_of_getElem? (i := 40) rfl))
      · exact inL_X h), ⟨_, rfl⟩, by decide, by decide, by decide, by decide +kernel⟩
def w_l_remove : List Cond := .codeWith y_l_remove b_l_remove 5 (some .int) [(0, 17, 20, 21), (0, 17, 24, 13)] :: wL
abbrev rm_l_remove : Room := { frames := 8, cells := 1, slots := 6, locals := 126 }
theorem ok_lx_remove (c0 : Cond) : okV (c0 :: wL) R_L 34 R_X y_remove b_remove 4 (some .boolean) w_remove 2 := ⟨goodC good_L c0 (fun w hw => by
    rcases List.mem_append.mp hw with h | h
    · rcases List.mem_cons.mp h with e | h
      · rw [e]; exact (inL_0 (List.mem_of_getElem? (i := 41) rfl))
      · rcases List.mem_cons.mp h with e | h
        · rw [e]; exact (inL_0 (List.mem_of_getElem? (i := 42) rfl))
        · rcases List.mem_cons.mp h with e | h
          · rw [e]; exact (inL_0 (List.mem_of_getElem? (i := 43) rfl))
          · rcases List.mem_cons.mp h with e | h
            · rw [e]; exact inL_X (inX_0 (List.mem_of_getElem? (i := 0) rfl))
            · cases h
    · rcases List.mem_cons.mp h with e | h
      · rw [e]; exact (inL_0 (List.mem_of_getElem? (i := 44) rfl))
      · exact inL_X h), ⟨_, rfl⟩, by decide, by decide, by decide, by decide +kernel⟩
def w_l_put : List Cond := .codeWith y_l_put b_l_put 6 (some .int) [(0, 19, 22, 21), (0, 19, 26, 13), (0, 19, 30, 15)] :: wL
abbrev rm_l_put : Room := { frames := 8, cells := 1, slots := 6, locals := 127 }
theorem ok_lx_put (c0 : Cond) : okV (c0 :: wL) R_L 27 R_X y_put b_put 5 (some .boolean) w_put 3 := ⟨goodC good_L c0 (fun w hw => by
    rcases List.mem_append.mp hw with h | h
    · rcases List.mem_cons.mp h with e | h
      · rw [e]; exact (inL_0 (List.mem_of_getElem? (i := 45) rfl))
      · rcases List.mem_cons.mp h with e | h
        · rw [e]; exact (inL_0 (List.mem_of_getElem? (i := 46) rfl))
        · rcases List.mem_cons.mp h with e | h
          · rw [e]; exact (inL_0 (List.mem_of_getElem? (i := 47) rfl))
          · rcases List.mem_cons.mp h with e | h
            · rw [e]; exact inL_X (inX_0 (List.mem_of_getElem? (i := 0) rfl))
            · cases h
    · rcases List.mem_cons.mp h with e | h
      · rw [e]; exact (inL_0 (List.mem_of_getElem? (i := 48) rfl))
      · exact inL_X h), ⟨_, rfl⟩, by decide, by decide, by decide, by decide +kernel⟩
def w_l_make : List Cond := .codeWith y_l_make b_l_make 4 (some .int) [(0, 9, 12, 13), (0, 9, 15, 15)] :: wL
abbrev rm_l_make : Room := { frames := 7, cells := 1, slots := 6, locals := 160 }
theorem ok_lx_make (c0 : Cond) : okV (c0 :: wL) R_L 7 R_X y_make b_make 3 (some .int) w_make 1 := ⟨goodC good_L c0 (fun w hw => by
    rcases List.mem_append.mp hw with h | h
    · rcases List.mem_cons.mp h with e | h
      · rw [e]; exact (inL_0 (List.mem_of_getElem? (i := 49) rfl))
      · rcases List.mem_cons.mp h with e | h
        · rw [e]; exact (inL_0 (List.mem_of_getElem? (i := 50) rfl))
        · rcases List.mem_cons.mp h with e | h
          · rw [e]; exact (inL_0 (List.mem_of_getElem? (i := 51) rfl))
          · rcases List.mem_cons.mp h with e | h
            · rw [e]; exact inL_X (inX_0 (List.mem_of_getElem? (i := 0) rfl))
            · cases h
    · rcases List.mem_cons.mp h with e | h
      · rw [e]; exact (inL_0 (List.mem_of_getElem? (i := 52) rfl))
      · exact inL_X h), ⟨_, rfl⟩, by decide, by decide, by decide, by decide +kernel⟩
def w_l_run : List Cond := .codeWith y_l_run b_l_run 3 (some .int) [(0, 8, 11, 21)] :: wL
abbrev rm_l_run : Room := { frames := 7, cells := 1, slots := 6, locals := 103 }
theorem ok_lx_run (c0 : Cond) : okV (c0 :: wL) R_L 53 R_X y_run b_run 2 (some .int) w_run 0 := ⟨goodC good_L c0 (fun w hw => by
    rcases List.mem_append.mp hw with h | h
    · rcases List.mem_cons.mp h with e | h
      · rw [e]; exact (inL_0 (List.mem_of_getElem? (i := 53) rfl))
      · rcases List.mem_cons.mp h with e | h
        · rw [e]; exact (inL_0 (List.mem_of_getElem? (i := 54) rfl))
        · rcases List.mem_cons.mp h with e | h
          · rw [e]; exact (inL_0 (List.mem_of_getElem? (i := 55) rfl))
          · rcases List.mem_cons.mp h with e | h
            · rw [e]; exact inL_X (inX_0 (List.mem_of_getElem? (i := 0) rfl))
            · cases h
    · rcases List.mem_cons.mp h with e | h
      · rw [e]; exact (inL_0 (List.mem_of_getElem? (i := 56) rfl))
      · exact inL_X h), ⟨_, rfl⟩, by decide, by decide, by decide, by decide +kernel⟩
theorem lk_L_N (c0 : Cond) : Cond.classLink R_L 21 "java/util/NoSuchElementException" ∈ c0 :: wL := List.mem_cons_of_mem _ (inL_0 (List.mem_of_getElem? (i := 1) rfl))
theorem lk_L_A (c0 : Cond) : Cond.classLink R_L 13 "java/lang/IllegalArgumentException" ∈ c0 :: wL := List.mem_cons_of_mem _ (inL_0 (List.mem_of_getElem? (i := 2) rfl))
theorem lk_L_I (c0 : Cond) : Cond.classLink R_L 41 "java/lang/IndexOutOfBoundsException" ∈ c0 :: wL := List.mem_cons_of_mem _ (inL_0 (List.mem_of_getElem? (i := 3) rfl))
theorem lk_L_S (c0 : Cond) : Cond.classLink R_L 15 "java/lang/IllegalStateException" ∈ c0 :: wL := List.mem_cons_of_mem _ (inL_0 (List.mem_of_getElem? (i := 4) rfl))
section ZL
variable {p : Program} {s : State} {m : MethodId} {args : Array Value} {meth : Method} {c : Code} {nL : Nat} {D : va_G} {cl : List vw_C} {tys : List (ClassId × FieldType)} {w0 : va_W} {cc : ByteArray} {own : String} {Ts : List Cond}
theorem z_cast (Z : zC p s m args meth c cc nL own Ts D cl tys w0) {a b : String} (h : (a, b) ∈ zCast) : (Cond.castable a b).before args s = true := Z.2.2.2.2.2.2.2.2.2.2.2.2.1 (a, b) h
theorem z_ncast (Z : zC p s m args meth c cc nL own Ts D cl tys w0) {a b : String} (h : (a, b) ∈ zNcast) : va_Nc a b s := Z.2.2.2.2.2.2.2.2.2.2.2.2.2 (a, b) h
end ZL
