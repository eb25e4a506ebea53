theorem d_init_0 : decode b_init 0 = .ok (.aload_n 0, 1) := by decide +kernel
theorem d_init_1 : decode b_init 1 = .ok (.invokespecial 1, 3) := by decide +kernel
theorem d_init_4 : decode b_init 4 = .ok (.aload_n 0, 1) := by decide +kernel
theorem d_init_5 : decode b_init 5 = .ok (.bipush 24, 2) := by decide +kernel
theorem d_init_7 : decode b_init 7 = .ok (.newarray .int, 2) := by decide +kernel
theorem d_init_9 : decode b_init 9 = .ok (.putfield 9, 3) := by decide +kernel
theorem d_init_12 : decode b_init 12 = .ok (.aload_n 0, 1) := by decide +kernel
theorem d_init_13 : decode b_init 13 = .ok (.bipush 24, 2) := by decide +kernel
theorem d_init_15 : decode b_init 15 = .ok (.newarray .int, 2) := by decide +kernel
theorem d_init_17 : decode b_init 17 = .ok (.putfield 13, 3) := by decide +kernel
theorem d_init_20 : decode b_init 20 = .ok (.aload_n 0, 1) := by decide +kernel
theorem d_init_21 : decode b_init 21 = .ok (.bipush 72, 2) := by decide +kernel
theorem d_init_23 : decode b_init 23 = .ok (.newarray .int, 2) := by decide +kernel
theorem d_init_25 : decode b_init 25 = .ok (.putfield 16, 3) := by decide +kernel
theorem d_init_28 : decode b_init 28 = .ok (.aload_n 0, 1) := by decide +kernel
theorem d_init_29 : decode b_init 29 = .ok (.bipush 96, 2) := by decide +kernel
theorem d_init_31 : decode b_init 31 = .ok (.newarray .int, 2) := by decide +kernel
theorem d_init_33 : decode b_init 33 = .ok (.putfield 19, 3) := by decide +kernel
theorem d_init_36 : decode b_init 36 = .ok (.aload_n 0, 1) := by decide +kernel
theorem d_init_37 : decode b_init 37 = .ok (.bipush 96, 2) := by decide +kernel
theorem d_init_39 : decode b_init 39 = .ok (.newarray .int, 2) := by decide +kernel
theorem d_init_41 : decode b_init 41 = .ok (.putfield 22, 3) := by decide +kernel
theorem d_init_44 : decode b_init 44 = .ok (.aload_n 0, 1) := by decide +kernel
theorem d_init_45 : decode b_init 45 = .ok (.bipush 24, 2) := by decide +kernel
theorem d_init_47 : decode b_init 47 = .ok (.newarray .int, 2) := by decide +kernel
theorem d_init_49 : decode b_init 49 = .ok (.putfield 25, 3) := by decide +kernel
theorem d_init_52 : decode b_init 52 = .ok (.aload_n 0, 1) := by decide +kernel
theorem d_init_53 : decode b_init 53 = .ok (.bipush 24, 2) := by decide +kernel
theorem d_init_55 : decode b_init 55 = .ok (.newarray .int, 2) := by decide +kernel
theorem d_init_57 : decode b_init 57 = .ok (.putfield 28, 3) := by decide +kernel
theorem d_init_60 : decode b_init 60 = .ok (.aload_n 0, 1) := by decide +kernel
theorem d_init_61 : decode b_init 61 = .ok (.bipush 24, 2) := by decide +kernel
theorem d_init_63 : decode b_init 63 = .ok (.newarray .int, 2) := by decide +kernel
theorem d_init_65 : decode b_init 65 = .ok (.putfield 31, 3) := by decide +kernel
theorem d_init_68 : decode b_init 68 = .ok (.aload_n 0, 1) := by decide +kernel
theorem d_init_69 : decode b_init 69 = .ok (.bipush 24, 2) := by decide +kernel
theorem d_init_71 : decode b_init 71 = .ok (.newarray .int, 2) := by decide +kernel
theorem d_init_73 : decode b_init 73 = .ok (.putfield 34, 3) := by decide +kernel
theorem d_init_76 : decode b_init 76 = .ok (.aload_n 0, 1) := by decide +kernel
theorem d_init_77 : decode b_init 77 = .ok (.bipush 6, 2) := by decide +kernel
theorem d_init_79 : decode b_init 79 = .ok (.newarray .int, 2) := by decide +kernel
theorem d_init_81 : decode b_init 81 = .ok (.putfield 37, 3) := by decide +kernel
theorem d_init_84 : decode b_init 84 = .ok (.aload_n 0, 1) := by decide +kernel
theorem d_init_85 : decode b_init 85 = .ok (.bipush 24, 2) := by decide +kernel
theorem d_init_87 : decode b_init 87 = .ok (.newarray .int, 2) := by decide +kernel
theorem d_init_89 : decode b_init 89 = .ok (.putfield 40, 3) := by decide +kernel
theorem d_init_92 : decode b_init 92 = .ok (.iconst 0, 1) := by decide +kernel
theorem d_init_93 : decode b_init 93 = .ok (.istore_n 1, 1) := by decide +kernel
theorem d_init_94 : decode b_init 94 = .ok (.iload_n 1, 1) := by decide +kernel
theorem d_init_95 : decode b_init 95 = .ok (.bipush 6, 2) := by decide +kernel
theorem d_init_97 : decode b_init 97 = .ok (.if_icmp .ge 16, 3) := by decide +kernel
theorem d_init_100 : decode b_init 100 = .ok (.aload_n 0, 1) := by decide +kernel
theorem d_init_101 : decode b_init 101 = .ok (.getfield 37, 3) := by decide +kernel
theorem d_init_104 : decode b_init 104 = .ok (.iload_n 1, 1) := by decide +kernel
theorem d_init_105 : decode b_init 105 = .ok (.iconst (-1), 1) := by decide +kernel
theorem d_init_106 : decode b_init 106 = .ok (.iastore, 1) := by decide +kernel
theorem d_init_107 : decode b_init 107 = .ok (.iinc 1 1, 3) := by decide +kernel
theorem d_init_110 : decode b_init 110 = .ok (.goto (-16), 3) := by decide +kernel
theorem d_init_113 : decode b_init 113 = .ok (.return_, 1) := by decide +kernel
theorem d_make_0 : decode b_make 0 = .ok (.iload_n 1, 1) := by decide +kernel
theorem d_make_1 : decode b_make 1 = .ok (.ifCond .lt 8, 3) := by decide +kernel
theorem d_make_4 : decode b_make 4 = .ok (.iload_n 1, 1) := by decide +kernel
theorem d_make_5 : decode b_make 5 = .ok (.iconst 2, 1) := by decide +kernel
theorem d_make_6 : decode b_make 6 = .ok (.if_icmp .le 13, 3) := by decide +kernel
theorem d_make_9 : decode b_make 9 = .ok (.new 43, 3) := by decide +kernel
theorem d_make_12 : decode b_make 12 = .ok (.dup, 1) := by decide +kernel
theorem d_make_13 : decode b_make 13 = .ok (.ldc 45, 2) := by decide +kernel
theorem d_make_15 : decode b_make 15 = .ok (.invokespecial 47, 3) := by decide +kernel
theorem d_make_18 : decode b_make 18 = .ok (.athrow, 1) := by decide +kernel
theorem d_make_19 : decode b_make 19 = .ok (.aload_n 0, 1) := by decide +kernel
theorem d_make_20 : decode b_make 20 = .ok (.invokevirtual 50, 3) := by decide +kernel
theorem d_make_23 : decode b_make 23 = .ok (.istore_n 2, 1) := by decide +kernel
theorem d_make_24 : decode b_make 24 = .ok (.iload_n 2, 1) := by decide +kernel
theorem d_make_25 : decode b_make 25 = .ok (.iconst (-1), 1) := by decide +kernel
theorem d_make_26 : decode b_make 26 = .ok (.if_icmp .ne 13, 3) := by decide +kernel
theorem d_make_29 : decode b_make 29 = .ok (.aload_n 0, 1) := by decide +kernel
theorem d_make_30 : decode b_make 30 = .ok (.invokevirtual 54, 3) := by decide +kernel
theorem d_make_33 : decode b_make 33 = .ok (.pop, 1) := by decide +kernel
theorem d_make_34 : decode b_make 34 = .ok (.aload_n 0, 1) := by decide +kernel
theorem d_make_35 : decode b_make 35 = .ok (.invokevirtual 50, 3) := by decide +kernel
theorem d_make_38 : decode b_make 38 = .ok (.istore_n 2, 1) := by decide +kernel
theorem d_make_39 : decode b_make 39 = .ok (.iload_n 2, 1) := by decide +kernel
theorem d_make_40 : decode b_make 40 = .ok (.iconst (-1), 1) := by decide +kernel
theorem d_make_41 : decode b_make 41 = .ok (.if_icmp .ne 13, 3) := by decide +kernel
theorem d_make_44 : decode b_make 44 = .ok (.new 57, 3) := by decide +kernel
theorem d_make_47 : decode b_make 47 = .ok (.dup, 1) := by decide +kernel
theorem d_make_48 : decode b_make 48 = .ok (.ldc 59, 2) := by decide +kernel
theorem d_make_50 : decode b_make 50 = .ok (.invokespecial 61, 3) := by decide +kernel
theorem d_make_53 : decode b_make 53 = .ok (.athrow, 1) := by decide +kernel
theorem d_make_54 : decode b_make 54 = .ok (.aload_n 0, 1) := by decide +kernel
theorem d_make_55 : decode b_make 55 = .ok (.iload_n 2, 1) := by decide +kernel
theorem d_make_56 : decode b_make 56 = .ok (.iload_n 1, 1) := by decide +kernel
theorem d_make_57 : decode b_make 57 = .ok (.invokevirtual 62, 3) := by decide +kernel
theorem d_make_60 : decode b_make 60 = .ok (.iload_n 2, 1) := by decide +kernel
theorem d_make_61 : decode b_make 61 = .ok (.ireturn, 1) := by decide +kernel
theorem d_set_0 : decode b_set 0 = .ok (.aload_n 0, 1) := by decide +kernel
theorem d_set_1 : decode b_set 1 = .ok (.iload_n 1, 1) := by decide +kernel
theorem d_set_2 : decode b_set 2 = .ok (.invokevirtual 66, 3) := by decide +kernel
theorem d_set_5 : decode b_set 5 = .ok (.aload_n 0, 1) := by decide +kernel
theorem d_set_6 : decode b_set 6 = .ok (.iload_n 3, 1) := by decide +kernel
theorem d_set_7 : decode b_set 7 = .ok (.invokevirtual 70, 3) := by decide +kernel
theorem d_set_10 : decode b_set 10 = .ok (.aload_n 0, 1) := by decide +kernel
theorem d_set_11 : decode b_set 11 = .ok (.iload_n 1, 1) := by decide +kernel
theorem d_set_12 : decode b_set 12 = .ok (.iload_n 2, 1) := by decide +kernel
theorem d_set_13 : decode b_set 13 = .ok (.invokevirtual 73, 3) := by decide +kernel
theorem d_set_16 : decode b_set 16 = .ok (.aload_n 0, 1) := by decide +kernel
theorem d_set_17 : decode b_set 17 = .ok (.getfield 16, 3) := by decide +kernel
theorem d_set_20 : decode b_set 20 = .ok (.iload_n 1, 1) := by decide +kernel
theorem d_set_21 : decode b_set 21 = .ok (.iload_n 2, 1) := by decide +kernel
theorem d_set_22 : decode b_set 22 = .ok (.invokestatic 76, 3) := by decide +kernel
theorem d_set_25 : decode b_set 25 = .ok (.iload_n 3, 1) := by decide +kernel
theorem d_set_26 : decode b_set 26 = .ok (.iastore, 1) := by decide +kernel
theorem d_set_27 : decode b_set 27 = .ok (.return_, 1) := by decide +kernel
theorem d_get_0 : decode b_get 0 = .ok (.aload_n 0, 1) := by decide +kernel
theorem d_get_1 : decode b_get 1 = .ok (.iload_n 1, 1) := by decide +kernel
theorem d_get_2 : decode b_get 2 = .ok (.invokevirtual 66, 3) := by decide +kernel
theorem d_get_5 : decode b_get 5 = .ok (.aload_n 0, 1) := by decide +kernel
theorem d_get_6 : decode b_get 6 = .ok (.iload_n 1, 1) := by decide +kernel
theorem d_get_7 : decode b_get 7 = .ok (.iload_n 2, 1) := by decide +kernel
theorem d_get_8 : decode b_get 8 = .ok (.invokevirtual 73, 3) := by decide +kernel
theorem d_get_11 : decode b_get 11 = .ok (.aload_n 0, 1) := by decide +kernel
theorem d_get_12 : decode b_get 12 = .ok (.getfield 16, 3) := by decide +kernel
theorem d_get_15 : decode b_get 15 = .ok (.iload_n 1, 1) := by decide +kernel
theorem d_get_16 : decode b_get 16 = .ok (.iload_n 2, 1) := by decide +kernel
theorem d_get_17 : decode b_get 17 = .ok (.invokestatic 76, 3) := by decide +kernel
theorem d_get_20 : decode b_get 20 = .ok (.iaload, 1) := by decide +kernel
theorem d_get_21 : decode b_get 21 = .ok (.ireturn, 1) := by decide +kernel
theorem d_put_0 : decode b_put 0 = .ok (.aload_n 0, 1) := by decide +kernel
theorem d_put_1 : decode b_put 1 = .ok (.iload_n 1, 1) := by decide +kernel
theorem d_put_2 : decode b_put 2 = .ok (.invokevirtual 66, 3) := by decide +kernel
theorem d_put_5 : decode b_put 5 = .ok (.aload_n 0, 1) := by decide +kernel
theorem d_put_6 : decode b_put 6 = .ok (.iload_n 2, 1) := by decide +kernel
theorem d_put_7 : decode b_put 7 = .ok (.invokevirtual 66, 3) := by decide +kernel
theorem d_put_10 : decode b_put 10 = .ok (.aload_n 0, 1) := by decide +kernel
theorem d_put_11 : decode b_put 11 = .ok (.iload_n 3, 1) := by decide +kernel
theorem d_put_12 : decode b_put 12 = .ok (.invokevirtual 66, 3) := by decide +kernel
theorem d_put_15 : decode b_put 15 = .ok (.aload_n 0, 1) := by decide +kernel
theorem d_put_16 : decode b_put 16 = .ok (.iload_n 1, 1) := by decide +kernel
theorem d_put_17 : decode b_put 17 = .ok (.invokevirtual 80, 3) := by decide +kernel
theorem d_put_20 : decode b_put 20 = .ok (.aload_n 0, 1) := by decide +kernel
theorem d_put_21 : decode b_put 21 = .ok (.iload_n 1, 1) := by decide +kernel
theorem d_put_22 : decode b_put 22 = .ok (.iload_n 2, 1) := by decide +kernel
theorem d_put_23 : decode b_put 23 = .ok (.invokevirtual 83, 3) := by decide +kernel
theorem d_put_26 : decode b_put 26 = .ok (.istore 4, 2) := by decide +kernel
theorem d_put_28 : decode b_put 28 = .ok (.iload 4, 2) := by decide +kernel
theorem d_put_30 : decode b_put 30 = .ok (.iconst (-1), 1) := by decide +kernel
theorem d_put_31 : decode b_put 31 = .ok (.if_icmp .eq 17, 3) := by decide +kernel
theorem d_put_34 : decode b_put 34 = .ok (.aload_n 0, 1) := by decide +kernel
theorem d_put_35 : decode b_put 35 = .ok (.getfield 22, 3) := by decide +kernel
theorem d_put_38 : decode b_put 38 = .ok (.iload_n 1, 1) := by decide +kernel
theorem d_put_39 : decode b_put 39 = .ok (.iload 4, 2) := by decide +kernel
theorem d_put_41 : decode b_put 41 = .ok (.invokestatic 86, 3) := by decide +kernel
theorem d_put_44 : decode b_put 44 = .ok (.iload_n 3, 1) := by decide +kernel
theorem d_put_45 : decode b_put 45 = .ok (.iastore, 1) := by decide +kernel
theorem d_put_46 : decode b_put 46 = .ok (.iconst 0, 1) := by decide +kernel
theorem d_put_47 : decode b_put 47 = .ok (.ireturn, 1) := by decide +kernel
theorem d_put_48 : decode b_put 48 = .ok (.aload_n 0, 1) := by decide +kernel
theorem d_put_49 : decode b_put 49 = .ok (.getfield 25, 3) := by decide +kernel
theorem d_put_52 : decode b_put 52 = .ok (.iload_n 1, 1) := by decide +kernel
theorem d_put_53 : decode b_put 53 = .ok (.iaload, 1) := by decide +kernel
theorem d_put_54 : decode b_put 54 = .ok (.iconst 4, 1) := by decide +kernel
theorem d_put_55 : decode b_put 55 = .ok (.if_icmp .lt 13, 3) := by decide +kernel
theorem d_put_58 : decode b_put 58 = .ok (.new 57, 3) := by decide +kernel
theorem d_put_61 : decode b_put 61 = .ok (.dup, 1) := by decide +kernel
theorem d_put_62 : decode b_put 62 = .ok (.ldc 89, 2) := by decide +kernel
theorem d_put_64 : decode b_put 64 = .ok (.invokespecial 61, 3) := by decide +kernel
theorem d_put_67 : decode b_put 67 = .ok (.athrow, 1) := by decide +kernel
theorem d_put_68 : decode b_put 68 = .ok (.aload_n 0, 1) := by decide +kernel
theorem d_put_69 : decode b_put 69 = .ok (.iload_n 1, 1) := by decide +kernel
theorem d_put_70 : decode b_put 70 = .ok (.iload_n 2, 1) := by decide +kernel
theorem d_put_71 : decode b_put 71 = .ok (.iload_n 3, 1) := by decide +kernel
theorem d_put_72 : decode b_put 72 = .ok (.invokevirtual 91, 3) := by decide +kernel
theorem d_put_75 : decode b_put 75 = .ok (.iconst 1, 1) := by decide +kernel
theorem d_put_76 : decode b_put 76 = .ok (.ireturn, 1) := by decide +kernel
theorem d_find_0 : decode b_find 0 = .ok (.aload_n 0, 1) := by decide +kernel
theorem d_find_1 : decode b_find 1 = .ok (.iload_n 1, 1) := by decide +kernel
theorem d_find_2 : decode b_find 2 = .ok (.invokevirtual 66, 3) := by decide +kernel
theorem d_find_5 : decode b_find 5 = .ok (.aload_n 0, 1) := by decide +kernel
theorem d_find_6 : decode b_find 6 = .ok (.iload_n 2, 1) := by decide +kernel
theorem d_find_7 : decode b_find 7 = .ok (.invokevirtual 66, 3) := by decide +kernel
theorem d_find_10 : decode b_find 10 = .ok (.aload_n 0, 1) := by decide +kernel
theorem d_find_11 : decode b_find 11 = .ok (.iload_n 1, 1) := by decide +kernel
theorem d_find_12 : decode b_find 12 = .ok (.invokevirtual 80, 3) := by decide +kernel
theorem d_find_15 : decode b_find 15 = .ok (.aload_n 0, 1) := by decide +kernel
theorem d_find_16 : decode b_find 16 = .ok (.iload_n 1, 1) := by decide +kernel
theorem d_find_17 : decode b_find 17 = .ok (.iload_n 2, 1) := by decide +kernel
theorem d_find_18 : decode b_find 18 = .ok (.invokevirtual 83, 3) := by decide +kernel
theorem d_find_21 : decode b_find 21 = .ok (.istore_n 3, 1) := by decide +kernel
theorem d_find_22 : decode b_find 22 = .ok (.iload_n 3, 1) := by decide +kernel
theorem d_find_23 : decode b_find 23 = .ok (.iconst (-1), 1) := by decide +kernel
theorem d_find_24 : decode b_find 24 = .ok (.if_icmp .ne 7, 3) := by decide +kernel
theorem d_find_27 : decode b_find 27 = .ok (.iconst (-1), 1) := by decide +kernel
theorem d_find_28 : decode b_find 28 = .ok (.goto 13, 3) := by decide +kernel
theorem d_find_31 : decode b_find 31 = .ok (.aload_n 0, 1) := by decide +kernel
theorem d_find_32 : decode b_find 32 = .ok (.getfield 22, 3) := by decide +kernel
theorem d_find_35 : decode b_find 35 = .ok (.iload_n 1, 1) := by decide +kernel
theorem d_find_36 : decode b_find 36 = .ok (.iload_n 3, 1) := by decide +kernel
theorem d_find_37 : decode b_find 37 = .ok (.invokestatic 86, 3) := by decide +kernel
theorem d_find_40 : decode b_find 40 = .ok (.iaload, 1) := by decide +kernel
theorem d_find_41 : decode b_find 41 = .ok (.ireturn, 1) := by decide +kernel
theorem d_remove_0 : decode b_remove 0 = .ok (.aload_n 0, 1) := by decide +kernel
theorem d_remove_1 : decode b_remove 1 = .ok (.iload_n 1, 1) := by decide +kernel
theorem d_remove_2 : decode b_remove 2 = .ok (.invokevirtual 66, 3) := by decide +kernel
theorem d_remove_5 : decode b_remove 5 = .ok (.aload_n 0, 1) := by decide +kernel
theorem d_remove_6 : decode b_remove 6 = .ok (.iload_n 2, 1) := by decide +kernel
theorem d_remove_7 : decode b_remove 7 = .ok (.invokevirtual 66, 3) := by decide +kernel
theorem d_remove_10 : decode b_remove 10 = .ok (.aload_n 0, 1) := by decide +kernel
theorem d_remove_11 : decode b_remove 11 = .ok (.iload_n 1, 1) := by decide +kernel
theorem d_remove_12 : decode b_remove 12 = .ok (.invokevirtual 80, 3) := by decide +kernel
theorem d_remove_15 : decode b_remove 15 = .ok (.aload_n 0, 1) := by decide +kernel
theorem d_remove_16 : decode b_remove 16 = .ok (.iload_n 1, 1) := by decide +kernel
theorem d_remove_17 : decode b_remove 17 = .ok (.iload_n 2, 1) := by decide +kernel
theorem d_remove_18 : decode b_remove 18 = .ok (.invokevirtual 83, 3) := by decide +kernel
theorem d_remove_21 : decode b_remove 21 = .ok (.istore_n 3, 1) := by decide +kernel
theorem d_remove_22 : decode b_remove 22 = .ok (.iload_n 3, 1) := by decide +kernel
theorem d_remove_23 : decode b_remove 23 = .ok (.iconst (-1), 1) := by decide +kernel
theorem d_remove_24 : decode b_remove 24 = .ok (.if_icmp .ne 5, 3) := by decide +kernel
theorem d_remove_27 : decode b_remove 27 = .ok (.iconst 0, 1) := by decide +kernel
theorem d_remove_28 : decode b_remove 28 = .ok (.ireturn, 1) := by decide +kernel
theorem d_remove_29 : decode b_remove 29 = .ok (.aload_n 0, 1) := by decide +kernel
theorem d_remove_30 : decode b_remove 30 = .ok (.iload_n 1, 1) := by decide +kernel
theorem d_remove_31 : decode b_remove 31 = .ok (.iload_n 3, 1) := by decide +kernel
theorem d_remove_32 : decode b_remove 32 = .ok (.invokevirtual 95, 3) := by decide +kernel
theorem d_remove_35 : decode b_remove 35 = .ok (.iconst 1, 1) := by decide +kernel
theorem d_remove_36 : decode b_remove 36 = .ok (.ireturn, 1) := by decide +kernel
theorem d_key_0 : decode b_key 0 = .ok (.aload_n 0, 1) := by decide +kernel
theorem d_key_1 : decode b_key 1 = .ok (.iload_n 1, 1) := by decide +kernel
theorem d_key_2 : decode b_key 2 = .ok (.invokevirtual 66, 3) := by decide +kernel
theorem d_key_5 : decode b_key 5 = .ok (.aload_n 0, 1) := by decide +kernel
theorem d_key_6 : decode b_key 6 = .ok (.iload_n 1, 1) := by decide +kernel
theorem d_key_7 : decode b_key 7 = .ok (.invokevirtual 80, 3) := by decide +kernel
theorem d_key_10 : decode b_key 10 = .ok (.iload_n 2, 1) := by decide +kernel
theorem d_key_11 : decode b_key 11 = .ok (.ifCond .lt 13, 3) := by decide +kernel
theorem d_key_14 : decode b_key 14 = .ok (.iload_n 2, 1) := by decide +kernel
theorem d_key_15 : decode b_key 15 = .ok (.aload_n 0, 1) := by decide +kernel
theorem d_key_16 : decode b_key 16 = .ok (.getfield 25, 3) := by decide +kernel
theorem d_key_19 : decode b_key 19 = .ok (.iload_n 1, 1) := by decide +kernel
theorem d_key_20 : decode b_key 20 = .ok (.iaload, 1) := by decide +kernel
theorem d_key_21 : decode b_key 21 = .ok (.if_icmp .lt 13, 3) := by decide +kernel
theorem d_key_24 : decode b_key 24 = .ok (.new 98, 3) := by decide +kernel
theorem d_key_27 : decode b_key 27 = .ok (.dup, 1) := by decide +kernel
theorem d_key_28 : decode b_key 28 = .ok (.ldc 100, 2) := by decide +kernel
theorem d_key_30 : decode b_key 30 = .ok (.invokespecial 102, 3) := by decide +kernel
theorem d_key_33 : decode b_key 33 = .ok (.athrow, 1) := by decide +kernel
theorem d_key_34 : decode b_key 34 = .ok (.aload_n 0, 1) := by decide +kernel
theorem d_key_35 : decode b_key 35 = .ok (.getfield 19, 3) := by decide +kernel
theorem d_key_38 : decode b_key 38 = .ok (.iload_n 1, 1) := by decide +kernel
theorem d_key_39 : decode b_key 39 = .ok (.iload_n 2, 1) := by decide +kernel
theorem d_key_40 : decode b_key 40 = .ok (.invokestatic 86, 3) := by decide +kernel
theorem d_key_43 : decode b_key 43 = .ok (.iaload, 1) := by decide +kernel
theorem d_key_44 : decode b_key 44 = .ok (.ireturn, 1) := by decide +kernel
theorem d_root_0 : decode b_root 0 = .ok (.aload_n 0, 1) := by decide +kernel
theorem d_root_1 : decode b_root 1 = .ok (.iload_n 1, 1) := by decide +kernel
theorem d_root_2 : decode b_root 2 = .ok (.invokevirtual 103, 3) := by decide +kernel
theorem d_root_5 : decode b_root 5 = .ok (.aload_n 0, 1) := by decide +kernel
theorem d_root_6 : decode b_root 6 = .ok (.iload_n 2, 1) := by decide +kernel
theorem d_root_7 : decode b_root 7 = .ok (.invokevirtual 70, 3) := by decide +kernel
theorem d_root_10 : decode b_root 10 = .ok (.aload_n 0, 1) := by decide +kernel
theorem d_root_11 : decode b_root 11 = .ok (.getfield 37, 3) := by decide +kernel
theorem d_root_14 : decode b_root 14 = .ok (.iload_n 1, 1) := by decide +kernel
theorem d_root_15 : decode b_root 15 = .ok (.iload_n 2, 1) := by decide +kernel
theorem d_root_16 : decode b_root 16 = .ok (.iastore, 1) := by decide +kernel
theorem d_root_17 : decode b_root 17 = .ok (.return_, 1) := by decide +kernel
theorem d_rootAt_0 : decode b_rootAt 0 = .ok (.aload_n 0, 1) := by decide +kernel
theorem d_rootAt_1 : decode b_rootAt 1 = .ok (.iload_n 1, 1) := by decide +kernel
theorem d_rootAt_2 : decode b_rootAt 2 = .ok (.invokevirtual 103, 3) := by decide +kernel
theorem d_rootAt_5 : decode b_rootAt 5 = .ok (.aload_n 0, 1) := by decide +kernel
theorem d_rootAt_6 : decode b_rootAt 6 = .ok (.getfield 37, 3) := by decide +kernel
theorem d_rootAt_9 : decode b_rootAt 9 = .ok (.iload_n 1, 1) := by decide +kernel
theorem d_rootAt_10 : decode b_rootAt 10 = .ok (.iaload, 1) := by decide +kernel
theorem d_rootAt_11 : decode b_rootAt 11 = .ok (.ireturn, 1) := by decide +kernel
theorem d_guard_0 : decode b_guard 0 = .ok (.aload_n 0, 1) := by decide +kernel
theorem d_guard_1 : decode b_guard 1 = .ok (.iload_n 1, 1) := by decide +kernel
theorem d_guard_2 : decode b_guard 2 = .ok (.invokevirtual 66, 3) := by decide +kernel
theorem d_guard_5 : decode b_guard 5 = .ok (.iload_n 2, 1) := by decide +kernel
theorem d_guard_6 : decode b_guard 6 = .ok (.ifCond .lt 8, 3) := by decide +kernel
theorem d_guard_9 : decode b_guard 9 = .ok (.iload_n 2, 1) := by decide +kernel
theorem d_guard_10 : decode b_guard 10 = .ok (.iconst 3, 1) := by decide +kernel
theorem d_guard_11 : decode b_guard 11 = .ok (.if_icmp .le 13, 3) := by decide +kernel
theorem d_guard_14 : decode b_guard 14 = .ok (.new 43, 3) := by decide +kernel
theorem d_guard_17 : decode b_guard 17 = .ok (.dup, 1) := by decide +kernel
theorem d_guard_18 : decode b_guard 18 = .ok (.ldc 106, 2) := by decide +kernel
theorem d_guard_20 : decode b_guard 20 = .ok (.invokespecial 47, 3) := by decide +kernel
theorem d_guard_23 : decode b_guard 23 = .ok (.athrow, 1) := by decide +kernel
theorem d_guard_24 : decode b_guard 24 = .ok (.aload_n 0, 1) := by decide +kernel
theorem d_guard_25 : decode b_guard 25 = .ok (.iload_n 3, 1) := by decide +kernel
theorem d_guard_26 : decode b_guard 26 = .ok (.invokevirtual 103, 3) := by decide +kernel
theorem d_guard_29 : decode b_guard 29 = .ok (.aload_n 0, 1) := by decide +kernel
theorem d_guard_30 : decode b_guard 30 = .ok (.getfield 28, 3) := by decide +kernel
theorem d_guard_33 : decode b_guard 33 = .ok (.iload_n 1, 1) := by decide +kernel
theorem d_guard_34 : decode b_guard 34 = .ok (.iaload, 1) := by decide +kernel
theorem d_guard_35 : decode b_guard 35 = .ok (.ifCond .eq 13, 3) := by decide +kernel
theorem d_guard_38 : decode b_guard 38 = .ok (.new 57, 3) := by decide +kernel
theorem d_guard_41 : decode b_guard 41 = .ok (.dup, 1) := by decide +kernel
theorem d_guard_42 : decode b_guard 42 = .ok (.ldc 108, 2) := by decide +kernel
theorem d_guard_44 : decode b_guard 44 = .ok (.invokespecial 61, 3) := by decide +kernel
theorem d_guard_47 : decode b_guard 47 = .ok (.athrow, 1) := by decide +kernel
theorem d_guard_48 : decode b_guard 48 = .ok (.aload_n 0, 1) := by decide +kernel
theorem d_guard_49 : decode b_guard 49 = .ok (.getfield 28, 3) := by decide +kernel
theorem d_guard_52 : decode b_guard 52 = .ok (.iload_n 1, 1) := by decide +kernel
theorem d_guard_53 : decode b_guard 53 = .ok (.iconst 1, 1) := by decide +kernel
theorem d_guard_54 : decode b_guard 54 = .ok (.iastore, 1) := by decide +kernel
theorem d_guard_55 : decode b_guard 55 = .ok (.aload_n 0, 1) := by decide +kernel
theorem d_guard_56 : decode b_guard 56 = .ok (.getfield 31, 3) := by decide +kernel
theorem d_guard_59 : decode b_guard 59 = .ok (.iload_n 1, 1) := by decide +kernel
theorem d_guard_60 : decode b_guard 60 = .ok (.iload_n 2, 1) := by decide +kernel
theorem d_guard_61 : decode b_guard 61 = .ok (.iastore, 1) := by decide +kernel
theorem d_guard_62 : decode b_guard 62 = .ok (.aload_n 0, 1) := by decide +kernel
theorem d_guard_63 : decode b_guard 63 = .ok (.getfield 34, 3) := by decide +kernel
theorem d_guard_66 : decode b_guard 66 = .ok (.iload_n 1, 1) := by decide +kernel
theorem d_guard_67 : decode b_guard 67 = .ok (.iload_n 3, 1) := by decide +kernel
theorem d_guard_68 : decode b_guard 68 = .ok (.iastore, 1) := by decide +kernel
theorem d_guard_69 : decode b_guard 69 = .ok (.return_, 1) := by decide +kernel
theorem d_collect_0 : decode b_collect 0 = .ok (.aload_n 0, 1) := by decide +kernel
theorem d_collect_1 : decode b_collect 1 = .ok (.dup, 1) := by decide +kernel
theorem d_collect_2 : decode b_collect 2 = .ok (.getfield 110, 3) := by decide +kernel
theorem d_collect_5 : decode b_collect 5 = .ok (.iconst 1, 1) := by decide +kernel
theorem d_collect_6 : decode b_collect 6 = .ok (.iadd, 1) := by decide +kernel
theorem d_collect_7 : decode b_collect 7 = .ok (.putfield 110, 3) := by decide +kernel
theorem d_collect_10 : decode b_collect 10 = .ok (.aload_n 0, 1) := by decide +kernel
theorem d_collect_11 : decode b_collect 11 = .ok (.aload_n 0, 1) := by decide +kernel
theorem d_collect_12 : decode b_collect 12 = .ok (.invokevirtual 114, 3) := by decide +kernel
theorem d_collect_15 : decode b_collect 15 = .ok (.invokevirtual 117, 3) := by decide +kernel
theorem d_collect_18 : decode b_collect 18 = .ok (.istore_n 1, 1) := by decide +kernel
theorem d_collect_19 : decode b_collect 19 = .ok (.aload_n 0, 1) := by decide +kernel
theorem d_collect_20 : decode b_collect 20 = .ok (.iload_n 1, 1) := by decide +kernel
theorem d_collect_21 : decode b_collect 21 = .ok (.invokevirtual 121, 3) := by decide +kernel
theorem d_collect_24 : decode b_collect 24 = .ok (.aload_n 0, 1) := by decide +kernel
theorem d_collect_25 : decode b_collect 25 = .ok (.aload_n 0, 1) := by decide +kernel
theorem d_collect_26 : decode b_collect 26 = .ok (.getfield 124, 3) := by decide +kernel
theorem d_collect_29 : decode b_collect 29 = .ok (.iload_n 1, 1) := by decide +kernel
theorem d_collect_30 : decode b_collect 30 = .ok (.iconst (-1), 1) := by decide +kernel
theorem d_collect_31 : decode b_collect 31 = .ok (.ixor, 1) := by decide +kernel
theorem d_collect_32 : decode b_collect 32 = .ok (.iand, 1) := by decide +kernel
theorem d_collect_33 : decode b_collect 33 = .ok (.invokevirtual 127, 3) := by decide +kernel
theorem d_collect_36 : decode b_collect 36 = .ok (.aload_n 0, 1) := by decide +kernel
theorem d_collect_37 : decode b_collect 37 = .ok (.iload_n 1, 1) := by decide +kernel
theorem d_collect_38 : decode b_collect 38 = .ok (.aload_n 0, 1) := by decide +kernel
theorem d_collect_39 : decode b_collect 39 = .ok (.invokevirtual 130, 3) := by decide +kernel
theorem d_collect_42 : decode b_collect 42 = .ok (.ior, 1) := by decide +kernel
theorem d_collect_43 : decode b_collect 43 = .ok (.invokevirtual 117, 3) := by decide +kernel
theorem d_collect_46 : decode b_collect 46 = .ok (.istore_n 2, 1) := by decide +kernel
theorem d_collect_47 : decode b_collect 47 = .ok (.aload_n 0, 1) := by decide +kernel
theorem d_collect_48 : decode b_collect 48 = .ok (.iload_n 2, 1) := by decide +kernel
theorem d_collect_49 : decode b_collect 49 = .ok (.invokevirtual 121, 3) := by decide +kernel
theorem d_collect_52 : decode b_collect 52 = .ok (.aload_n 0, 1) := by decide +kernel
theorem d_collect_53 : decode b_collect 53 = .ok (.getfield 124, 3) := by decide +kernel
theorem d_collect_56 : decode b_collect 56 = .ok (.iload_n 2, 1) := by decide +kernel
theorem d_collect_57 : decode b_collect 57 = .ok (.iconst (-1), 1) := by decide +kernel
theorem d_collect_58 : decode b_collect 58 = .ok (.ixor, 1) := by decide +kernel
theorem d_collect_59 : decode b_collect 59 = .ok (.iand, 1) := by decide +kernel
theorem d_collect_60 : decode b_collect 60 = .ok (.invokestatic 133, 3) := by decide +kernel
theorem d_collect_63 : decode b_collect 63 = .ok (.istore_n 3, 1) := by decide +kernel
theorem d_collect_64 : decode b_collect 64 = .ok (.aload_n 0, 1) := by decide +kernel
theorem d_collect_65 : decode b_collect 65 = .ok (.iload_n 2, 1) := by decide +kernel
theorem d_collect_66 : decode b_collect 66 = .ok (.putfield 124, 3) := by decide +kernel
theorem d_collect_69 : decode b_collect 69 = .ok (.iload_n 3, 1) := by decide +kernel
theorem d_collect_70 : decode b_collect 70 = .ok (.ireturn, 1) := by decide +kernel
theorem d_run_0 : decode b_run 0 = .ok (.aload_n 0, 1) := by decide +kernel
theorem d_run_1 : decode b_run 1 = .ok (.getfield 138, 3) := by decide +kernel
theorem d_run_4 : decode b_run 4 = .ok (.ifCond .ne 13, 3) := by decide +kernel
theorem d_run_7 : decode b_run 7 = .ok (.new 141, 3) := by decide +kernel
theorem d_run_10 : decode b_run 10 = .ok (.dup, 1) := by decide +kernel
theorem d_run_11 : decode b_run 11 = .ok (.ldc 143, 2) := by decide +kernel
theorem d_run_13 : decode b_run 13 = .ok (.invokespecial 145, 3) := by decide +kernel
theorem d_run_16 : decode b_run 16 = .ok (.athrow, 1) := by decide +kernel
theorem d_run_17 : decode b_run 17 = .ok (.aload_n 0, 1) := by decide +kernel
theorem d_run_18 : decode b_run 18 = .ok (.invokevirtual 146, 3) := by decide +kernel
theorem d_run_21 : decode b_run 21 = .ok (.istore_n 1, 1) := by decide +kernel
theorem d_run_22 : decode b_run 22 = .ok (.aload_n 0, 1) := by decide +kernel
theorem d_run_23 : decode b_run 23 = .ok (.getfield 28, 3) := by decide +kernel
theorem d_run_26 : decode b_run 26 = .ok (.iload_n 1, 1) := by decide +kernel
theorem d_run_27 : decode b_run 27 = .ok (.iconst 3, 1) := by decide +kernel
theorem d_run_28 : decode b_run 28 = .ok (.iastore, 1) := by decide +kernel
theorem d_run_29 : decode b_run 29 = .ok (.aload_n 0, 1) := by decide +kernel
theorem d_run_30 : decode b_run 30 = .ok (.iload_n 1, 1) := by decide +kernel
theorem d_run_31 : decode b_run 31 = .ok (.invokevirtual 149, 3) := by decide +kernel
theorem d_run_34 : decode b_run 34 = .ok (.iload_n 1, 1) := by decide +kernel
theorem d_run_35 : decode b_run 35 = .ok (.ireturn, 1) := by decide +kernel
theorem d_queued_0 : decode b_queued 0 = .ok (.aload_n 0, 1) := by decide +kernel
theorem d_queued_1 : decode b_queued 1 = .ok (.getfield 138, 3) := by decide +kernel
theorem d_queued_4 : decode b_queued 4 = .ok (.ireturn, 1) := by decide +kernel
theorem d_used_0 : decode b_used 0 = .ok (.aload_n 0, 1) := by decide +kernel
theorem d_used_1 : decode b_used 1 = .ok (.getfield 124, 3) := by decide +kernel
theorem d_used_4 : decode b_used 4 = .ok (.ireturn, 1) := by decide +kernel
theorem d_kind_0 : decode b_kind 0 = .ok (.aload_n 0, 1) := by decide +kernel
theorem d_kind_1 : decode b_kind 1 = .ok (.iload_n 1, 1) := by decide +kernel
theorem d_kind_2 : decode b_kind 2 = .ok (.invokevirtual 66, 3) := by decide +kernel
theorem d_kind_5 : decode b_kind 5 = .ok (.aload_n 0, 1) := by decide +kernel
theorem d_kind_6 : decode b_kind 6 = .ok (.getfield 9, 3) := by decide +kernel
theorem d_kind_9 : decode b_kind 9 = .ok (.iload_n 1, 1) := by decide +kernel
theorem d_kind_10 : decode b_kind 10 = .ok (.iaload, 1) := by decide +kernel
theorem d_kind_11 : decode b_kind 11 = .ok (.iconst 4, 1) := by decide +kernel
theorem d_kind_12 : decode b_kind 12 = .ok (.aload_n 0, 1) := by decide +kernel
theorem d_kind_13 : decode b_kind 13 = .ok (.getfield 28, 3) := by decide +kernel
theorem d_kind_16 : decode b_kind 16 = .ok (.iload_n 1, 1) := by decide +kernel
theorem d_kind_17 : decode b_kind 17 = .ok (.iaload, 1) := by decide +kernel
theorem d_kind_18 : decode b_kind 18 = .ok (.imul, 1) := by decide +kernel
theorem d_kind_19 : decode b_kind 19 = .ok (.iadd, 1) := by decide +kernel
theorem d_kind_20 : decode b_kind 20 = .ok (.ireturn, 1) := by decide +kernel
theorem d_serial_0 : decode b_serial 0 = .ok (.aload_n 0, 1) := by decide +kernel
theorem d_serial_1 : decode b_serial 1 = .ok (.iload_n 1, 1) := by decide +kernel
theorem d_serial_2 : decode b_serial 2 = .ok (.invokevirtual 66, 3) := by decide +kernel
theorem d_serial_5 : decode b_serial 5 = .ok (.aload_n 0, 1) := by decide +kernel
theorem d_serial_6 : decode b_serial 6 = .ok (.getfield 13, 3) := by decide +kernel
theorem d_serial_9 : decode b_serial 9 = .ok (.iload_n 1, 1) := by decide +kernel
theorem d_serial_10 : decode b_serial 10 = .ok (.iaload, 1) := by decide +kernel
theorem d_serial_11 : decode b_serial 11 = .ok (.ireturn, 1) := by decide +kernel
theorem d_collections_0 : decode b_collections 0 = .ok (.aload_n 0, 1) := by decide +kernel
theorem d_collections_1 : decode b_collections 1 = .ok (.getfield 110, 3) := by decide +kernel
theorem d_collections_4 : decode b_collections 4 = .ok (.ireturn, 1) := by decide +kernel
theorem d_contains_0 : decode b_contains 0 = .ok (.iload_n 0, 1) := by decide +kernel
theorem d_contains_1 : decode b_contains 1 = .ok (.iconst 1, 1) := by decide +kernel
theorem d_contains_2 : decode b_contains 2 = .ok (.iload_n 1, 1) := by decide +kernel
theorem d_contains_3 : decode b_contains 3 = .ok (.ishl, 1) := by decide +kernel
theorem d_contains_4 : decode b_contains 4 = .ok (.iand, 1) := by decide +kernel
theorem d_contains_5 : decode b_contains 5 = .ok (.ifCond .eq 7, 3) := by decide +kernel
theorem d_contains_8 : decode b_contains 8 = .ok (.iconst 1, 1) := by decide +kernel
theorem d_contains_9 : decode b_contains 9 = .ok (.goto 4, 3) := by decide +kernel
theorem d_contains_12 : decode b_contains 12 = .ok (.iconst 0, 1) := by decide +kernel
theorem d_contains_13 : decode b_contains 13 = .ok (.ireturn, 1) := by decide +kernel
theorem d_hasThing_0 : decode b_hasThing 0 = .ok (.iload_n 1, 1) := by decide +kernel
theorem d_hasThing_1 : decode b_hasThing 1 = .ok (.ifCond .lt 24, 3) := by decide +kernel
theorem d_hasThing_4 : decode b_hasThing 4 = .ok (.iload_n 1, 1) := by decide +kernel
theorem d_hasThing_5 : decode b_hasThing 5 = .ok (.bipush 24, 2) := by decide +kernel
theorem d_hasThing_7 : decode b_hasThing 7 = .ok (.if_icmp .ge 18, 3) := by decide +kernel
theorem d_hasThing_10 : decode b_hasThing 10 = .ok (.aload_n 0, 1) := by decide +kernel
theorem d_hasThing_11 : decode b_hasThing 11 = .ok (.getfield 124, 3) := by decide +kernel
theorem d_hasThing_14 : decode b_hasThing 14 = .ok (.iload_n 1, 1) := by decide +kernel
theorem d_hasThing_15 : decode b_hasThing 15 = .ok (.invokestatic 152, 3) := by decide +kernel
theorem d_hasThing_18 : decode b_hasThing 18 = .ok (.ifCond .eq 7, 3) := by decide +kernel
theorem d_hasThing_21 : decode b_hasThing 21 = .ok (.iconst 1, 1) := by decide +kernel
theorem d_hasThing_22 : decode b_hasThing 22 = .ok (.goto 4, 3) := by decide +kernel
theorem d_hasThing_25 : decode b_hasThing 25 = .ok (.iconst 0, 1) := by decide +kernel
theorem d_hasThing_26 : decode b_hasThing 26 = .ok (.ireturn, 1) := by decide +kernel
theorem d_requireThing_0 : decode b_requireThing 0 = .ok (.aload_n 0, 1) := by decide +kernel
theorem d_requireThing_1 : decode b_requireThing 1 = .ok (.iload_n 1, 1) := by decide +kernel
theorem d_requireThing_2 : decode b_requireThing 2 = .ok (.invokevirtual 156, 3) := by decide +kernel
theorem d_requireThing_5 : decode b_requireThing 5 = .ok (.ifCond .ne 13, 3) := by decide +kernel
theorem d_requireThing_8 : decode b_requireThing 8 = .ok (.new 141, 3) := by decide +kernel
theorem d_requireThing_11 : decode b_requireThing 11 = .ok (.dup, 1) := by decide +kernel
theorem d_requireThing_12 : decode b_requireThing 12 = .ok (.ldc 160, 2) := by decide +kernel
theorem d_requireThing_14 : decode b_requireThing 14 = .ok (.invokespecial 145, 3) := by decide +kernel
theorem d_requireThing_17 : decode b_requireThing 17 = .ok (.athrow, 1) := by decide +kernel
theorem d_requireThing_18 : decode b_requireThing 18 = .ok (.return_, 1) := by decide +kernel
theorem d_requireThingOrNone_0 : decode b_requireThingOrNone 0 = .ok (.iload_n 1, 1) := by decide +kernel
theorem d_requireThingOrNone_1 : decode b_requireThingOrNone 1 = .ok (.iconst (-1), 1) := by decide +kernel
theorem d_requireThingOrNone_2 : decode b_requireThingOrNone 2 = .ok (.if_icmp .eq 8, 3) := by decide +kernel
theorem d_requireThingOrNone_5 : decode b_requireThingOrNone 5 = .ok (.aload_n 0, 1) := by decide +kernel
theorem d_requireThingOrNone_6 : decode b_requireThingOrNone 6 = .ok (.iload_n 1, 1) := by decide +kernel
theorem d_requireThingOrNone_7 : decode b_requireThingOrNone 7 = .ok (.invokevirtual 66, 3) := by decide +kernel
theorem d_requireThingOrNone_10 : decode b_requireThingOrNone 10 = .ok (.return_, 1) := by decide +kernel
theorem d_requireField_0 : decode b_requireField 0 = .ok (.iload_n 2, 1) := by decide +kernel
theorem d_requireField_1 : decode b_requireField 1 = .ok (.ifCond .lt 16, 3) := by decide +kernel
theorem d_requireField_4 : decode b_requireField 4 = .ok (.iload_n 2, 1) := by decide +kernel
theorem d_requireField_5 : decode b_requireField 5 = .ok (.aload_n 0, 1) := by decide +kernel
theorem d_requireField_6 : decode b_requireField 6 = .ok (.getfield 9, 3) := by decide +kernel
theorem d_requireField_9 : decode b_requireField 9 = .ok (.iload_n 1, 1) := by decide +kernel
theorem d_requireField_10 : decode b_requireField 10 = .ok (.iaload, 1) := by decide +kernel
theorem d_requireField_11 : decode b_requireField 11 = .ok (.invokestatic 162, 3) := by decide +kernel
theorem d_requireField_14 : decode b_requireField 14 = .ok (.if_icmp .lt 13, 3) := by decide +kernel
theorem d_requireField_17 : decode b_requireField 17 = .ok (.new 43, 3) := by decide +kernel
theorem d_requireField_20 : decode b_requireField 20 = .ok (.dup, 1) := by decide +kernel
theorem d_requireField_21 : decode b_requireField 21 = .ok (.ldc 165, 2) := by decide +kernel
theorem d_requireField_23 : decode b_requireField 23 = .ok (.invokespecial 47, 3) := by decide +kernel
theorem d_requireField_26 : decode b_requireField 26 = .ok (.athrow, 1) := by decide +kernel
theorem d_requireField_27 : decode b_requireField 27 = .ok (.return_, 1) := by decide +kernel
theorem d_requireTable_0 : decode b_requireTable 0 = .ok (.aload_n 0, 1) := by decide +kernel
theorem d_requireTable_1 : decode b_requireTable 1 = .ok (.getfield 9, 3) := by decide +kernel
theorem d_requireTable_4 : decode b_requireTable 4 = .ok (.iload_n 1, 1) := by decide +kernel
theorem d_requireTable_5 : decode b_requireTable 5 = .ok (.iaload, 1) := by decide +kernel
theorem d_requireTable_6 : decode b_requireTable 6 = .ok (.iconst 2, 1) := by decide +kernel
theorem d_requireTable_7 : decode b_requireTable 7 = .ok (.if_icmp .eq 13, 3) := by decide +kernel
theorem d_requireTable_10 : decode b_requireTable 10 = .ok (.new 43, 3) := by decide +kernel
theorem d_requireTable_13 : decode b_requireTable 13 = .ok (.dup, 1) := by decide +kernel
theorem d_requireTable_14 : decode b_requireTable 14 = .ok (.ldc 167, 2) := by decide +kernel
theorem d_requireTable_16 : decode b_requireTable 16 = .ok (.invokespecial 47, 3) := by decide +kernel
theorem d_requireTable_19 : decode b_requireTable 19 = .ok (.athrow, 1) := by decide +kernel
theorem d_requireTable_20 : decode b_requireTable 20 = .ok (.return_, 1) := by decide +kernel
theorem d_requireRoot_0 : decode b_requireRoot 0 = .ok (.iload_n 1, 1) := by decide +kernel
theorem d_requireRoot_1 : decode b_requireRoot 1 = .ok (.ifCond .lt 9, 3) := by decide +kernel
theorem d_requireRoot_4 : decode b_requireRoot 4 = .ok (.iload_n 1, 1) := by decide +kernel
theorem d_requireRoot_5 : decode b_requireRoot 5 = .ok (.bipush 6, 2) := by decide +kernel
theorem d_requireRoot_7 : decode b_requireRoot 7 = .ok (.if_icmp .lt 13, 3) := by decide +kernel
theorem d_requireRoot_10 : decode b_requireRoot 10 = .ok (.new 98, 3) := by decide +kernel
theorem d_requireRoot_13 : decode b_requireRoot 13 = .ok (.dup, 1) := by decide +kernel
theorem d_requireRoot_14 : decode b_requireRoot 14 = .ok (.ldc 169, 2) := by decide +kernel
theorem d_requireRoot_16 : decode b_requireRoot 16 = .ok (.invokespecial 102, 3) := by decide +kernel
theorem d_requireRoot_19 : decode b_requireRoot 19 = .ok (.athrow, 1) := by decide +kernel
theorem d_requireRoot_20 : decode b_requireRoot 20 = .ok (.return_, 1) := by decide +kernel
theorem d_fieldCount_0 : decode b_fieldCount 0 = .ok (.iload_n 0, 1) := by decide +kernel
theorem d_fieldCount_1 : decode b_fieldCount 1 = .ok (.ifCond .ne 5, 3) := by decide +kernel
theorem d_fieldCount_4 : decode b_fieldCount 4 = .ok (.iconst 3, 1) := by decide +kernel
theorem d_fieldCount_5 : decode b_fieldCount 5 = .ok (.ireturn, 1) := by decide +kernel
theorem d_fieldCount_6 : decode b_fieldCount 6 = .ok (.iload_n 0, 1) := by decide +kernel
theorem d_fieldCount_7 : decode b_fieldCount 7 = .ok (.iconst 1, 1) := by decide +kernel
theorem d_fieldCount_8 : decode b_fieldCount 8 = .ok (.if_icmp .ne 7, 3) := by decide +kernel
theorem d_fieldCount_11 : decode b_fieldCount 11 = .ok (.iconst 1, 1) := by decide +kernel
theorem d_fieldCount_12 : decode b_fieldCount 12 = .ok (.goto 4, 3) := by decide +kernel
theorem d_fieldCount_15 : decode b_fieldCount 15 = .ok (.iconst 0, 1) := by decide +kernel
theorem d_fieldCount_16 : decode b_fieldCount 16 = .ok (.ireturn, 1) := by decide +kernel
theorem d_fieldSlot_0 : decode b_fieldSlot 0 = .ok (.iload_n 0, 1) := by decide +kernel
theorem d_fieldSlot_1 : decode b_fieldSlot 1 = .ok (.iconst 3, 1) := by decide +kernel
theorem d_fieldSlot_2 : decode b_fieldSlot 2 = .ok (.imul, 1) := by decide +kernel
theorem d_fieldSlot_3 : decode b_fieldSlot 3 = .ok (.iload_n 1, 1) := by decide +kernel
theorem d_fieldSlot_4 : decode b_fieldSlot 4 = .ok (.iadd, 1) := by decide +kernel
theorem d_fieldSlot_5 : decode b_fieldSlot 5 = .ok (.ireturn, 1) := by decide +kernel
theorem d_entrySlot_0 : decode b_entrySlot 0 = .ok (.iload_n 0, 1) := by decide +kernel
theorem d_entrySlot_1 : decode b_entrySlot 1 = .ok (.iconst 4, 1) := by decide +kernel
theorem d_entrySlot_2 : decode b_entrySlot 2 = .ok (.imul, 1) := by decide +kernel
theorem d_entrySlot_3 : decode b_entrySlot 3 = .ok (.iload_n 1, 1) := by decide +kernel
theorem d_entrySlot_4 : decode b_entrySlot 4 = .ok (.iadd, 1) := by decide +kernel
theorem d_entrySlot_5 : decode b_entrySlot 5 = .ok (.ireturn, 1) := by decide +kernel
theorem d_leastFreeCell_0 : decode b_leastFreeCell 0 = .ok (.iconst 0, 1) := by decide +kernel
theorem d_leastFreeCell_1 : decode b_leastFreeCell 1 = .ok (.istore_n 1, 1) := by decide +kernel
theorem d_leastFreeCell_2 : decode b_leastFreeCell 2 = .ok (.iload_n 1, 1) := by decide +kernel
theorem d_leastFreeCell_3 : decode b_leastFreeCell 3 = .ok (.bipush 24, 2) := by decide +kernel
theorem d_leastFreeCell_5 : decode b_leastFreeCell 5 = .ok (.if_icmp .ge 22, 3) := by decide +kernel
theorem d_leastFreeCell_8 : decode b_leastFreeCell 8 = .ok (.aload_n 0, 1) := by decide +kernel
theorem d_leastFreeCell_9 : decode b_leastFreeCell 9 = .ok (.getfield 124, 3) := by decide +kernel
theorem d_leastFreeCell_12 : decode b_leastFreeCell 12 = .ok (.iload_n 1, 1) := by decide +kernel
theorem d_leastFreeCell_13 : decode b_leastFreeCell 13 = .ok (.invokestatic 152, 3) := by decide +kernel
theorem d_leastFreeCell_16 : decode b_leastFreeCell 16 = .ok (.ifCond .ne 5, 3) := by decide +kernel
theorem d_leastFreeCell_19 : decode b_leastFreeCell 19 = .ok (.iload_n 1, 1) := by decide +kernel
theorem d_leastFreeCell_20 : decode b_leastFreeCell 20 = .ok (.ireturn, 1) := by decide +kernel
theorem d_leastFreeCell_21 : decode b_leastFreeCell 21 = .ok (.iinc 1 1, 3) := by decide +kernel
theorem d_leastFreeCell_24 : decode b_leastFreeCell 24 = .ok (.goto (-22), 3) := by decide +kernel
theorem d_leastFreeCell_27 : decode b_leastFreeCell 27 = .ok (.iconst (-1), 1) := by decide +kernel
theorem d_leastFreeCell_28 : decode b_leastFreeCell 28 = .ok (.ireturn, 1) := by decide +kernel
theorem d_placeThing_0 : decode b_placeThing 0 = .ok (.aload_n 0, 1) := by decide +kernel
theorem d_placeThing_1 : decode b_placeThing 1 = .ok (.dup, 1) := by decide +kernel
theorem d_placeThing_2 : decode b_placeThing 2 = .ok (.getfield 171, 3) := by decide +kernel
theorem d_placeThing_5 : decode b_placeThing 5 = .ok (.iconst 1, 1) := by decide +kernel
theorem d_placeThing_6 : decode b_placeThing 6 = .ok (.iadd, 1) := by decide +kernel
theorem d_placeThing_7 : decode b_placeThing 7 = .ok (.putfield 171, 3) := by decide +kernel
theorem d_placeThing_10 : decode b_placeThing 10 = .ok (.aload_n 0, 1) := by decide +kernel
theorem d_placeThing_11 : decode b_placeThing 11 = .ok (.dup, 1) := by decide +kernel
theorem d_placeThing_12 : decode b_placeThing 12 = .ok (.getfield 124, 3) := by decide +kernel
theorem d_placeThing_15 : decode b_placeThing 15 = .ok (.iconst 1, 1) := by decide +kernel
theorem d_placeThing_16 : decode b_placeThing 16 = .ok (.iload_n 1, 1) := by decide +kernel
theorem d_placeThing_17 : decode b_placeThing 17 = .ok (.ishl, 1) := by decide +kernel
theorem d_placeThing_18 : decode b_placeThing 18 = .ok (.ior, 1) := by decide +kernel
theorem d_placeThing_19 : decode b_placeThing 19 = .ok (.putfield 124, 3) := by decide +kernel
theorem d_placeThing_22 : decode b_placeThing 22 = .ok (.aload_n 0, 1) := by decide +kernel
theorem d_placeThing_23 : decode b_placeThing 23 = .ok (.getfield 9, 3) := by decide +kernel
theorem d_placeThing_26 : decode b_placeThing 26 = .ok (.iload_n 1, 1) := by decide +kernel
theorem d_placeThing_27 : decode b_placeThing 27 = .ok (.iload_n 2, 1) := by decide +kernel
theorem d_placeThing_28 : decode b_placeThing 28 = .ok (.iastore, 1) := by decide +kernel
theorem d_placeThing_29 : decode b_placeThing 29 = .ok (.aload_n 0, 1) := by decide +kernel
theorem d_placeThing_30 : decode b_placeThing 30 = .ok (.getfield 13, 3) := by decide +kernel
theorem d_placeThing_33 : decode b_placeThing 33 = .ok (.iload_n 1, 1) := by decide +kernel
theorem d_placeThing_34 : decode b_placeThing 34 = .ok (.aload_n 0, 1) := by decide +kernel
theorem d_placeThing_35 : decode b_placeThing 35 = .ok (.getfield 171, 3) := by decide +kernel
theorem d_placeThing_38 : decode b_placeThing 38 = .ok (.iastore, 1) := by decide +kernel
theorem d_placeThing_39 : decode b_placeThing 39 = .ok (.aload_n 0, 1) := by decide +kernel
theorem d_placeThing_40 : decode b_placeThing 40 = .ok (.getfield 28, 3) := by decide +kernel
theorem d_placeThing_43 : decode b_placeThing 43 = .ok (.iload_n 1, 1) := by decide +kernel
theorem d_placeThing_44 : decode b_placeThing 44 = .ok (.iconst 0, 1) := by decide +kernel
theorem d_placeThing_45 : decode b_placeThing 45 = .ok (.iastore, 1) := by decide +kernel
theorem d_placeThing_46 : decode b_placeThing 46 = .ok (.aload_n 0, 1) := by decide +kernel
theorem d_placeThing_47 : decode b_placeThing 47 = .ok (.iload_n 1, 1) := by decide +kernel
theorem d_placeThing_48 : decode b_placeThing 48 = .ok (.invokevirtual 174, 3) := by decide +kernel
theorem d_placeThing_51 : decode b_placeThing 51 = .ok (.return_, 1) := by decide +kernel
theorem d_emptyThing_0 : decode b_emptyThing 0 = .ok (.iconst 0, 1) := by decide +kernel
theorem d_emptyThing_1 : decode b_emptyThing 1 = .ok (.istore_n 2, 1) := by decide +kernel
theorem d_emptyThing_2 : decode b_emptyThing 2 = .ok (.iload_n 2, 1) := by decide +kernel
theorem d_emptyThing_3 : decode b_emptyThing 3 = .ok (.iconst 3, 1) := by decide +kernel
theorem d_emptyThing_4 : decode b_emptyThing 4 = .ok (.if_icmp .ge 20, 3) := by decide +kernel
theorem d_emptyThing_7 : decode b_emptyThing 7 = .ok (.aload_n 0, 1) := by decide +kernel
theorem d_emptyThing_8 : decode b_emptyThing 8 = .ok (.getfield 16, 3) := by decide +kernel
theorem d_emptyThing_11 : decode b_emptyThing 11 = .ok (.iload_n 1, 1) := by decide +kernel
theorem d_emptyThing_12 : decode b_emptyThing 12 = .ok (.iload_n 2, 1) := by decide +kernel
theorem d_emptyThing_13 : decode b_emptyThing 13 = .ok (.invokestatic 76, 3) := by decide +kernel
theorem d_emptyThing_16 : decode b_emptyThing 16 = .ok (.iconst (-1), 1) := by decide +kernel
theorem d_emptyThing_17 : decode b_emptyThing 17 = .ok (.iastore, 1) := by decide +kernel
theorem d_emptyThing_18 : decode b_emptyThing 18 = .ok (.iinc 2 1, 3) := by decide +kernel
theorem d_emptyThing_21 : decode b_emptyThing 21 = .ok (.goto (-19), 3) := by decide +kernel
theorem d_emptyThing_24 : decode b_emptyThing 24 = .ok (.aload_n 0, 1) := by decide +kernel
theorem d_emptyThing_25 : decode b_emptyThing 25 = .ok (.getfield 25, 3) := by decide +kernel
theorem d_emptyThing_28 : decode b_emptyThing 28 = .ok (.iload_n 1, 1) := by decide +kernel
theorem d_emptyThing_29 : decode b_emptyThing 29 = .ok (.iconst 0, 1) := by decide +kernel
theorem d_emptyThing_30 : decode b_emptyThing 30 = .ok (.iastore, 1) := by decide +kernel
theorem d_emptyThing_31 : decode b_emptyThing 31 = .ok (.return_, 1) := by decide +kernel
theorem d_entryOf_0 : decode b_entryOf 0 = .ok (.iconst 0, 1) := by decide +kernel
theorem d_entryOf_1 : decode b_entryOf 1 = .ok (.istore_n 3, 1) := by decide +kernel
theorem d_entryOf_2 : decode b_entryOf 2 = .ok (.iload_n 3, 1) := by decide +kernel
theorem d_entryOf_3 : decode b_entryOf 3 = .ok (.aload_n 0, 1) := by decide +kernel
theorem d_entryOf_4 : decode b_entryOf 4 = .ok (.getfield 25, 3) := by decide +kernel
theorem d_entryOf_7 : decode b_entryOf 7 = .ok (.iload_n 1, 1) := by decide +kernel
theorem d_entryOf_8 : decode b_entryOf 8 = .ok (.iaload, 1) := by decide +kernel
theorem d_entryOf_9 : decode b_entryOf 9 = .ok (.if_icmp .ge 25, 3) := by decide +kernel
theorem d_entryOf_12 : decode b_entryOf 12 = .ok (.aload_n 0, 1) := by decide +kernel
theorem d_entryOf_13 : decode b_entryOf 13 = .ok (.getfield 19, 3) := by decide +kernel
theorem d_entryOf_16 : decode b_entryOf 16 = .ok (.iload_n 1, 1) := by decide +kernel
theorem d_entryOf_17 : decode b_entryOf 17 = .ok (.iload_n 3, 1) := by decide +kernel
theorem d_entryOf_18 : decode b_entryOf 18 = .ok (.invokestatic 86, 3) := by decide +kernel
theorem d_entryOf_21 : decode b_entryOf 21 = .ok (.iaload, 1) := by decide +kernel
theorem d_entryOf_22 : decode b_entryOf 22 = .ok (.iload_n 2, 1) := by decide +kernel
theorem d_entryOf_23 : decode b_entryOf 23 = .ok (.if_icmp .ne 5, 3) := by decide +kernel
theorem d_entryOf_26 : decode b_entryOf 26 = .ok (.iload_n 3, 1) := by decide +kernel
theorem d_entryOf_27 : decode b_entryOf 27 = .ok (.ireturn, 1) := by decide +kernel
theorem d_entryOf_28 : decode b_entryOf 28 = .ok (.iinc 3 1, 3) := by decide +kernel
theorem d_entryOf_31 : decode b_entryOf 31 = .ok (.goto (-29), 3) := by decide +kernel
theorem d_entryOf_34 : decode b_entryOf 34 = .ok (.iconst (-1), 1) := by decide +kernel
theorem d_entryOf_35 : decode b_entryOf 35 = .ok (.ireturn, 1) := by decide +kernel
theorem d_appendEntry_0 : decode b_appendEntry 0 = .ok (.iload_n 1, 1) := by decide +kernel
theorem d_appendEntry_1 : decode b_appendEntry 1 = .ok (.aload_n 0, 1) := by decide +kernel
theorem d_appendEntry_2 : decode b_appendEntry 2 = .ok (.getfield 25, 3) := by decide +kernel
theorem d_appendEntry_5 : decode b_appendEntry 5 = .ok (.iload_n 1, 1) := by decide +kernel
theorem d_appendEntry_6 : decode b_appendEntry 6 = .ok (.iaload, 1) := by decide +kernel
theorem d_appendEntry_7 : decode b_appendEntry 7 = .ok (.invokestatic 86, 3) := by decide +kernel
theorem d_appendEntry_10 : decode b_appendEntry 10 = .ok (.istore 4, 2) := by decide +kernel
theorem d_appendEntry_12 : decode b_appendEntry 12 = .ok (.aload_n 0, 1) := by decide +kernel
theorem d_appendEntry_13 : decode b_appendEntry 13 = .ok (.getfield 19, 3) := by decide +kernel
theorem d_appendEntry_16 : decode b_appendEntry 16 = .ok (.iload 4, 2) := by decide +kernel
theorem d_appendEntry_18 : decode b_appendEntry 18 = .ok (.iload_n 2, 1) := by decide +kernel
theorem d_appendEntry_19 : decode b_appendEntry 19 = .ok (.iastore, 1) := by decide +kernel
theorem d_appendEntry_20 : decode b_appendEntry 20 = .ok (.aload_n 0, 1) := by decide +kernel
theorem d_appendEntry_21 : decode b_appendEntry 21 = .ok (.getfield 22, 3) := by decide +kernel
theorem d_appendEntry_24 : decode b_appendEntry 24 = .ok (.iload 4, 2) := by decide +kernel
theorem d_appendEntry_26 : decode b_appendEntry 26 = .ok (.iload_n 3, 1) := by decide +kernel
theorem d_appendEntry_27 : decode b_appendEntry 27 = .ok (.iastore, 1) := by decide +kernel
theorem d_appendEntry_28 : decode b_appendEntry 28 = .ok (.aload_n 0, 1) := by decide +kernel
theorem d_appendEntry_29 : decode b_appendEntry 29 = .ok (.getfield 25, 3) := by decide +kernel
theorem d_appendEntry_32 : decode b_appendEntry 32 = .ok (.iload_n 1, 1) := by decide +kernel
theorem d_appendEntry_33 : decode b_appendEntry 33 = .ok (.dup2, 1) := by decide +kernel
theorem d_appendEntry_34 : decode b_appendEntry 34 = .ok (.iaload, 1) := by decide +kernel
theorem d_appendEntry_35 : decode b_appendEntry 35 = .ok (.iconst 1, 1) := by decide +kernel
theorem d_appendEntry_36 : decode b_appendEntry 36 = .ok (.iadd, 1) := by decide +kernel
theorem d_appendEntry_37 : decode b_appendEntry 37 = .ok (.iastore, 1) := by decide +kernel
theorem d_appendEntry_38 : decode b_appendEntry 38 = .ok (.return_, 1) := by decide +kernel
theorem d_dropEntry_0 : decode b_dropEntry 0 = .ok (.aload_n 0, 1) := by decide +kernel
theorem d_dropEntry_1 : decode b_dropEntry 1 = .ok (.getfield 25, 3) := by decide +kernel
theorem d_dropEntry_4 : decode b_dropEntry 4 = .ok (.iload_n 1, 1) := by decide +kernel
theorem d_dropEntry_5 : decode b_dropEntry 5 = .ok (.iaload, 1) := by decide +kernel
theorem d_dropEntry_6 : decode b_dropEntry 6 = .ok (.iconst 1, 1) := by decide +kernel
theorem d_dropEntry_7 : decode b_dropEntry 7 = .ok (.isub, 1) := by decide +kernel
theorem d_dropEntry_8 : decode b_dropEntry 8 = .ok (.istore_n 3, 1) := by decide +kernel
theorem d_dropEntry_9 : decode b_dropEntry 9 = .ok (.iload_n 2, 1) := by decide +kernel
theorem d_dropEntry_10 : decode b_dropEntry 10 = .ok (.istore 4, 2) := by decide +kernel
theorem d_dropEntry_12 : decode b_dropEntry 12 = .ok (.iload 4, 2) := by decide +kernel
theorem d_dropEntry_14 : decode b_dropEntry 14 = .ok (.iload_n 3, 1) := by decide +kernel
theorem d_dropEntry_15 : decode b_dropEntry 15 = .ok (.if_icmp .ge 20, 3) := by decide +kernel
theorem d_dropEntry_18 : decode b_dropEntry 18 = .ok (.aload_n 0, 1) := by decide +kernel
theorem d_dropEntry_19 : decode b_dropEntry 19 = .ok (.iload_n 1, 1) := by decide +kernel
theorem d_dropEntry_20 : decode b_dropEntry 20 = .ok (.iload 4, 2) := by decide +kernel
theorem d_dropEntry_22 : decode b_dropEntry 22 = .ok (.iconst 1, 1) := by decide +kernel
theorem d_dropEntry_23 : decode b_dropEntry 23 = .ok (.iadd, 1) := by decide +kernel
theorem d_dropEntry_24 : decode b_dropEntry 24 = .ok (.iload 4, 2) := by decide +kernel
theorem d_dropEntry_26 : decode b_dropEntry 26 = .ok (.invokevirtual 177, 3) := by decide +kernel
theorem d_dropEntry_29 : decode b_dropEntry 29 = .ok (.iinc 4 1, 3) := by decide +kernel
theorem d_dropEntry_32 : decode b_dropEntry 32 = .ok (.goto (-20), 3) := by decide +kernel
theorem d_dropEntry_35 : decode b_dropEntry 35 = .ok (.aload_n 0, 1) := by decide +kernel
theorem d_dropEntry_36 : decode b_dropEntry 36 = .ok (.getfield 25, 3) := by decide +kernel
theorem d_dropEntry_39 : decode b_dropEntry 39 = .ok (.iload_n 1, 1) := by decide +kernel
theorem d_dropEntry_40 : decode b_dropEntry 40 = .ok (.iload_n 3, 1) := by decide +kernel
theorem d_dropEntry_41 : decode b_dropEntry 41 = .ok (.iastore, 1) := by decide +kernel
theorem d_dropEntry_42 : decode b_dropEntry 42 = .ok (.return_, 1) := by decide +kernel
theorem d_copyEntry_0 : decode b_copyEntry 0 = .ok (.aload_n 0, 1) := by decide +kernel
theorem d_copyEntry_1 : decode b_copyEntry 1 = .ok (.getfield 19, 3) := by decide +kernel
theorem d_copyEntry_4 : decode b_copyEntry 4 = .ok (.iload_n 1, 1) := by decide +kernel
theorem d_copyEntry_5 : decode b_copyEntry 5 = .ok (.iload_n 3, 1) := by decide +kernel
theorem d_copyEntry_6 : decode b_copyEntry 6 = .ok (.invokestatic 86, 3) := by decide +kernel
theorem d_copyEntry_9 : decode b_copyEntry 9 = .ok (.aload_n 0, 1) := by decide +kernel
theorem d_copyEntry_10 : decode b_copyEntry 10 = .ok (.getfield 19, 3) := by decide +kernel
theorem d_copyEntry_13 : decode b_copyEntry 13 = .ok (.iload_n 1, 1) := by decide +kernel
theorem d_copyEntry_14 : decode b_copyEntry 14 = .ok (.iload_n 2, 1) := by decide +kernel
theorem d_copyEntry_15 : decode b_copyEntry 15 = .ok (.invokestatic 86, 3) := by decide +kernel
theorem d_copyEntry_18 : decode b_copyEntry 18 = .ok (.iaload, 1) := by decide +kernel
theorem d_copyEntry_19 : decode b_copyEntry 19 = .ok (.iastore, 1) := by decide +kernel
theorem d_copyEntry_20 : decode b_copyEntry 20 = .ok (.aload_n 0, 1) := by decide +kernel
theorem d_copyEntry_21 : decode b_copyEntry 21 = .ok (.getfield 22, 3) := by decide +kernel
theorem d_copyEntry_24 : decode b_copyEntry 24 = .ok (.iload_n 1, 1) := by decide +kernel
theorem d_copyEntry_25 : decode b_copyEntry 25 = .ok (.iload_n 3, 1) := by decide +kernel
theorem d_copyEntry_26 : decode b_copyEntry 26 = .ok (.invokestatic 86, 3) := by decide +kernel
theorem d_copyEntry_29 : decode b_copyEntry 29 = .ok (.aload_n 0, 1) := by decide +kernel
theorem d_copyEntry_30 : decode b_copyEntry 30 = .ok (.getfield 22, 3) := by decide +kernel
theorem d_copyEntry_33 : decode b_copyEntry 33 = .ok (.iload_n 1, 1) := by decide +kernel
theorem d_copyEntry_34 : decode b_copyEntry 34 = .ok (.iload_n 2, 1) := by decide +kernel
theorem d_copyEntry_35 : decode b_copyEntry 35 = .ok (.invokestatic 86, 3) := by decide +kernel
theorem d_copyEntry_38 : decode b_copyEntry 38 = .ok (.iaload, 1) := by decide +kernel
theorem d_copyEntry_39 : decode b_copyEntry 39 = .ok (.iastore, 1) := by decide +kernel
theorem d_copyEntry_40 : decode b_copyEntry 40 = .ok (.return_, 1) := by decide +kernel
theorem d_thingsInRoots_0 : decode b_thingsInRoots 0 = .ok (.iconst 0, 1) := by decide +kernel
theorem d_thingsInRoots_1 : decode b_thingsInRoots 1 = .ok (.istore_n 1, 1) := by decide +kernel
theorem d_thingsInRoots_2 : decode b_thingsInRoots 2 = .ok (.iconst 0, 1) := by decide +kernel
theorem d_thingsInRoots_3 : decode b_thingsInRoots 3 = .ok (.istore_n 2, 1) := by decide +kernel
theorem d_thingsInRoots_4 : decode b_thingsInRoots 4 = .ok (.iload_n 2, 1) := by decide +kernel
theorem d_thingsInRoots_5 : decode b_thingsInRoots 5 = .ok (.bipush 6, 2) := by decide +kernel
theorem d_thingsInRoots_7 : decode b_thingsInRoots 7 = .ok (.if_icmp .ge 30, 3) := by decide +kernel
theorem d_thingsInRoots_10 : decode b_thingsInRoots 10 = .ok (.aload_n 0, 1) := by decide +kernel
theorem d_thingsInRoots_11 : decode b_thingsInRoots 11 = .ok (.getfield 37, 3) := by decide +kernel
theorem d_thingsInRoots_14 : decode b_thingsInRoots 14 = .ok (.iload_n 2, 1) := by decide +kernel
theorem d_thingsInRoots_15 : decode b_thingsInRoots 15 = .ok (.iaload, 1) := by decide +kernel
theorem d_thingsInRoots_16 : decode b_thingsInRoots 16 = .ok (.iconst (-1), 1) := by decide +kernel
theorem d_thingsInRoots_17 : decode b_thingsInRoots 17 = .ok (.if_icmp .eq 14, 3) := by decide +kernel
theorem d_thingsInRoots_20 : decode b_thingsInRoots 20 = .ok (.iload_n 1, 1) := by decide +kernel
theorem d_thingsInRoots_21 : decode b_thingsInRoots 21 = .ok (.iconst 1, 1) := by decide +kernel
theorem d_thingsInRoots_22 : decode b_thingsInRoots 22 = .ok (.aload_n 0, 1) := by decide +kernel
theorem d_thingsInRoots_23 : decode b_thingsInRoots 23 = .ok (.getfield 37, 3) := by decide +kernel
theorem d_thingsInRoots_26 : decode b_thingsInRoots 26 = .ok (.iload_n 2, 1) := by decide +kernel
theorem d_thingsInRoots_27 : decode b_thingsInRoots 27 = .ok (.iaload, 1) := by decide +kernel
theorem d_thingsInRoots_28 : decode b_thingsInRoots 28 = .ok (.ishl, 1) := by decide +kernel
theorem d_thingsInRoots_29 : decode b_thingsInRoots 29 = .ok (.ior, 1) := by decide +kernel
theorem d_thingsInRoots_30 : decode b_thingsInRoots 30 = .ok (.istore_n 1, 1) := by decide +kernel
theorem d_thingsInRoots_31 : decode b_thingsInRoots 31 = .ok (.iinc 2 1, 3) := by decide +kernel
theorem d_thingsInRoots_34 : decode b_thingsInRoots 34 = .ok (.goto (-30), 3) := by decide +kernel
theorem d_thingsInRoots_37 : decode b_thingsInRoots 37 = .ok (.iload_n 1, 1) := by decide +kernel
theorem d_thingsInRoots_38 : decode b_thingsInRoots 38 = .ok (.ireturn, 1) := by decide +kernel
theorem d_thingsInQueue_0 : decode b_thingsInQueue 0 = .ok (.iconst 0, 1) := by decide +kernel
theorem d_thingsInQueue_1 : decode b_thingsInQueue 1 = .ok (.istore_n 1, 1) := by decide +kernel
theorem d_thingsInQueue_2 : decode b_thingsInQueue 2 = .ok (.iconst 0, 1) := by decide +kernel
theorem d_thingsInQueue_3 : decode b_thingsInQueue 3 = .ok (.istore_n 2, 1) := by decide +kernel
theorem d_thingsInQueue_4 : decode b_thingsInQueue 4 = .ok (.iload_n 2, 1) := by decide +kernel
theorem d_thingsInQueue_5 : decode b_thingsInQueue 5 = .ok (.aload_n 0, 1) := by decide +kernel
theorem d_thingsInQueue_6 : decode b_thingsInQueue 6 = .ok (.getfield 138, 3) := by decide +kernel
theorem d_thingsInQueue_9 : decode b_thingsInQueue 9 = .ok (.if_icmp .ge 20, 3) := by decide +kernel
theorem d_thingsInQueue_12 : decode b_thingsInQueue 12 = .ok (.iload_n 1, 1) := by decide +kernel
theorem d_thingsInQueue_13 : decode b_thingsInQueue 13 = .ok (.iconst 1, 1) := by decide +kernel
theorem d_thingsInQueue_14 : decode b_thingsInQueue 14 = .ok (.aload_n 0, 1) := by decide +kernel
theorem d_thingsInQueue_15 : decode b_thingsInQueue 15 = .ok (.getfield 40, 3) := by decide +kernel
theorem d_thingsInQueue_18 : decode b_thingsInQueue 18 = .ok (.iload_n 2, 1) := by decide +kernel
theorem d_thingsInQueue_19 : decode b_thingsInQueue 19 = .ok (.iaload, 1) := by decide +kernel
theorem d_thingsInQueue_20 : decode b_thingsInQueue 20 = .ok (.ishl, 1) := by decide +kernel
theorem d_thingsInQueue_21 : decode b_thingsInQueue 21 = .ok (.ior, 1) := by decide +kernel
theorem d_thingsInQueue_22 : decode b_thingsInQueue 22 = .ok (.istore_n 1, 1) := by decide +kernel
theorem d_thingsInQueue_23 : decode b_thingsInQueue 23 = .ok (.iinc 2 1, 3) := by decide +kernel
theorem d_thingsInQueue_26 : decode b_thingsInQueue 26 = .ok (.goto (-22), 3) := by decide +kernel
theorem d_thingsInQueue_29 : decode b_thingsInQueue 29 = .ok (.iload_n 1, 1) := by decide +kernel
theorem d_thingsInQueue_30 : decode b_thingsInQueue 30 = .ok (.ireturn, 1) := by decide +kernel
theorem d_closureOf_0 : decode b_closureOf 0 = .ok (.iload_n 1, 1) := by decide +kernel
theorem d_closureOf_1 : decode b_closureOf 1 = .ok (.istore_n 2, 1) := by decide +kernel
theorem d_closureOf_2 : decode b_closureOf 2 = .ok (.iconst 0, 1) := by decide +kernel
theorem d_closureOf_3 : decode b_closureOf 3 = .ok (.istore_n 3, 1) := by decide +kernel
theorem d_closureOf_4 : decode b_closureOf 4 = .ok (.iload_n 3, 1) := by decide +kernel
theorem d_closureOf_5 : decode b_closureOf 5 = .ok (.bipush 24, 2) := by decide +kernel
theorem d_closureOf_7 : decode b_closureOf 7 = .ok (.if_icmp .ge 27, 3) := by decide +kernel
theorem d_closureOf_10 : decode b_closureOf 10 = .ok (.aload_n 0, 1) := by decide +kernel
theorem d_closureOf_11 : decode b_closureOf 11 = .ok (.iload_n 2, 1) := by decide +kernel
theorem d_closureOf_12 : decode b_closureOf 12 = .ok (.invokevirtual 180, 3) := by decide +kernel
theorem d_closureOf_15 : decode b_closureOf 15 = .ok (.istore 4, 2) := by decide +kernel
theorem d_closureOf_17 : decode b_closureOf 17 = .ok (.iload 4, 2) := by decide +kernel
theorem d_closureOf_19 : decode b_closureOf 19 = .ok (.iload_n 2, 1) := by decide +kernel
theorem d_closureOf_20 : decode b_closureOf 20 = .ok (.if_icmp .ne 5, 3) := by decide +kernel
theorem d_closureOf_23 : decode b_closureOf 23 = .ok (.iload_n 2, 1) := by decide +kernel
theorem d_closureOf_24 : decode b_closureOf 24 = .ok (.ireturn, 1) := by decide +kernel
theorem d_closureOf_25 : decode b_closureOf 25 = .ok (.iload 4, 2) := by decide +kernel
theorem d_closureOf_27 : decode b_closureOf 27 = .ok (.istore_n 2, 1) := by decide +kernel
theorem d_closureOf_28 : decode b_closureOf 28 = .ok (.iinc 3 1, 3) := by decide +kernel
theorem d_closureOf_31 : decode b_closureOf 31 = .ok (.goto (-27), 3) := by decide +kernel
theorem d_closureOf_34 : decode b_closureOf 34 = .ok (.iload_n 2, 1) := by decide +kernel
theorem d_closureOf_35 : decode b_closureOf 35 = .ok (.ireturn, 1) := by decide +kernel
theorem d_withThingsHeld_0 : decode b_withThingsHeld 0 = .ok (.iload_n 1, 1) := by decide +kernel
theorem d_withThingsHeld_1 : decode b_withThingsHeld 1 = .ok (.istore_n 2, 1) := by decide +kernel
theorem d_withThingsHeld_2 : decode b_withThingsHeld 2 = .ok (.iconst 0, 1) := by decide +kernel
theorem d_withThingsHeld_3 : decode b_withThingsHeld 3 = .ok (.istore_n 3, 1) := by decide +kernel
theorem d_withThingsHeld_4 : decode b_withThingsHeld 4 = .ok (.iload_n 3, 1) := by decide +kernel
theorem d_withThingsHeld_5 : decode b_withThingsHeld 5 = .ok (.bipush 24, 2) := by decide +kernel
theorem d_withThingsHeld_7 : decode b_withThingsHeld 7 = .ok (.if_icmp .ge 26, 3) := by decide +kernel
theorem d_withThingsHeld_10 : decode b_withThingsHeld 10 = .ok (.iload_n 2, 1) := by decide +kernel
theorem d_withThingsHeld_11 : decode b_withThingsHeld 11 = .ok (.iload_n 3, 1) := by decide +kernel
theorem d_withThingsHeld_12 : decode b_withThingsHeld 12 = .ok (.invokestatic 152, 3) := by decide +kernel
theorem d_withThingsHeld_15 : decode b_withThingsHeld 15 = .ok (.ifCond .eq 12, 3) := by decide +kernel
theorem d_withThingsHeld_18 : decode b_withThingsHeld 18 = .ok (.iload_n 2, 1) := by decide +kernel
theorem d_withThingsHeld_19 : decode b_withThingsHeld 19 = .ok (.aload_n 0, 1) := by decide +kernel
theorem d_withThingsHeld_20 : decode b_withThingsHeld 20 = .ok (.iload_n 3, 1) := by decide +kernel
theorem d_withThingsHeld_21 : decode b_withThingsHeld 21 = .ok (.iload_n 2, 1) := by decide +kernel
theorem d_withThingsHeld_22 : decode b_withThingsHeld 22 = .ok (.invokevirtual 183, 3) := by decide +kernel
theorem d_withThingsHeld_25 : decode b_withThingsHeld 25 = .ok (.ior, 1) := by decide +kernel
theorem d_withThingsHeld_26 : decode b_withThingsHeld 26 = .ok (.istore_n 2, 1) := by decide +kernel
theorem d_withThingsHeld_27 : decode b_withThingsHeld 27 = .ok (.iinc 3 1, 3) := by decide +kernel
theorem d_withThingsHeld_30 : decode b_withThingsHeld 30 = .ok (.goto (-26), 3) := by decide +kernel
theorem d_withThingsHeld_33 : decode b_withThingsHeld 33 = .ok (.iload_n 2, 1) := by decide +kernel
theorem d_withThingsHeld_34 : decode b_withThingsHeld 34 = .ok (.ireturn, 1) := by decide +kernel
theorem d_thingsHeldBy_0 : decode b_thingsHeldBy 0 = .ok (.aload_n 0, 1) := by decide +kernel
theorem d_thingsHeldBy_1 : decode b_thingsHeldBy 1 = .ok (.getfield 9, 3) := by decide +kernel
theorem d_thingsHeldBy_4 : decode b_thingsHeldBy 4 = .ok (.iload_n 1, 1) := by decide +kernel
theorem d_thingsHeldBy_5 : decode b_thingsHeldBy 5 = .ok (.iaload, 1) := by decide +kernel
theorem d_thingsHeldBy_6 : decode b_thingsHeldBy 6 = .ok (.ifCond .ne 9, 3) := by decide +kernel
theorem d_thingsHeldBy_9 : decode b_thingsHeldBy 9 = .ok (.aload_n 0, 1) := by decide +kernel
theorem d_thingsHeldBy_10 : decode b_thingsHeldBy 10 = .ok (.iload_n 1, 1) := by decide +kernel
theorem d_thingsHeldBy_11 : decode b_thingsHeldBy 11 = .ok (.invokevirtual 186, 3) := by decide +kernel
theorem d_thingsHeldBy_14 : decode b_thingsHeldBy 14 = .ok (.ireturn, 1) := by decide +kernel
theorem d_thingsHeldBy_15 : decode b_thingsHeldBy 15 = .ok (.aload_n 0, 1) := by decide +kernel
theorem d_thingsHeldBy_16 : decode b_thingsHeldBy 16 = .ok (.getfield 9, 3) := by decide +kernel
theorem d_thingsHeldBy_19 : decode b_thingsHeldBy 19 = .ok (.iload_n 1, 1) := by decide +kernel
theorem d_thingsHeldBy_20 : decode b_thingsHeldBy 20 = .ok (.iaload, 1) := by decide +kernel
theorem d_thingsHeldBy_21 : decode b_thingsHeldBy 21 = .ok (.iconst 2, 1) := by decide +kernel
theorem d_thingsHeldBy_22 : decode b_thingsHeldBy 22 = .ok (.if_icmp .ne 12, 3) := by decide +kernel
theorem d_thingsHeldBy_25 : decode b_thingsHeldBy 25 = .ok (.aload_n 0, 1) := by decide +kernel
theorem d_thingsHeldBy_26 : decode b_thingsHeldBy 26 = .ok (.iload_n 1, 1) := by decide +kernel
theorem d_thingsHeldBy_27 : decode b_thingsHeldBy 27 = .ok (.iload_n 2, 1) := by decide +kernel
theorem d_thingsHeldBy_28 : decode b_thingsHeldBy 28 = .ok (.invokevirtual 189, 3) := by decide +kernel
theorem d_thingsHeldBy_31 : decode b_thingsHeldBy 31 = .ok (.goto 4, 3) := by decide +kernel
theorem d_thingsHeldBy_34 : decode b_thingsHeldBy 34 = .ok (.iconst 0, 1) := by decide +kernel
theorem d_thingsHeldBy_35 : decode b_thingsHeldBy 35 = .ok (.ireturn, 1) := by decide +kernel
theorem d_thingsInFields_0 : decode b_thingsInFields 0 = .ok (.iconst 0, 1) := by decide +kernel
theorem d_thingsInFields_1 : decode b_thingsInFields 1 = .ok (.istore_n 2, 1) := by decide +kernel
theorem d_thingsInFields_2 : decode b_thingsInFields 2 = .ok (.iconst 0, 1) := by decide +kernel
theorem d_thingsInFields_3 : decode b_thingsInFields 3 = .ok (.istore_n 3, 1) := by decide +kernel
theorem d_thingsInFields_4 : decode b_thingsInFields 4 = .ok (.iload_n 3, 1) := by decide +kernel
theorem d_thingsInFields_5 : decode b_thingsInFields 5 = .ok (.iconst 3, 1) := by decide +kernel
theorem d_thingsInFields_6 : decode b_thingsInFields 6 = .ok (.if_icmp .ge 34, 3) := by decide +kernel
theorem d_thingsInFields_9 : decode b_thingsInFields 9 = .ok (.aload_n 0, 1) := by decide +kernel
theorem d_thingsInFields_10 : decode b_thingsInFields 10 = .ok (.getfield 16, 3) := by decide +kernel
theorem d_thingsInFields_13 : decode b_thingsInFields 13 = .ok (.iload_n 1, 1) := by decide +kernel
theorem d_thingsInFields_14 : decode b_thingsInFields 14 = .ok (.iload_n 3, 1) := by decide +kernel
theorem d_thingsInFields_15 : decode b_thingsInFields 15 = .ok (.invokestatic 76, 3) := by decide +kernel
theorem d_thingsInFields_18 : decode b_thingsInFields 18 = .ok (.iaload, 1) := by decide +kernel
theorem d_thingsInFields_19 : decode b_thingsInFields 19 = .ok (.istore 4, 2) := by decide +kernel
theorem d_thingsInFields_21 : decode b_thingsInFields 21 = .ok (.iload 4, 2) := by decide +kernel
theorem d_thingsInFields_23 : decode b_thingsInFields 23 = .ok (.iconst (-1), 1) := by decide +kernel
theorem d_thingsInFields_24 : decode b_thingsInFields 24 = .ok (.if_icmp .eq 10, 3) := by decide +kernel
theorem d_thingsInFields_27 : decode b_thingsInFields 27 = .ok (.iload_n 2, 1) := by decide +kernel
theorem d_thingsInFields_28 : decode b_thingsInFields 28 = .ok (.iconst 1, 1) := by decide +kernel
theorem d_thingsInFields_29 : decode b_thingsInFields 29 = .ok (.iload 4, 2) := by decide +kernel
theorem d_thingsInFields_31 : decode b_thingsInFields 31 = .ok (.ishl, 1) := by decide +kernel
theorem d_thingsInFields_32 : decode b_thingsInFields 32 = .ok (.ior, 1) := by decide +kernel
theorem d_thingsInFields_33 : decode b_thingsInFields 33 = .ok (.istore_n 2, 1) := by decide +kernel
theorem d_thingsInFields_34 : decode b_thingsInFields 34 = .ok (.iinc 3 1, 3) := by decide +kernel
theorem d_thingsInFields_37 : decode b_thingsInFields 37 = .ok (.goto (-33), 3) := by decide +kernel
theorem d_thingsInFields_40 : decode b_thingsInFields 40 = .ok (.iload_n 2, 1) := by decide +kernel
theorem d_thingsInFields_41 : decode b_thingsInFields 41 = .ok (.ireturn, 1) := by decide +kernel
theorem d_valuesOfKeysIn_0 : decode b_valuesOfKeysIn 0 = .ok (.iconst 0, 1) := by decide +kernel
theorem d_valuesOfKeysIn_1 : decode b_valuesOfKeysIn 1 = .ok (.istore_n 3, 1) := by decide +kernel
theorem d_valuesOfKeysIn_2 : decode b_valuesOfKeysIn 2 = .ok (.iconst 0, 1) := by decide +kernel
theorem d_valuesOfKeysIn_3 : decode b_valuesOfKeysIn 3 = .ok (.istore 4, 2) := by decide +kernel
theorem d_valuesOfKeysIn_5 : decode b_valuesOfKeysIn 5 = .ok (.iload 4, 2) := by decide +kernel
theorem d_valuesOfKeysIn_7 : decode b_valuesOfKeysIn 7 = .ok (.aload_n 0, 1) := by decide +kernel
theorem d_valuesOfKeysIn_8 : decode b_valuesOfKeysIn 8 = .ok (.getfield 25, 3) := by decide +kernel
theorem d_valuesOfKeysIn_11 : decode b_valuesOfKeysIn 11 = .ok (.iload_n 1, 1) := by decide +kernel
theorem d_valuesOfKeysIn_12 : decode b_valuesOfKeysIn 12 = .ok (.iaload, 1) := by decide +kernel
theorem d_valuesOfKeysIn_13 : decode b_valuesOfKeysIn 13 = .ok (.if_icmp .ge 43, 3) := by decide +kernel
theorem d_valuesOfKeysIn_16 : decode b_valuesOfKeysIn 16 = .ok (.iload_n 1, 1) := by decide +kernel
theorem d_valuesOfKeysIn_17 : decode b_valuesOfKeysIn 17 = .ok (.iload 4, 2) := by decide +kernel
theorem d_valuesOfKeysIn_19 : decode b_valuesOfKeysIn 19 = .ok (.invokestatic 86, 3) := by decide +kernel
theorem d_valuesOfKeysIn_22 : decode b_valuesOfKeysIn 22 = .ok (.istore 5, 2) := by decide +kernel
theorem d_valuesOfKeysIn_24 : decode b_valuesOfKeysIn 24 = .ok (.iload_n 2, 1) := by decide +kernel
theorem d_valuesOfKeysIn_25 : decode b_valuesOfKeysIn 25 = .ok (.aload_n 0, 1) := by decide +kernel
theorem d_valuesOfKeysIn_26 : decode b_valuesOfKeysIn 26 = .ok (.getfield 19, 3) := by decide +kernel
theorem d_valuesOfKeysIn_29 : decode b_valuesOfKeysIn 29 = .ok (.iload 5, 2) := by decide +kernel
theorem d_valuesOfKeysIn_31 : decode b_valuesOfKeysIn 31 = .ok (.iaload, 1) := by decide +kernel
theorem d_valuesOfKeysIn_32 : decode b_valuesOfKeysIn 32 = .ok (.invokestatic 152, 3) := by decide +kernel
theorem d_valuesOfKeysIn_35 : decode b_valuesOfKeysIn 35 = .ok (.ifCond .eq 15, 3) := by decide +kernel
theorem d_valuesOfKeysIn_38 : decode b_valuesOfKeysIn 38 = .ok (.iload_n 3, 1) := by decide +kernel
theorem d_valuesOfKeysIn_39 : decode b_valuesOfKeysIn 39 = .ok (.iconst 1, 1) := by decide +kernel
theorem d_valuesOfKeysIn_40 : decode b_valuesOfKeysIn 40 = .ok (.aload_n 0, 1) := by decide +kernel
theorem d_valuesOfKeysIn_41 : decode b_valuesOfKeysIn 41 = .ok (.getfield 22, 3) := by decide +kernel
theorem d_valuesOfKeysIn_44 : decode b_valuesOfKeysIn 44 = .ok (.iload 5, 2) := by decide +kernel
theorem d_valuesOfKeysIn_46 : decode b_valuesOfKeysIn 46 = .ok (.iaload, 1) := by decide +kernel
theorem d_valuesOfKeysIn_47 : decode b_valuesOfKeysIn 47 = .ok (.ishl, 1) := by decide +kernel
theorem d_valuesOfKeysIn_48 : decode b_valuesOfKeysIn 48 = .ok (.ior, 1) := by decide +kernel
theorem d_valuesOfKeysIn_49 : decode b_valuesOfKeysIn 49 = .ok (.istore_n 3, 1) := by decide +kernel
theorem d_valuesOfKeysIn_50 : decode b_valuesOfKeysIn 50 = .ok (.iinc 4 1, 3) := by decide +kernel
theorem d_valuesOfKeysIn_53 : decode b_valuesOfKeysIn 53 = .ok (.goto (-48), 3) := by decide +kernel
theorem d_valuesOfKeysIn_56 : decode b_valuesOfKeysIn 56 = .ok (.iload_n 3, 1) := by decide +kernel
theorem d_valuesOfKeysIn_57 : decode b_valuesOfKeysIn 57 = .ok (.ireturn, 1) := by decide +kernel
theorem d_forgetOutside_0 : decode b_forgetOutside 0 = .ok (.iconst 0, 1) := by decide +kernel
theorem d_forgetOutside_1 : decode b_forgetOutside 1 = .ok (.istore_n 2, 1) := by decide +kernel
theorem d_forgetOutside_2 : decode b_forgetOutside 2 = .ok (.iload_n 2, 1) := by decide +kernel
theorem d_forgetOutside_3 : decode b_forgetOutside 3 = .ok (.bipush 24, 2) := by decide +kernel
theorem d_forgetOutside_5 : decode b_forgetOutside 5 = .ok (.if_icmp .ge 52, 3) := by decide +kernel
theorem d_forgetOutside_8 : decode b_forgetOutside 8 = .ok (.iload_n 1, 1) := by decide +kernel
theorem d_forgetOutside_9 : decode b_forgetOutside 9 = .ok (.iload_n 2, 1) := by decide +kernel
theorem d_forgetOutside_10 : decode b_forgetOutside 10 = .ok (.invokestatic 152, 3) := by decide +kernel
theorem d_forgetOutside_13 : decode b_forgetOutside 13 = .ok (.ifCond .eq 38, 3) := by decide +kernel
theorem d_forgetOutside_16 : decode b_forgetOutside 16 = .ok (.aload_n 0, 1) := by decide +kernel
theorem d_forgetOutside_17 : decode b_forgetOutside 17 = .ok (.getfield 9, 3) := by decide +kernel
theorem d_forgetOutside_20 : decode b_forgetOutside 20 = .ok (.iload_n 2, 1) := by decide +kernel
theorem d_forgetOutside_21 : decode b_forgetOutside 21 = .ok (.iaload, 1) := by decide +kernel
theorem d_forgetOutside_22 : decode b_forgetOutside 22 = .ok (.iconst 1, 1) := by decide +kernel
theorem d_forgetOutside_23 : decode b_forgetOutside 23 = .ok (.if_icmp .ne 12, 3) := by decide +kernel
theorem d_forgetOutside_26 : decode b_forgetOutside 26 = .ok (.aload_n 0, 1) := by decide +kernel
theorem d_forgetOutside_27 : decode b_forgetOutside 27 = .ok (.iload_n 2, 1) := by decide +kernel
theorem d_forgetOutside_28 : decode b_forgetOutside 28 = .ok (.iload_n 1, 1) := by decide +kernel
theorem d_forgetOutside_29 : decode b_forgetOutside 29 = .ok (.invokevirtual 192, 3) := by decide +kernel
theorem d_forgetOutside_32 : decode b_forgetOutside 32 = .ok (.goto 19, 3) := by decide +kernel
theorem d_forgetOutside_35 : decode b_forgetOutside 35 = .ok (.aload_n 0, 1) := by decide +kernel
theorem d_forgetOutside_36 : decode b_forgetOutside 36 = .ok (.getfield 9, 3) := by decide +kernel
theorem d_forgetOutside_39 : decode b_forgetOutside 39 = .ok (.iload_n 2, 1) := by decide +kernel
theorem d_forgetOutside_40 : decode b_forgetOutside 40 = .ok (.iaload, 1) := by decide +kernel
theorem d_forgetOutside_41 : decode b_forgetOutside 41 = .ok (.iconst 2, 1) := by decide +kernel
theorem d_forgetOutside_42 : decode b_forgetOutside 42 = .ok (.if_icmp .ne 9, 3) := by decide +kernel
theorem d_forgetOutside_45 : decode b_forgetOutside 45 = .ok (.aload_n 0, 1) := by decide +kernel
theorem d_forgetOutside_46 : decode b_forgetOutside 46 = .ok (.iload_n 2, 1) := by decide +kernel
theorem d_forgetOutside_47 : decode b_forgetOutside 47 = .ok (.iload_n 1, 1) := by decide +kernel
theorem d_forgetOutside_48 : decode b_forgetOutside 48 = .ok (.invokevirtual 195, 3) := by decide +kernel
theorem d_forgetOutside_51 : decode b_forgetOutside 51 = .ok (.iinc 2 1, 3) := by decide +kernel
theorem d_forgetOutside_54 : decode b_forgetOutside 54 = .ok (.goto (-52), 3) := by decide +kernel
theorem d_forgetOutside_57 : decode b_forgetOutside 57 = .ok (.return_, 1) := by decide +kernel
theorem d_forgetReferentOutside_0 : decode b_forgetReferentOutside 0 = .ok (.iload_n 1, 1) := by decide +kernel
theorem d_forgetReferentOutside_1 : decode b_forgetReferentOutside 1 = .ok (.iconst 0, 1) := by decide +kernel
theorem d_forgetReferentOutside_2 : decode b_forgetReferentOutside 2 = .ok (.invokestatic 76, 3) := by decide +kernel
theorem d_forgetReferentOutside_5 : decode b_forgetReferentOutside 5 = .ok (.istore_n 3, 1) := by decide +kernel
theorem d_forgetReferentOutside_6 : decode b_forgetReferentOutside 6 = .ok (.aload_n 0, 1) := by decide +kernel
theorem d_forgetReferentOutside_7 : decode b_forgetReferentOutside 7 = .ok (.getfield 16, 3) := by decide +kernel
theorem d_forgetReferentOutside_10 : decode b_forgetReferentOutside 10 = .ok (.iload_n 3, 1) := by decide +kernel
theorem d_forgetReferentOutside_11 : decode b_forgetReferentOutside 11 = .ok (.iaload, 1) := by decide +kernel
theorem d_forgetReferentOutside_12 : decode b_forgetReferentOutside 12 = .ok (.iconst (-1), 1) := by decide +kernel
theorem d_forgetReferentOutside_13 : decode b_forgetReferentOutside 13 = .ok (.if_icmp .eq 23, 3) := by decide +kernel
theorem d_forgetReferentOutside_16 : decode b_forgetReferentOutside 16 = .ok (.iload_n 2, 1) := by decide +kernel
theorem d_forgetReferentOutside_17 : decode b_forgetReferentOutside 17 = .ok (.aload_n 0, 1) := by decide +kernel
theorem d_forgetReferentOutside_18 : decode b_forgetReferentOutside 18 = .ok (.getfield 16, 3) := by decide +kernel
theorem d_forgetReferentOutside_21 : decode b_forgetReferentOutside 21 = .ok (.iload_n 3, 1) := by decide +kernel
theorem d_forgetReferentOutside_22 : decode b_forgetReferentOutside 22 = .ok (.iaload, 1) := by decide +kernel
theorem d_forgetReferentOutside_23 : decode b_forgetReferentOutside 23 = .ok (.invokestatic 152, 3) := by decide +kernel
theorem d_forgetReferentOutside_26 : decode b_forgetReferentOutside 26 = .ok (.ifCond .ne 10, 3) := by decide +kernel
theorem d_forgetReferentOutside_29 : decode b_forgetReferentOutside 29 = .ok (.aload_n 0, 1) := by decide +kernel
theorem d_forgetReferentOutside_30 : decode b_forgetReferentOutside 30 = .ok (.getfield 16, 3) := by decide +kernel
theorem d_forgetReferentOutside_33 : decode b_forgetReferentOutside 33 = .ok (.iload_n 3, 1) := by decide +kernel
theorem d_forgetReferentOutside_34 : decode b_forgetReferentOutside 34 = .ok (.iconst (-1), 1) := by decide +kernel
theorem d_forgetReferentOutside_35 : decode b_forgetReferentOutside 35 = .ok (.iastore, 1) := by decide +kernel
theorem d_forgetReferentOutside_36 : decode b_forgetReferentOutside 36 = .ok (.return_, 1) := by decide +kernel
theorem d_forgetEntriesOutside_0 : decode b_forgetEntriesOutside 0 = .ok (.iconst 0, 1) := by decide +kernel
theorem d_forgetEntriesOutside_1 : decode b_forgetEntriesOutside 1 = .ok (.istore_n 3, 1) := by decide +kernel
theorem d_forgetEntriesOutside_2 : decode b_forgetEntriesOutside 2 = .ok (.iconst 0, 1) := by decide +kernel
theorem d_forgetEntriesOutside_3 : decode b_forgetEntriesOutside 3 = .ok (.istore 4, 2) := by decide +kernel
theorem d_forgetEntriesOutside_5 : decode b_forgetEntriesOutside 5 = .ok (.iload 4, 2) := by decide +kernel
theorem d_forgetEntriesOutside_7 : decode b_forgetEntriesOutside 7 = .ok (.aload_n 0, 1) := by decide +kernel
theorem d_forgetEntriesOutside_8 : decode b_forgetEntriesOutside 8 = .ok (.getfield 25, 3) := by decide +kernel
theorem d_forgetEntriesOutside_11 : decode b_forgetEntriesOutside 11 = .ok (.iload_n 1, 1) := by decide +kernel
theorem d_forgetEntriesOutside_12 : decode b_forgetEntriesOutside 12 = .ok (.iaload, 1) := by decide +kernel
theorem d_forgetEntriesOutside_13 : decode b_forgetEntriesOutside 13 = .ok (.if_icmp .ge 38, 3) := by decide +kernel
theorem d_forgetEntriesOutside_16 : decode b_forgetEntriesOutside 16 = .ok (.iload_n 2, 1) := by decide +kernel
theorem d_forgetEntriesOutside_17 : decode b_forgetEntriesOutside 17 = .ok (.aload_n 0, 1) := by decide +kernel
theorem d_forgetEntriesOutside_18 : decode b_forgetEntriesOutside 18 = .ok (.getfield 19, 3) := by decide +kernel
theorem d_forgetEntriesOutside_21 : decode b_forgetEntriesOutside 21 = .ok (.iload_n 1, 1) := by decide +kernel
theorem d_forgetEntriesOutside_22 : decode b_forgetEntriesOutside 22 = .ok (.iload 4, 2) := by decide +kernel
theorem d_forgetEntriesOutside_24 : decode b_forgetEntriesOutside 24 = .ok (.invokestatic 86, 3) := by decide +kernel
theorem d_forgetEntriesOutside_27 : decode b_forgetEntriesOutside 27 = .ok (.iaload, 1) := by decide +kernel
theorem d_forgetEntriesOutside_28 : decode b_forgetEntriesOutside 28 = .ok (.invokestatic 152, 3) := by decide +kernel
theorem d_forgetEntriesOutside_31 : decode b_forgetEntriesOutside 31 = .ok (.ifCond .eq 14, 3) := by decide +kernel
theorem d_forgetEntriesOutside_34 : decode b_forgetEntriesOutside 34 = .ok (.aload_n 0, 1) := by decide +kernel
theorem d_forgetEntriesOutside_35 : decode b_forgetEntriesOutside 35 = .ok (.iload_n 1, 1) := by decide +kernel
theorem d_forgetEntriesOutside_36 : decode b_forgetEntriesOutside 36 = .ok (.iload 4, 2) := by decide +kernel
theorem d_forgetEntriesOutside_38 : decode b_forgetEntriesOutside 38 = .ok (.iload_n 3, 1) := by decide +kernel
theorem d_forgetEntriesOutside_39 : decode b_forgetEntriesOutside 39 = .ok (.invokevirtual 177, 3) := by decide +kernel
theorem d_forgetEntriesOutside_42 : decode b_forgetEntriesOutside 42 = .ok (.iinc 3 1, 3) := by decide +kernel
theorem d_forgetEntriesOutside_45 : decode b_forgetEntriesOutside 45 = .ok (.iinc 4 1, 3) := by decide +kernel
theorem d_forgetEntriesOutside_48 : decode b_forgetEntriesOutside 48 = .ok (.goto (-43), 3) := by decide +kernel
theorem d_forgetEntriesOutside_51 : decode b_forgetEntriesOutside 51 = .ok (.aload_n 0, 1) := by decide +kernel
theorem d_forgetEntriesOutside_52 : decode b_forgetEntriesOutside 52 = .ok (.getfield 25, 3) := by decide +kernel
theorem d_forgetEntriesOutside_55 : decode b_forgetEntriesOutside 55 = .ok (.iload_n 1, 1) := by decide +kernel
theorem d_forgetEntriesOutside_56 : decode b_forgetEntriesOutside 56 = .ok (.iload_n 3, 1) := by decide +kernel
theorem d_forgetEntriesOutside_57 : decode b_forgetEntriesOutside 57 = .ok (.iastore, 1) := by decide +kernel
theorem d_forgetEntriesOutside_58 : decode b_forgetEntriesOutside 58 = .ok (.return_, 1) := by decide +kernel
theorem d_queueWaiting_0 : decode b_queueWaiting 0 = .ok (.iconst 0, 1) := by decide +kernel
theorem d_queueWaiting_1 : decode b_queueWaiting 1 = .ok (.istore_n 2, 1) := by decide +kernel
theorem d_queueWaiting_2 : decode b_queueWaiting 2 = .ok (.iload_n 2, 1) := by decide +kernel
theorem d_queueWaiting_3 : decode b_queueWaiting 3 = .ok (.bipush 24, 2) := by decide +kernel
theorem d_queueWaiting_5 : decode b_queueWaiting 5 = .ok (.if_icmp .ge 63, 3) := by decide +kernel
theorem d_queueWaiting_8 : decode b_queueWaiting 8 = .ok (.iload_n 1, 1) := by decide +kernel
theorem d_queueWaiting_9 : decode b_queueWaiting 9 = .ok (.iload_n 2, 1) := by decide +kernel
theorem d_queueWaiting_10 : decode b_queueWaiting 10 = .ok (.invokestatic 152, 3) := by decide +kernel
theorem d_queueWaiting_13 : decode b_queueWaiting 13 = .ok (.ifCond .eq 49, 3) := by decide +kernel
theorem d_queueWaiting_16 : decode b_queueWaiting 16 = .ok (.aload_n 0, 1) := by decide +kernel
theorem d_queueWaiting_17 : decode b_queueWaiting 17 = .ok (.getfield 28, 3) := by decide +kernel
theorem d_queueWaiting_20 : decode b_queueWaiting 20 = .ok (.iload_n 2, 1) := by decide +kernel
theorem d_queueWaiting_21 : decode b_queueWaiting 21 = .ok (.iaload, 1) := by decide +kernel
theorem d_queueWaiting_22 : decode b_queueWaiting 22 = .ok (.iconst 1, 1) := by decide +kernel
theorem d_queueWaiting_23 : decode b_queueWaiting 23 = .ok (.if_icmp .ne 39, 3) := by decide +kernel
theorem d_queueWaiting_26 : decode b_queueWaiting 26 = .ok (.aload_n 0, 1) := by decide +kernel
theorem d_queueWaiting_27 : decode b_queueWaiting 27 = .ok (.getfield 138, 3) := by decide +kernel
theorem d_queueWaiting_30 : decode b_queueWaiting 30 = .ok (.bipush 24, 2) := by decide +kernel
theorem d_queueWaiting_32 : decode b_queueWaiting 32 = .ok (.if_icmp .ge 30, 3) := by decide +kernel
theorem d_queueWaiting_35 : decode b_queueWaiting 35 = .ok (.aload_n 0, 1) := by decide +kernel
theorem d_queueWaiting_36 : decode b_queueWaiting 36 = .ok (.getfield 28, 3) := by decide +kernel
theorem d_queueWaiting_39 : decode b_queueWaiting 39 = .ok (.iload_n 2, 1) := by decide +kernel
theorem d_queueWaiting_40 : decode b_queueWaiting 40 = .ok (.iconst 2, 1) := by decide +kernel
theorem d_queueWaiting_41 : decode b_queueWaiting 41 = .ok (.iastore, 1) := by decide +kernel
theorem d_queueWaiting_42 : decode b_queueWaiting 42 = .ok (.aload_n 0, 1) := by decide +kernel
theorem d_queueWaiting_43 : decode b_queueWaiting 43 = .ok (.getfield 40, 3) := by decide +kernel
theorem d_queueWaiting_46 : decode b_queueWaiting 46 = .ok (.aload_n 0, 1) := by decide +kernel
theorem d_queueWaiting_47 : decode b_queueWaiting 47 = .ok (.getfield 138, 3) := by decide +kernel
theorem d_queueWaiting_50 : decode b_queueWaiting 50 = .ok (.iload_n 2, 1) := by decide +kernel
theorem d_queueWaiting_51 : decode b_queueWaiting 51 = .ok (.iastore, 1) := by decide +kernel
theorem d_queueWaiting_52 : decode b_queueWaiting 52 = .ok (.aload_n 0, 1) := by decide +kernel
theorem d_queueWaiting_53 : decode b_queueWaiting 53 = .ok (.dup, 1) := by decide +kernel
theorem d_queueWaiting_54 : decode b_queueWaiting 54 = .ok (.getfield 138, 3) := by decide +kernel
theorem d_queueWaiting_57 : decode b_queueWaiting 57 = .ok (.iconst 1, 1) := by decide +kernel
theorem d_queueWaiting_58 : decode b_queueWaiting 58 = .ok (.iadd, 1) := by decide +kernel
theorem d_queueWaiting_59 : decode b_queueWaiting 59 = .ok (.putfield 138, 3) := by decide +kernel
theorem d_queueWaiting_62 : decode b_queueWaiting 62 = .ok (.iinc 2 1, 3) := by decide +kernel
theorem d_queueWaiting_65 : decode b_queueWaiting 65 = .ok (.goto (-63), 3) := by decide +kernel
theorem d_queueWaiting_68 : decode b_queueWaiting 68 = .ok (.return_, 1) := by decide +kernel
theorem d_takeFirstQueued_0 : decode b_takeFirstQueued 0 = .ok (.aload_n 0, 1) := by decide +kernel
theorem d_takeFirstQueued_1 : decode b_takeFirstQueued 1 = .ok (.getfield 40, 3) := by decide +kernel
theorem d_takeFirstQueued_4 : decode b_takeFirstQueued 4 = .ok (.iconst 0, 1) := by decide +kernel
theorem d_takeFirstQueued_5 : decode b_takeFirstQueued 5 = .ok (.iaload, 1) := by decide +kernel
theorem d_takeFirstQueued_6 : decode b_takeFirstQueued 6 = .ok (.istore_n 1, 1) := by decide +kernel
theorem d_takeFirstQueued_7 : decode b_takeFirstQueued 7 = .ok (.aload_n 0, 1) := by decide +kernel
theorem d_takeFirstQueued_8 : decode b_takeFirstQueued 8 = .ok (.dup, 1) := by decide +kernel
theorem d_takeFirstQueued_9 : decode b_takeFirstQueued 9 = .ok (.getfield 138, 3) := by decide +kernel
theorem d_takeFirstQueued_12 : decode b_takeFirstQueued 12 = .ok (.iconst 1, 1) := by decide +kernel
theorem d_takeFirstQueued_13 : decode b_takeFirstQueued 13 = .ok (.isub, 1) := by decide +kernel
theorem d_takeFirstQueued_14 : decode b_takeFirstQueued 14 = .ok (.putfield 138, 3) := by decide +kernel
theorem d_takeFirstQueued_17 : decode b_takeFirstQueued 17 = .ok (.iconst 0, 1) := by decide +kernel
theorem d_takeFirstQueued_18 : decode b_takeFirstQueued 18 = .ok (.istore_n 2, 1) := by decide +kernel
theorem d_takeFirstQueued_19 : decode b_takeFirstQueued 19 = .ok (.iload_n 2, 1) := by decide +kernel
theorem d_takeFirstQueued_20 : decode b_takeFirstQueued 20 = .ok (.aload_n 0, 1) := by decide +kernel
theorem d_takeFirstQueued_21 : decode b_takeFirstQueued 21 = .ok (.getfield 138, 3) := by decide +kernel
theorem d_takeFirstQueued_24 : decode b_takeFirstQueued 24 = .ok (.if_icmp .ge 23, 3) := by decide +kernel
theorem d_takeFirstQueued_27 : decode b_takeFirstQueued 27 = .ok (.aload_n 0, 1) := by decide +kernel
theorem d_takeFirstQueued_28 : decode b_takeFirstQueued 28 = .ok (.getfield 40, 3) := by decide +kernel
theorem d_takeFirstQueued_31 : decode b_takeFirstQueued 31 = .ok (.iload_n 2, 1) := by decide +kernel
theorem d_takeFirstQueued_32 : decode b_takeFirstQueued 32 = .ok (.aload_n 0, 1) := by decide +kernel
theorem d_takeFirstQueued_33 : decode b_takeFirstQueued 33 = .ok (.getfield 40, 3) := by decide +kernel
theorem d_takeFirstQueued_36 : decode b_takeFirstQueued 36 = .ok (.iload_n 2, 1) := by decide +kernel
theorem d_takeFirstQueued_37 : decode b_takeFirstQueued 37 = .ok (.iconst 1, 1) := by decide +kernel
theorem d_takeFirstQueued_38 : decode b_takeFirstQueued 38 = .ok (.iadd, 1) := by decide +kernel
theorem d_takeFirstQueued_39 : decode b_takeFirstQueued 39 = .ok (.iaload, 1) := by decide +kernel
theorem d_takeFirstQueued_40 : decode b_takeFirstQueued 40 = .ok (.iastore, 1) := by decide +kernel
theorem d_takeFirstQueued_41 : decode b_takeFirstQueued 41 = .ok (.iinc 2 1, 3) := by decide +kernel
theorem d_takeFirstQueued_44 : decode b_takeFirstQueued 44 = .ok (.goto (-25), 3) := by decide +kernel
theorem d_takeFirstQueued_47 : decode b_takeFirstQueued 47 = .ok (.iload_n 1, 1) := by decide +kernel
theorem d_takeFirstQueued_48 : decode b_takeFirstQueued 48 = .ok (.ireturn, 1) := by decide +kernel
theorem d_performAction_0 : decode b_performAction 0 = .ok (.aload_n 0, 1) := by decide +kernel
theorem d_performAction_1 : decode b_performAction 1 = .ok (.getfield 31, 3) := by decide +kernel
theorem d_performAction_4 : decode b_performAction 4 = .ok (.iload_n 1, 1) := by decide +kernel
theorem d_performAction_5 : decode b_performAction 5 = .ok (.iaload, 1) := by decide +kernel
theorem d_performAction_6 : decode b_performAction 6 = .ok (.tableswitch 82 1 3 #[26, 41, 74], 26) := by decide +kernel
theorem d_performAction_32 : decode b_performAction 32 = .ok (.aload_n 0, 1) := by decide +kernel
theorem d_performAction_33 : decode b_performAction 33 = .ok (.getfield 37, 3) := by decide +kernel
theorem d_performAction_36 : decode b_performAction 36 = .ok (.aload_n 0, 1) := by decide +kernel
theorem d_performAction_37 : decode b_performAction 37 = .ok (.getfield 34, 3) := by decide +kernel
theorem d_performAction_40 : decode b_performAction 40 = .ok (.iload_n 1, 1) := by decide +kernel
theorem d_performAction_41 : decode b_performAction 41 = .ok (.iaload, 1) := by decide +kernel
theorem d_performAction_42 : decode b_performAction 42 = .ok (.iload_n 1, 1) := by decide +kernel
theorem d_performAction_43 : decode b_performAction 43 = .ok (.iastore, 1) := by decide +kernel
theorem d_performAction_44 : decode b_performAction 44 = .ok (.goto 44, 3) := by decide +kernel
theorem d_performAction_47 : decode b_performAction 47 = .ok (.aload_n 0, 1) := by decide +kernel
theorem d_performAction_48 : decode b_performAction 48 = .ok (.getfield 9, 3) := by decide +kernel
theorem d_performAction_51 : decode b_performAction 51 = .ok (.iload_n 1, 1) := by decide +kernel
theorem d_performAction_52 : decode b_performAction 52 = .ok (.iaload, 1) := by decide +kernel
theorem d_performAction_53 : decode b_performAction 53 = .ok (.ifCond .ne 35, 3) := by decide +kernel
theorem d_performAction_56 : decode b_performAction 56 = .ok (.aload_n 0, 1) := by decide +kernel
theorem d_performAction_57 : decode b_performAction 57 = .ok (.getfield 37, 3) := by decide +kernel
theorem d_performAction_60 : decode b_performAction 60 = .ok (.aload_n 0, 1) := by decide +kernel
theorem d_performAction_61 : decode b_performAction 61 = .ok (.getfield 34, 3) := by decide +kernel
theorem d_performAction_64 : decode b_performAction 64 = .ok (.iload_n 1, 1) := by decide +kernel
theorem d_performAction_65 : decode b_performAction 65 = .ok (.iaload, 1) := by decide +kernel
theorem d_performAction_66 : decode b_performAction 66 = .ok (.aload_n 0, 1) := by decide +kernel
theorem d_performAction_67 : decode b_performAction 67 = .ok (.getfield 16, 3) := by decide +kernel
theorem d_performAction_70 : decode b_performAction 70 = .ok (.iload_n 1, 1) := by decide +kernel
theorem d_performAction_71 : decode b_performAction 71 = .ok (.iconst 0, 1) := by decide +kernel
theorem d_performAction_72 : decode b_performAction 72 = .ok (.invokestatic 76, 3) := by decide +kernel
theorem d_performAction_75 : decode b_performAction 75 = .ok (.iaload, 1) := by decide +kernel
theorem d_performAction_76 : decode b_performAction 76 = .ok (.iastore, 1) := by decide +kernel
theorem d_performAction_77 : decode b_performAction 77 = .ok (.goto 11, 3) := by decide +kernel
theorem d_performAction_80 : decode b_performAction 80 = .ok (.aload_n 0, 1) := by decide +kernel
theorem d_performAction_81 : decode b_performAction 81 = .ok (.iload_n 1, 1) := by decide +kernel
theorem d_performAction_82 : decode b_performAction 82 = .ok (.invokevirtual 174, 3) := by decide +kernel
theorem d_performAction_85 : decode b_performAction 85 = .ok (.goto 3, 3) := by decide +kernel
theorem d_performAction_88 : decode b_performAction 88 = .ok (.return_, 1) := by decide +kernel
