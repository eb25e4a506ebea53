theorem d_m_init_0 : decode b_m_init 0 = .ok (.aload_n 0, 1) := by decide +kernel
theorem d_m_init_1 : decode b_m_init 1 = .ok (.invokespecial 1, 3) := by decide +kernel
theorem d_m_init_4 : decode b_m_init 4 = .ok (.aload_n 0, 1) := by decide +kernel
theorem d_m_init_5 : decode b_m_init 5 = .ok (.bipush 24, 2) := by decide +kernel
theorem d_m_init_7 : decode b_m_init 7 = .ok (.newarray .int, 2) := by decide +kernel
theorem d_m_init_9 : decode b_m_init 9 = .ok (.putfield 7, 3) := by decide +kernel
theorem d_m_init_12 : decode b_m_init 12 = .ok (.aload_n 0, 1) := by decide +kernel
theorem d_m_init_13 : decode b_m_init 13 = .ok (.bipush 24, 2) := by decide +kernel
theorem d_m_init_15 : decode b_m_init 15 = .ok (.newarray .int, 2) := by decide +kernel
theorem d_m_init_17 : decode b_m_init 17 = .ok (.putfield 13, 3) := by decide +kernel
theorem d_m_init_20 : decode b_m_init 20 = .ok (.aload_n 0, 1) := by decide +kernel
theorem d_m_init_21 : decode b_m_init 21 = .ok (.bipush 72, 2) := by decide +kernel
theorem d_m_init_23 : decode b_m_init 23 = .ok (.newarray .int, 2) := by decide +kernel
theorem d_m_init_25 : decode b_m_init 25 = .ok (.putfield 16, 3) := by decide +kernel
theorem d_m_init_28 : decode b_m_init 28 = .ok (.aload_n 0, 1) := by decide +kernel
theorem d_m_init_29 : decode b_m_init 29 = .ok (.bipush 24, 2) := by decide +kernel
theorem d_m_init_31 : decode b_m_init 31 = .ok (.newarray .int, 2) := by decide +kernel
theorem d_m_init_33 : decode b_m_init 33 = .ok (.putfield 19, 3) := by decide +kernel
theorem d_m_init_36 : decode b_m_init 36 = .ok (.aload_n 0, 1) := by decide +kernel
theorem d_m_init_37 : decode b_m_init 37 = .ok (.bipush 96, 2) := by decide +kernel
theorem d_m_init_39 : decode b_m_init 39 = .ok (.newarray .int, 2) := by decide +kernel
theorem d_m_init_41 : decode b_m_init 41 = .ok (.putfield 22, 3) := by decide +kernel
theorem d_m_init_44 : decode b_m_init 44 = .ok (.aload_n 0, 1) := by decide +kernel
theorem d_m_init_45 : decode b_m_init 45 = .ok (.bipush 96, 2) := by decide +kernel
theorem d_m_init_47 : decode b_m_init 47 = .ok (.newarray .int, 2) := by decide +kernel
theorem d_m_init_49 : decode b_m_init 49 = .ok (.putfield 25, 3) := by decide +kernel
theorem d_m_init_52 : decode b_m_init 52 = .ok (.aload_n 0, 1) := by decide +kernel
theorem d_m_init_53 : decode b_m_init 53 = .ok (.bipush 24, 2) := by decide +kernel
theorem d_m_init_55 : decode b_m_init 55 = .ok (.newarray .int, 2) := by decide +kernel
theorem d_m_init_57 : decode b_m_init 57 = .ok (.putfield 28, 3) := by decide +kernel
theorem d_m_init_60 : decode b_m_init 60 = .ok (.aload_n 0, 1) := by decide +kernel
theorem d_m_init_61 : decode b_m_init 61 = .ok (.bipush 24, 2) := by decide +kernel
theorem d_m_init_63 : decode b_m_init 63 = .ok (.newarray .int, 2) := by decide +kernel
theorem d_m_init_65 : decode b_m_init 65 = .ok (.putfield 31, 3) := by decide +kernel
theorem d_m_init_68 : decode b_m_init 68 = .ok (.aload_n 0, 1) := by decide +kernel
theorem d_m_init_69 : decode b_m_init 69 = .ok (.bipush 24, 2) := by decide +kernel
theorem d_m_init_71 : decode b_m_init 71 = .ok (.newarray .int, 2) := by decide +kernel
theorem d_m_init_73 : decode b_m_init 73 = .ok (.putfield 34, 3) := by decide +kernel
theorem d_m_init_76 : decode b_m_init 76 = .ok (.aload_n 0, 1) := by decide +kernel
theorem d_m_init_77 : decode b_m_init 77 = .ok (.bipush 6, 2) := by decide +kernel
theorem d_m_init_79 : decode b_m_init 79 = .ok (.newarray .int, 2) := by decide +kernel
theorem d_m_init_81 : decode b_m_init 81 = .ok (.putfield 37, 3) := by decide +kernel
theorem d_m_init_84 : decode b_m_init 84 = .ok (.aload_n 0, 1) := by decide +kernel
theorem d_m_init_85 : decode b_m_init 85 = .ok (.bipush 24, 2) := by decide +kernel
theorem d_m_init_87 : decode b_m_init 87 = .ok (.newarray .int, 2) := by decide +kernel
theorem d_m_init_89 : decode b_m_init 89 = .ok (.putfield 40, 3) := by decide +kernel
theorem d_m_init_92 : decode b_m_init 92 = .ok (.aload_n 0, 1) := by decide +kernel
theorem d_m_init_93 : decode b_m_init 93 = .ok (.bipush 24, 2) := by decide +kernel
theorem d_m_init_95 : decode b_m_init 95 = .ok (.newarray .boolean, 2) := by decide +kernel
theorem d_m_init_97 : decode b_m_init 97 = .ok (.putfield 43, 3) := by decide +kernel
theorem d_m_init_100 : decode b_m_init 100 = .ok (.iconst 0, 1) := by decide +kernel
theorem d_m_init_101 : decode b_m_init 101 = .ok (.istore_n 1, 1) := by decide +kernel
theorem d_m_init_102 : decode b_m_init 102 = .ok (.iload_n 1, 1) := by decide +kernel
theorem d_m_init_103 : decode b_m_init 103 = .ok (.bipush 24, 2) := by decide +kernel
theorem d_m_init_105 : decode b_m_init 105 = .ok (.if_icmp .ge 16, 3) := by decide +kernel
theorem d_m_init_108 : decode b_m_init 108 = .ok (.aload_n 0, 1) := by decide +kernel
theorem d_m_init_109 : decode b_m_init 109 = .ok (.getfield 7, 3) := by decide +kernel
theorem d_m_init_112 : decode b_m_init 112 = .ok (.iload_n 1, 1) := by decide +kernel
theorem d_m_init_113 : decode b_m_init 113 = .ok (.iconst (-1), 1) := by decide +kernel
theorem d_m_init_114 : decode b_m_init 114 = .ok (.iastore, 1) := by decide +kernel
theorem d_m_init_115 : decode b_m_init 115 = .ok (.iinc 1 1, 3) := by decide +kernel
theorem d_m_init_118 : decode b_m_init 118 = .ok (.goto (-16), 3) := by decide +kernel
theorem d_m_init_121 : decode b_m_init 121 = .ok (.iconst 0, 1) := by decide +kernel
theorem d_m_init_122 : decode b_m_init 122 = .ok (.istore_n 1, 1) := by decide +kernel
theorem d_m_init_123 : decode b_m_init 123 = .ok (.iload_n 1, 1) := by decide +kernel
theorem d_m_init_124 : decode b_m_init 124 = .ok (.bipush 6, 2) := by decide +kernel
theorem d_m_init_126 : decode b_m_init 126 = .ok (.if_icmp .ge 16, 3) := by decide +kernel
theorem d_m_init_129 : decode b_m_init 129 = .ok (.aload_n 0, 1) := by decide +kernel
theorem d_m_init_130 : decode b_m_init 130 = .ok (.getfield 37, 3) := by decide +kernel
theorem d_m_init_133 : decode b_m_init 133 = .ok (.iload_n 1, 1) := by decide +kernel
theorem d_m_init_134 : decode b_m_init 134 = .ok (.iconst (-1), 1) := by decide +kernel
theorem d_m_init_135 : decode b_m_init 135 = .ok (.iastore, 1) := by decide +kernel
theorem d_m_init_136 : decode b_m_init 136 = .ok (.iinc 1 1, 3) := by decide +kernel
theorem d_m_init_139 : decode b_m_init 139 = .ok (.goto (-16), 3) := by decide +kernel
theorem d_m_init_142 : decode b_m_init 142 = .ok (.return_, 1) := by decide +kernel
theorem d_m_thrown_0 : decode b_m_thrown 0 = .ok (.aload_n 0, 1) := by decide +kernel
theorem d_m_thrown_1 : decode b_m_thrown 1 = .ok (.getfield 47, 3) := by decide +kernel
theorem d_m_thrown_4 : decode b_m_thrown 4 = .ok (.ireturn, 1) := by decide +kernel
theorem d_m_isThing_0 : decode b_m_isThing 0 = .ok (.iload_n 1, 1) := by decide +kernel
theorem d_m_isThing_1 : decode b_m_isThing 1 = .ok (.ifCond .lt 22, 3) := by decide +kernel
theorem d_m_isThing_4 : decode b_m_isThing 4 = .ok (.iload_n 1, 1) := by decide +kernel
theorem d_m_isThing_5 : decode b_m_isThing 5 = .ok (.bipush 24, 2) := by decide +kernel
theorem d_m_isThing_7 : decode b_m_isThing 7 = .ok (.if_icmp .ge 16, 3) := by decide +kernel
theorem d_m_isThing_10 : decode b_m_isThing 10 = .ok (.aload_n 0, 1) := by decide +kernel
theorem d_m_isThing_11 : decode b_m_isThing 11 = .ok (.getfield 7, 3) := by decide +kernel
theorem d_m_isThing_14 : decode b_m_isThing 14 = .ok (.iload_n 1, 1) := by decide +kernel
theorem d_m_isThing_15 : decode b_m_isThing 15 = .ok (.iaload, 1) := by decide +kernel
theorem d_m_isThing_16 : decode b_m_isThing 16 = .ok (.ifCond .lt 7, 3) := by decide +kernel
theorem d_m_isThing_19 : decode b_m_isThing 19 = .ok (.iconst 1, 1) := by decide +kernel
theorem d_m_isThing_20 : decode b_m_isThing 20 = .ok (.goto 4, 3) := by decide +kernel
theorem d_m_isThing_23 : decode b_m_isThing 23 = .ok (.iconst 0, 1) := by decide +kernel
theorem d_m_isThing_24 : decode b_m_isThing 24 = .ok (.ireturn, 1) := by decide +kernel
theorem d_m_isRoot_0 : decode b_m_isRoot 0 = .ok (.iload_n 0, 1) := by decide +kernel
theorem d_m_isRoot_1 : decode b_m_isRoot 1 = .ok (.ifCond .lt 13, 3) := by decide +kernel
theorem d_m_isRoot_4 : decode b_m_isRoot 4 = .ok (.iload_n 0, 1) := by decide +kernel
theorem d_m_isRoot_5 : decode b_m_isRoot 5 = .ok (.bipush 6, 2) := by decide +kernel
theorem d_m_isRoot_7 : decode b_m_isRoot 7 = .ok (.if_icmp .ge 7, 3) := by decide +kernel
theorem d_m_isRoot_10 : decode b_m_isRoot 10 = .ok (.iconst 1, 1) := by decide +kernel
theorem d_m_isRoot_11 : decode b_m_isRoot 11 = .ok (.goto 4, 3) := by decide +kernel
theorem d_m_isRoot_14 : decode b_m_isRoot 14 = .ok (.iconst 0, 1) := by decide +kernel
theorem d_m_isRoot_15 : decode b_m_isRoot 15 = .ok (.ireturn, 1) := by decide +kernel
theorem d_m_isField_0 : decode b_m_isField 0 = .ok (.iload_n 2, 1) := by decide +kernel
theorem d_m_isField_1 : decode b_m_isField 1 = .ok (.ifCond .lt 35, 3) := by decide +kernel
theorem d_m_isField_4 : decode b_m_isField 4 = .ok (.aload_n 0, 1) := by decide +kernel
theorem d_m_isField_5 : decode b_m_isField 5 = .ok (.getfield 7, 3) := by decide +kernel
theorem d_m_isField_8 : decode b_m_isField 8 = .ok (.iload_n 1, 1) := by decide +kernel
theorem d_m_isField_9 : decode b_m_isField 9 = .ok (.iaload, 1) := by decide +kernel
theorem d_m_isField_10 : decode b_m_isField 10 = .ok (.ifCond .ne 8, 3) := by decide +kernel
theorem d_m_isField_13 : decode b_m_isField 13 = .ok (.iload_n 2, 1) := by decide +kernel
theorem d_m_isField_14 : decode b_m_isField 14 = .ok (.iconst 3, 1) := by decide +kernel
theorem d_m_isField_15 : decode b_m_isField 15 = .ok (.if_icmp .lt 17, 3) := by decide +kernel
theorem d_m_isField_18 : decode b_m_isField 18 = .ok (.aload_n 0, 1) := by decide +kernel
theorem d_m_isField_19 : decode b_m_isField 19 = .ok (.getfield 7, 3) := by decide +kernel
theorem d_m_isField_22 : decode b_m_isField 22 = .ok (.iload_n 1, 1) := by decide +kernel
theorem d_m_isField_23 : decode b_m_isField 23 = .ok (.iaload, 1) := by decide +kernel
theorem d_m_isField_24 : decode b_m_isField 24 = .ok (.iconst 1, 1) := by decide +kernel
theorem d_m_isField_25 : decode b_m_isField 25 = .ok (.if_icmp .ne 11, 3) := by decide +kernel
theorem d_m_isField_28 : decode b_m_isField 28 = .ok (.iload_n 2, 1) := by decide +kernel
theorem d_m_isField_29 : decode b_m_isField 29 = .ok (.ifCond .ne 7, 3) := by decide +kernel
theorem d_m_isField_32 : decode b_m_isField 32 = .ok (.iconst 1, 1) := by decide +kernel
theorem d_m_isField_33 : decode b_m_isField 33 = .ok (.goto 4, 3) := by decide +kernel
theorem d_m_isField_36 : decode b_m_isField 36 = .ok (.iconst 0, 1) := by decide +kernel
theorem d_m_isField_37 : decode b_m_isField 37 = .ok (.ireturn, 1) := by decide +kernel
theorem d_m_freeCell_0 : decode b_m_freeCell 0 = .ok (.iconst (-1), 1) := by decide +kernel
theorem d_m_freeCell_1 : decode b_m_freeCell 1 = .ok (.istore_n 1, 1) := by decide +kernel
theorem d_m_freeCell_2 : decode b_m_freeCell 2 = .ok (.bipush 23, 2) := by decide +kernel
theorem d_m_freeCell_4 : decode b_m_freeCell 4 = .ok (.istore_n 2, 1) := by decide +kernel
theorem d_m_freeCell_5 : decode b_m_freeCell 5 = .ok (.iload_n 2, 1) := by decide +kernel
theorem d_m_freeCell_6 : decode b_m_freeCell 6 = .ok (.ifCond .lt 24, 3) := by decide +kernel
theorem d_m_freeCell_9 : decode b_m_freeCell 9 = .ok (.aload_n 0, 1) := by decide +kernel
theorem d_m_freeCell_10 : decode b_m_freeCell 10 = .ok (.getfield 7, 3) := by decide +kernel
theorem d_m_freeCell_13 : decode b_m_freeCell 13 = .ok (.iload_n 2, 1) := by decide +kernel
theorem d_m_freeCell_14 : decode b_m_freeCell 14 = .ok (.iaload, 1) := by decide +kernel
theorem d_m_freeCell_15 : decode b_m_freeCell 15 = .ok (.ifCond .ge 7, 3) := by decide +kernel
theorem d_m_freeCell_18 : decode b_m_freeCell 18 = .ok (.iload_n 2, 1) := by decide +kernel
theorem d_m_freeCell_19 : decode b_m_freeCell 19 = .ok (.goto 4, 3) := by decide +kernel
theorem d_m_freeCell_22 : decode b_m_freeCell 22 = .ok (.iload_n 1, 1) := by decide +kernel
theorem d_m_freeCell_23 : decode b_m_freeCell 23 = .ok (.istore_n 1, 1) := by decide +kernel
theorem d_m_freeCell_24 : decode b_m_freeCell 24 = .ok (.iinc 2 (-1), 3) := by decide +kernel
theorem d_m_freeCell_27 : decode b_m_freeCell 27 = .ok (.goto (-22), 3) := by decide +kernel
theorem d_m_freeCell_30 : decode b_m_freeCell 30 = .ok (.iload_n 1, 1) := by decide +kernel
theorem d_m_freeCell_31 : decode b_m_freeCell 31 = .ok (.ireturn, 1) := by decide +kernel
theorem d_m_make_0 : decode b_m_make 0 = .ok (.aload_n 0, 1) := by decide +kernel
theorem d_m_make_1 : decode b_m_make 1 = .ok (.iload_n 1, 1) := by decide +kernel
theorem d_m_make_2 : decode b_m_make 2 = .ok (.ifCond .lt 8, 3) := by decide +kernel
theorem d_m_make_5 : decode b_m_make 5 = .ok (.iload_n 1, 1) := by decide +kernel
theorem d_m_make_6 : decode b_m_make 6 = .ok (.iconst 2, 1) := by decide +kernel
theorem d_m_make_7 : decode b_m_make 7 = .ok (.if_icmp .le 7, 3) := by decide +kernel
theorem d_m_make_10 : decode b_m_make 10 = .ok (.iconst 1, 1) := by decide +kernel
theorem d_m_make_11 : decode b_m_make 11 = .ok (.goto 4, 3) := by decide +kernel
theorem d_m_make_14 : decode b_m_make 14 = .ok (.iconst 0, 1) := by decide +kernel
theorem d_m_make_15 : decode b_m_make 15 = .ok (.putfield 47, 3) := by decide +kernel
theorem d_m_make_18 : decode b_m_make 18 = .ok (.aload_n 0, 1) := by decide +kernel
theorem d_m_make_19 : decode b_m_make 19 = .ok (.getfield 47, 3) := by decide +kernel
theorem d_m_make_22 : decode b_m_make 22 = .ok (.ifCond .le 5, 3) := by decide +kernel
theorem d_m_make_25 : decode b_m_make 25 = .ok (.iconst 0, 1) := by decide +kernel
theorem d_m_make_26 : decode b_m_make 26 = .ok (.ireturn, 1) := by decide +kernel
theorem d_m_make_27 : decode b_m_make 27 = .ok (.aload_n 0, 1) := by decide +kernel
theorem d_m_make_28 : decode b_m_make 28 = .ok (.invokevirtual 51, 3) := by decide +kernel
theorem d_m_make_31 : decode b_m_make 31 = .ok (.ifCond .ge 8, 3) := by decide +kernel
theorem d_m_make_34 : decode b_m_make 34 = .ok (.aload_n 0, 1) := by decide +kernel
theorem d_m_make_35 : decode b_m_make 35 = .ok (.invokevirtual 55, 3) := by decide +kernel
theorem d_m_make_38 : decode b_m_make 38 = .ok (.pop, 1) := by decide +kernel
theorem d_m_make_39 : decode b_m_make 39 = .ok (.aload_n 0, 1) := by decide +kernel
theorem d_m_make_40 : decode b_m_make 40 = .ok (.invokevirtual 51, 3) := by decide +kernel
theorem d_m_make_43 : decode b_m_make 43 = .ok (.istore_n 2, 1) := by decide +kernel
theorem d_m_make_44 : decode b_m_make 44 = .ok (.aload_n 0, 1) := by decide +kernel
theorem d_m_make_45 : decode b_m_make 45 = .ok (.iload_n 2, 1) := by decide +kernel
theorem d_m_make_46 : decode b_m_make 46 = .ok (.ifCond .ge 7, 3) := by decide +kernel
theorem d_m_make_49 : decode b_m_make 49 = .ok (.iconst 2, 1) := by decide +kernel
theorem d_m_make_50 : decode b_m_make 50 = .ok (.goto 4, 3) := by decide +kernel
theorem d_m_make_53 : decode b_m_make 53 = .ok (.iconst 0, 1) := by decide +kernel
theorem d_m_make_54 : decode b_m_make 54 = .ok (.putfield 47, 3) := by decide +kernel
theorem d_m_make_57 : decode b_m_make 57 = .ok (.aload_n 0, 1) := by decide +kernel
theorem d_m_make_58 : decode b_m_make 58 = .ok (.getfield 47, 3) := by decide +kernel
theorem d_m_make_61 : decode b_m_make 61 = .ok (.ifCond .le 5, 3) := by decide +kernel
theorem d_m_make_64 : decode b_m_make 64 = .ok (.iconst 0, 1) := by decide +kernel
theorem d_m_make_65 : decode b_m_make 65 = .ok (.ireturn, 1) := by decide +kernel
theorem d_m_make_66 : decode b_m_make 66 = .ok (.aload_n 0, 1) := by decide +kernel
theorem d_m_make_67 : decode b_m_make 67 = .ok (.dup, 1) := by decide +kernel
theorem d_m_make_68 : decode b_m_make 68 = .ok (.getfield 58, 3) := by decide +kernel
theorem d_m_make_71 : decode b_m_make 71 = .ok (.iconst 1, 1) := by decide +kernel
theorem d_m_make_72 : decode b_m_make 72 = .ok (.iadd, 1) := by decide +kernel
theorem d_m_make_73 : decode b_m_make 73 = .ok (.putfield 58, 3) := by decide +kernel
theorem d_m_make_76 : decode b_m_make 76 = .ok (.aload_n 0, 1) := by decide +kernel
theorem d_m_make_77 : decode b_m_make 77 = .ok (.getfield 7, 3) := by decide +kernel
theorem d_m_make_80 : decode b_m_make 80 = .ok (.iload_n 2, 1) := by decide +kernel
theorem d_m_make_81 : decode b_m_make 81 = .ok (.iload_n 1, 1) := by decide +kernel
theorem d_m_make_82 : decode b_m_make 82 = .ok (.iastore, 1) := by decide +kernel
theorem d_m_make_83 : decode b_m_make 83 = .ok (.aload_n 0, 1) := by decide +kernel
theorem d_m_make_84 : decode b_m_make 84 = .ok (.getfield 13, 3) := by decide +kernel
theorem d_m_make_87 : decode b_m_make 87 = .ok (.iload_n 2, 1) := by decide +kernel
theorem d_m_make_88 : decode b_m_make 88 = .ok (.aload_n 0, 1) := by decide +kernel
theorem d_m_make_89 : decode b_m_make 89 = .ok (.getfield 58, 3) := by decide +kernel
theorem d_m_make_92 : decode b_m_make 92 = .ok (.iastore, 1) := by decide +kernel
theorem d_m_make_93 : decode b_m_make 93 = .ok (.aload_n 0, 1) := by decide +kernel
theorem d_m_make_94 : decode b_m_make 94 = .ok (.getfield 28, 3) := by decide +kernel
theorem d_m_make_97 : decode b_m_make 97 = .ok (.iload_n 2, 1) := by decide +kernel
theorem d_m_make_98 : decode b_m_make 98 = .ok (.iconst 0, 1) := by decide +kernel
theorem d_m_make_99 : decode b_m_make 99 = .ok (.iastore, 1) := by decide +kernel
theorem d_m_make_100 : decode b_m_make 100 = .ok (.aload_n 0, 1) := by decide +kernel
theorem d_m_make_101 : decode b_m_make 101 = .ok (.iload_n 2, 1) := by decide +kernel
theorem d_m_make_102 : decode b_m_make 102 = .ok (.invokevirtual 61, 3) := by decide +kernel
theorem d_m_make_105 : decode b_m_make 105 = .ok (.iload_n 2, 1) := by decide +kernel
theorem d_m_make_106 : decode b_m_make 106 = .ok (.ireturn, 1) := by decide +kernel
theorem d_m_lose_0 : decode b_m_lose 0 = .ok (.iconst 0, 1) := by decide +kernel
theorem d_m_lose_1 : decode b_m_lose 1 = .ok (.istore_n 2, 1) := by decide +kernel
theorem d_m_lose_2 : decode b_m_lose 2 = .ok (.iload_n 2, 1) := by decide +kernel
theorem d_m_lose_3 : decode b_m_lose 3 = .ok (.iconst 3, 1) := by decide +kernel
theorem d_m_lose_4 : decode b_m_lose 4 = .ok (.if_icmp .ge 20, 3) := by decide +kernel
theorem d_m_lose_7 : decode b_m_lose 7 = .ok (.aload_n 0, 1) := by decide +kernel
theorem d_m_lose_8 : decode b_m_lose 8 = .ok (.getfield 16, 3) := by decide +kernel
theorem d_m_lose_11 : decode b_m_lose 11 = .ok (.iconst 3, 1) := by decide +kernel
theorem d_m_lose_12 : decode b_m_lose 12 = .ok (.iload_n 1, 1) := by decide +kernel
theorem d_m_lose_13 : decode b_m_lose 13 = .ok (.imul, 1) := by decide +kernel
theorem d_m_lose_14 : decode b_m_lose 14 = .ok (.iload_n 2, 1) := by decide +kernel
theorem d_m_lose_15 : decode b_m_lose 15 = .ok (.iadd, 1) := by decide +kernel
theorem d_m_lose_16 : decode b_m_lose 16 = .ok (.iconst (-1), 1) := by decide +kernel
theorem d_m_lose_17 : decode b_m_lose 17 = .ok (.iastore, 1) := by decide +kernel
theorem d_m_lose_18 : decode b_m_lose 18 = .ok (.iinc 2 1, 3) := by decide +kernel
theorem d_m_lose_21 : decode b_m_lose 21 = .ok (.goto (-19), 3) := by decide +kernel
theorem d_m_lose_24 : decode b_m_lose 24 = .ok (.aload_n 0, 1) := by decide +kernel
theorem d_m_lose_25 : decode b_m_lose 25 = .ok (.getfield 19, 3) := by decide +kernel
theorem d_m_lose_28 : decode b_m_lose 28 = .ok (.iload_n 1, 1) := by decide +kernel
theorem d_m_lose_29 : decode b_m_lose 29 = .ok (.iconst 0, 1) := by decide +kernel
theorem d_m_lose_30 : decode b_m_lose 30 = .ok (.iastore, 1) := by decide +kernel
theorem d_m_lose_31 : decode b_m_lose 31 = .ok (.return_, 1) := by decide +kernel
theorem d_m_set_0 : decode b_m_set 0 = .ok (.aload_n 0, 1) := by decide +kernel
theorem d_m_set_1 : decode b_m_set 1 = .ok (.aload_n 0, 1) := by decide +kernel
theorem d_m_set_2 : decode b_m_set 2 = .ok (.iload_n 1, 1) := by decide +kernel
theorem d_m_set_3 : decode b_m_set 3 = .ok (.invokevirtual 65, 3) := by decide +kernel
theorem d_m_set_6 : decode b_m_set 6 = .ok (.ifCond .eq 16, 3) := by decide +kernel
theorem d_m_set_9 : decode b_m_set 9 = .ok (.iload_n 3, 1) := by decide +kernel
theorem d_m_set_10 : decode b_m_set 10 = .ok (.iconst (-1), 1) := by decide +kernel
theorem d_m_set_11 : decode b_m_set 11 = .ok (.if_icmp .eq 15, 3) := by decide +kernel
theorem d_m_set_14 : decode b_m_set 14 = .ok (.aload_n 0, 1) := by decide +kernel
theorem d_m_set_15 : decode b_m_set 15 = .ok (.iload_n 3, 1) := by decide +kernel
theorem d_m_set_16 : decode b_m_set 16 = .ok (.invokevirtual 65, 3) := by decide +kernel
theorem d_m_set_19 : decode b_m_set 19 = .ok (.ifCond .ne 7, 3) := by decide +kernel
theorem d_m_set_22 : decode b_m_set 22 = .ok (.iconst 1, 1) := by decide +kernel
theorem d_m_set_23 : decode b_m_set 23 = .ok (.goto 17, 3) := by decide +kernel
theorem d_m_set_26 : decode b_m_set 26 = .ok (.aload_n 0, 1) := by decide +kernel
theorem d_m_set_27 : decode b_m_set 27 = .ok (.iload_n 1, 1) := by decide +kernel
theorem d_m_set_28 : decode b_m_set 28 = .ok (.iload_n 2, 1) := by decide +kernel
theorem d_m_set_29 : decode b_m_set 29 = .ok (.invokevirtual 69, 3) := by decide +kernel
theorem d_m_set_32 : decode b_m_set 32 = .ok (.ifCond .ne 7, 3) := by decide +kernel
theorem d_m_set_35 : decode b_m_set 35 = .ok (.iconst 2, 1) := by decide +kernel
theorem d_m_set_36 : decode b_m_set 36 = .ok (.goto 4, 3) := by decide +kernel
theorem d_m_set_39 : decode b_m_set 39 = .ok (.iconst 0, 1) := by decide +kernel
theorem d_m_set_40 : decode b_m_set 40 = .ok (.putfield 47, 3) := by decide +kernel
theorem d_m_set_43 : decode b_m_set 43 = .ok (.aload_n 0, 1) := by decide +kernel
theorem d_m_set_44 : decode b_m_set 44 = .ok (.getfield 47, 3) := by decide +kernel
theorem d_m_set_47 : decode b_m_set 47 = .ok (.ifCond .ne 14, 3) := by decide +kernel
theorem d_m_set_50 : decode b_m_set 50 = .ok (.aload_n 0, 1) := by decide +kernel
theorem d_m_set_51 : decode b_m_set 51 = .ok (.getfield 16, 3) := by decide +kernel
theorem d_m_set_54 : decode b_m_set 54 = .ok (.iconst 3, 1) := by decide +kernel
theorem d_m_set_55 : decode b_m_set 55 = .ok (.iload_n 1, 1) := by decide +kernel
theorem d_m_set_56 : decode b_m_set 56 = .ok (.imul, 1) := by decide +kernel
theorem d_m_set_57 : decode b_m_set 57 = .ok (.iload_n 2, 1) := by decide +kernel
theorem d_m_set_58 : decode b_m_set 58 = .ok (.iadd, 1) := by decide +kernel
theorem d_m_set_59 : decode b_m_set 59 = .ok (.iload_n 3, 1) := by decide +kernel
theorem d_m_set_60 : decode b_m_set 60 = .ok (.iastore, 1) := by decide +kernel
theorem d_m_set_61 : decode b_m_set 61 = .ok (.return_, 1) := by decide +kernel
theorem d_m_get_0 : decode b_m_get 0 = .ok (.aload_n 0, 1) := by decide +kernel
theorem d_m_get_1 : decode b_m_get 1 = .ok (.aload_n 0, 1) := by decide +kernel
theorem d_m_get_2 : decode b_m_get 2 = .ok (.iload_n 1, 1) := by decide +kernel
theorem d_m_get_3 : decode b_m_get 3 = .ok (.invokevirtual 65, 3) := by decide +kernel
theorem d_m_get_6 : decode b_m_get 6 = .ok (.ifCond .ne 7, 3) := by decide +kernel
theorem d_m_get_9 : decode b_m_get 9 = .ok (.iconst 1, 1) := by decide +kernel
theorem d_m_get_10 : decode b_m_get 10 = .ok (.goto 17, 3) := by decide +kernel
theorem d_m_get_13 : decode b_m_get 13 = .ok (.aload_n 0, 1) := by decide +kernel
theorem d_m_get_14 : decode b_m_get 14 = .ok (.iload_n 1, 1) := by decide +kernel
theorem d_m_get_15 : decode b_m_get 15 = .ok (.iload_n 2, 1) := by decide +kernel
theorem d_m_get_16 : decode b_m_get 16 = .ok (.invokevirtual 69, 3) := by decide +kernel
theorem d_m_get_19 : decode b_m_get 19 = .ok (.ifCond .ne 7, 3) := by decide +kernel
theorem d_m_get_22 : decode b_m_get 22 = .ok (.iconst 2, 1) := by decide +kernel
theorem d_m_get_23 : decode b_m_get 23 = .ok (.goto 4, 3) := by decide +kernel
theorem d_m_get_26 : decode b_m_get 26 = .ok (.iconst 0, 1) := by decide +kernel
theorem d_m_get_27 : decode b_m_get 27 = .ok (.putfield 47, 3) := by decide +kernel
theorem d_m_get_30 : decode b_m_get 30 = .ok (.aload_n 0, 1) := by decide +kernel
theorem d_m_get_31 : decode b_m_get 31 = .ok (.getfield 47, 3) := by decide +kernel
theorem d_m_get_34 : decode b_m_get 34 = .ok (.ifCond .le 7, 3) := by decide +kernel
theorem d_m_get_37 : decode b_m_get 37 = .ok (.iconst 0, 1) := by decide +kernel
theorem d_m_get_38 : decode b_m_get 38 = .ok (.goto 13, 3) := by decide +kernel
theorem d_m_get_41 : decode b_m_get 41 = .ok (.aload_n 0, 1) := by decide +kernel
theorem d_m_get_42 : decode b_m_get 42 = .ok (.getfield 16, 3) := by decide +kernel
theorem d_m_get_45 : decode b_m_get 45 = .ok (.iconst 3, 1) := by decide +kernel
theorem d_m_get_46 : decode b_m_get 46 = .ok (.iload_n 1, 1) := by decide +kernel
theorem d_m_get_47 : decode b_m_get 47 = .ok (.imul, 1) := by decide +kernel
theorem d_m_get_48 : decode b_m_get 48 = .ok (.iload_n 2, 1) := by decide +kernel
theorem d_m_get_49 : decode b_m_get 49 = .ok (.iadd, 1) := by decide +kernel
theorem d_m_get_50 : decode b_m_get 50 = .ok (.iaload, 1) := by decide +kernel
theorem d_m_get_51 : decode b_m_get 51 = .ok (.ireturn, 1) := by decide +kernel
theorem d_m_entryOf_0 : decode b_m_entryOf 0 = .ok (.iconst (-1), 1) := by decide +kernel
theorem d_m_entryOf_1 : decode b_m_entryOf 1 = .ok (.istore_n 3, 1) := by decide +kernel
theorem d_m_entryOf_2 : decode b_m_entryOf 2 = .ok (.iconst 0, 1) := by decide +kernel
theorem d_m_entryOf_3 : decode b_m_entryOf 3 = .ok (.istore 4, 2) := by decide +kernel
theorem d_m_entryOf_5 : decode b_m_entryOf 5 = .ok (.iload 4, 2) := by decide +kernel
theorem d_m_entryOf_7 : decode b_m_entryOf 7 = .ok (.aload_n 0, 1) := by decide +kernel
theorem d_m_entryOf_8 : decode b_m_entryOf 8 = .ok (.getfield 19, 3) := by decide +kernel
theorem d_m_entryOf_11 : decode b_m_entryOf 11 = .ok (.iload_n 1, 1) := by decide +kernel
theorem d_m_entryOf_12 : decode b_m_entryOf 12 = .ok (.iaload, 1) := by decide +kernel
theorem d_m_entryOf_13 : decode b_m_entryOf 13 = .ok (.if_icmp .ge 35, 3) := by decide +kernel
theorem d_m_entryOf_16 : decode b_m_entryOf 16 = .ok (.aload_n 0, 1) := by decide +kernel
theorem d_m_entryOf_17 : decode b_m_entryOf 17 = .ok (.getfield 22, 3) := by decide +kernel
theorem d_m_entryOf_20 : decode b_m_entryOf 20 = .ok (.iconst 4, 1) := by decide +kernel
theorem d_m_entryOf_21 : decode b_m_entryOf 21 = .ok (.iload_n 1, 1) := by decide +kernel
theorem d_m_entryOf_22 : decode b_m_entryOf 22 = .ok (.imul, 1) := by decide +kernel
theorem d_m_entryOf_23 : decode b_m_entryOf 23 = .ok (.iload 4, 2) := by decide +kernel
theorem d_m_entryOf_25 : decode b_m_entryOf 25 = .ok (.iadd, 1) := by decide +kernel
theorem d_m_entryOf_26 : decode b_m_entryOf 26 = .ok (.iaload, 1) := by decide +kernel
theorem d_m_entryOf_27 : decode b_m_entryOf 27 = .ok (.iload_n 2, 1) := by decide +kernel
theorem d_m_entryOf_28 : decode b_m_entryOf 28 = .ok (.if_icmp .ne 12, 3) := by decide +kernel
theorem d_m_entryOf_31 : decode b_m_entryOf 31 = .ok (.iconst 4, 1) := by decide +kernel
theorem d_m_entryOf_32 : decode b_m_entryOf 32 = .ok (.iload_n 1, 1) := by decide +kernel
theorem d_m_entryOf_33 : decode b_m_entryOf 33 = .ok (.imul, 1) := by decide +kernel
theorem d_m_entryOf_34 : decode b_m_entryOf 34 = .ok (.iload 4, 2) := by decide +kernel
theorem d_m_entryOf_36 : decode b_m_entryOf 36 = .ok (.iadd, 1) := by decide +kernel
theorem d_m_entryOf_37 : decode b_m_entryOf 37 = .ok (.goto 4, 3) := by decide +kernel
theorem d_m_entryOf_40 : decode b_m_entryOf 40 = .ok (.iload_n 3, 1) := by decide +kernel
theorem d_m_entryOf_41 : decode b_m_entryOf 41 = .ok (.istore_n 3, 1) := by decide +kernel
theorem d_m_entryOf_42 : decode b_m_entryOf 42 = .ok (.iinc 4 1, 3) := by decide +kernel
theorem d_m_entryOf_45 : decode b_m_entryOf 45 = .ok (.goto (-40), 3) := by decide +kernel
theorem d_m_entryOf_48 : decode b_m_entryOf 48 = .ok (.iload_n 3, 1) := by decide +kernel
theorem d_m_entryOf_49 : decode b_m_entryOf 49 = .ok (.ireturn, 1) := by decide +kernel
theorem d_m_dropEntry_0 : decode b_m_dropEntry 0 = .ok (.iload_n 2, 1) := by decide +kernel
theorem d_m_dropEntry_1 : decode b_m_dropEntry 1 = .ok (.istore_n 3, 1) := by decide +kernel
theorem d_m_dropEntry_2 : decode b_m_dropEntry 2 = .ok (.iload_n 3, 1) := by decide +kernel
theorem d_m_dropEntry_3 : decode b_m_dropEntry 3 = .ok (.iconst 1, 1) := by decide +kernel
theorem d_m_dropEntry_4 : decode b_m_dropEntry 4 = .ok (.iadd, 1) := by decide +kernel
theorem d_m_dropEntry_5 : decode b_m_dropEntry 5 = .ok (.iconst 4, 1) := by decide +kernel
theorem d_m_dropEntry_6 : decode b_m_dropEntry 6 = .ok (.iload_n 1, 1) := by decide +kernel
theorem d_m_dropEntry_7 : decode b_m_dropEntry 7 = .ok (.imul, 1) := by decide +kernel
theorem d_m_dropEntry_8 : decode b_m_dropEntry 8 = .ok (.aload_n 0, 1) := by decide +kernel
theorem d_m_dropEntry_9 : decode b_m_dropEntry 9 = .ok (.getfield 19, 3) := by decide +kernel
theorem d_m_dropEntry_12 : decode b_m_dropEntry 12 = .ok (.iload_n 1, 1) := by decide +kernel
theorem d_m_dropEntry_13 : decode b_m_dropEntry 13 = .ok (.iaload, 1) := by decide +kernel
theorem d_m_dropEntry_14 : decode b_m_dropEntry 14 = .ok (.iadd, 1) := by decide +kernel
theorem d_m_dropEntry_15 : decode b_m_dropEntry 15 = .ok (.if_icmp .ge 37, 3) := by decide +kernel
theorem d_m_dropEntry_18 : decode b_m_dropEntry 18 = .ok (.aload_n 0, 1) := by decide +kernel
theorem d_m_dropEntry_19 : decode b_m_dropEntry 19 = .ok (.getfield 22, 3) := by decide +kernel
theorem d_m_dropEntry_22 : decode b_m_dropEntry 22 = .ok (.iload_n 3, 1) := by decide +kernel
theorem d_m_dropEntry_23 : decode b_m_dropEntry 23 = .ok (.aload_n 0, 1) := by decide +kernel
theorem d_m_dropEntry_24 : decode b_m_dropEntry 24 = .ok (.getfield 22, 3) := by decide +kernel
theorem d_m_dropEntry_27 : decode b_m_dropEntry 27 = .ok (.iload_n 3, 1) := by decide +kernel
theorem d_m_dropEntry_28 : decode b_m_dropEntry 28 = .ok (.iconst 1, 1) := by decide +kernel
theorem d_m_dropEntry_29 : decode b_m_dropEntry 29 = .ok (.iadd, 1) := by decide +kernel
theorem d_m_dropEntry_30 : decode b_m_dropEntry 30 = .ok (.iaload, 1) := by decide +kernel
theorem d_m_dropEntry_31 : decode b_m_dropEntry 31 = .ok (.iastore, 1) := by decide +kernel
theorem d_m_dropEntry_32 : decode b_m_dropEntry 32 = .ok (.aload_n 0, 1) := by decide +kernel
theorem d_m_dropEntry_33 : decode b_m_dropEntry 33 = .ok (.getfield 25, 3) := by decide +kernel
theorem d_m_dropEntry_36 : decode b_m_dropEntry 36 = .ok (.iload_n 3, 1) := by decide +kernel
theorem d_m_dropEntry_37 : decode b_m_dropEntry 37 = .ok (.aload_n 0, 1) := by decide +kernel
theorem d_m_dropEntry_38 : decode b_m_dropEntry 38 = .ok (.getfield 25, 3) := by decide +kernel
theorem d_m_dropEntry_41 : decode b_m_dropEntry 41 = .ok (.iload_n 3, 1) := by decide +kernel
theorem d_m_dropEntry_42 : decode b_m_dropEntry 42 = .ok (.iconst 1, 1) := by decide +kernel
theorem d_m_dropEntry_43 : decode b_m_dropEntry 43 = .ok (.iadd, 1) := by decide +kernel
theorem d_m_dropEntry_44 : decode b_m_dropEntry 44 = .ok (.iaload, 1) := by decide +kernel
theorem d_m_dropEntry_45 : decode b_m_dropEntry 45 = .ok (.iastore, 1) := by decide +kernel
theorem d_m_dropEntry_46 : decode b_m_dropEntry 46 = .ok (.iinc 3 1, 3) := by decide +kernel
theorem d_m_dropEntry_49 : decode b_m_dropEntry 49 = .ok (.goto (-47), 3) := by decide +kernel
theorem d_m_dropEntry_52 : decode b_m_dropEntry 52 = .ok (.aload_n 0, 1) := by decide +kernel
theorem d_m_dropEntry_53 : decode b_m_dropEntry 53 = .ok (.getfield 19, 3) := by decide +kernel
theorem d_m_dropEntry_56 : decode b_m_dropEntry 56 = .ok (.iload_n 1, 1) := by decide +kernel
theorem d_m_dropEntry_57 : decode b_m_dropEntry 57 = .ok (.dup2, 1) := by decide +kernel
theorem d_m_dropEntry_58 : decode b_m_dropEntry 58 = .ok (.iaload, 1) := by decide +kernel
theorem d_m_dropEntry_59 : decode b_m_dropEntry 59 = .ok (.iconst 1, 1) := by decide +kernel
theorem d_m_dropEntry_60 : decode b_m_dropEntry 60 = .ok (.isub, 1) := by decide +kernel
theorem d_m_dropEntry_61 : decode b_m_dropEntry 61 = .ok (.iastore, 1) := by decide +kernel
theorem d_m_dropEntry_62 : decode b_m_dropEntry 62 = .ok (.return_, 1) := by decide +kernel
theorem d_m_put_0 : decode b_m_put 0 = .ok (.aload_n 0, 1) := by decide +kernel
theorem d_m_put_1 : decode b_m_put 1 = .ok (.aload_n 0, 1) := by decide +kernel
theorem d_m_put_2 : decode b_m_put 2 = .ok (.iload_n 1, 1) := by decide +kernel
theorem d_m_put_3 : decode b_m_put 3 = .ok (.invokevirtual 65, 3) := by decide +kernel
theorem d_m_put_6 : decode b_m_put 6 = .ok (.ifCond .eq 19, 3) := by decide +kernel
theorem d_m_put_9 : decode b_m_put 9 = .ok (.aload_n 0, 1) := by decide +kernel
theorem d_m_put_10 : decode b_m_put 10 = .ok (.iload_n 2, 1) := by decide +kernel
theorem d_m_put_11 : decode b_m_put 11 = .ok (.invokevirtual 65, 3) := by decide +kernel
theorem d_m_put_14 : decode b_m_put 14 = .ok (.ifCond .eq 11, 3) := by decide +kernel
theorem d_m_put_17 : decode b_m_put 17 = .ok (.aload_n 0, 1) := by decide +kernel
theorem d_m_put_18 : decode b_m_put 18 = .ok (.iload_n 3, 1) := by decide +kernel
theorem d_m_put_19 : decode b_m_put 19 = .ok (.invokevirtual 65, 3) := by decide +kernel
theorem d_m_put_22 : decode b_m_put 22 = .ok (.ifCond .ne 7, 3) := by decide +kernel
theorem d_m_put_25 : decode b_m_put 25 = .ok (.iconst 1, 1) := by decide +kernel
theorem d_m_put_26 : decode b_m_put 26 = .ok (.goto 41, 3) := by decide +kernel
theorem d_m_put_29 : decode b_m_put 29 = .ok (.aload_n 0, 1) := by decide +kernel
theorem d_m_put_30 : decode b_m_put 30 = .ok (.getfield 7, 3) := by decide +kernel
theorem d_m_put_33 : decode b_m_put 33 = .ok (.iload_n 1, 1) := by decide +kernel
theorem d_m_put_34 : decode b_m_put 34 = .ok (.iaload, 1) := by decide +kernel
theorem d_m_put_35 : decode b_m_put 35 = .ok (.iconst 2, 1) := by decide +kernel
theorem d_m_put_36 : decode b_m_put 36 = .ok (.if_icmp .eq 7, 3) := by decide +kernel
theorem d_m_put_39 : decode b_m_put 39 = .ok (.iconst 2, 1) := by decide +kernel
theorem d_m_put_40 : decode b_m_put 40 = .ok (.goto 27, 3) := by decide +kernel
theorem d_m_put_43 : decode b_m_put 43 = .ok (.aload_n 0, 1) := by decide +kernel
theorem d_m_put_44 : decode b_m_put 44 = .ok (.getfield 19, 3) := by decide +kernel
theorem d_m_put_47 : decode b_m_put 47 = .ok (.iload_n 1, 1) := by decide +kernel
theorem d_m_put_48 : decode b_m_put 48 = .ok (.iaload, 1) := by decide +kernel
theorem d_m_put_49 : decode b_m_put 49 = .ok (.iconst 4, 1) := by decide +kernel
theorem d_m_put_50 : decode b_m_put 50 = .ok (.if_icmp .ne 16, 3) := by decide +kernel
theorem d_m_put_53 : decode b_m_put 53 = .ok (.aload_n 0, 1) := by decide +kernel
theorem d_m_put_54 : decode b_m_put 54 = .ok (.iload_n 1, 1) := by decide +kernel
theorem d_m_put_55 : decode b_m_put 55 = .ok (.iload_n 2, 1) := by decide +kernel
theorem d_m_put_56 : decode b_m_put 56 = .ok (.invokevirtual 73, 3) := by decide +kernel
theorem d_m_put_59 : decode b_m_put 59 = .ok (.ifCond .ge 7, 3) := by decide +kernel
theorem d_m_put_62 : decode b_m_put 62 = .ok (.iconst 3, 1) := by decide +kernel
theorem d_m_put_63 : decode b_m_put 63 = .ok (.goto 4, 3) := by decide +kernel
theorem d_m_put_66 : decode b_m_put 66 = .ok (.iconst 0, 1) := by decide +kernel
theorem d_m_put_67 : decode b_m_put 67 = .ok (.putfield 47, 3) := by decide +kernel
theorem d_m_put_70 : decode b_m_put 70 = .ok (.aload_n 0, 1) := by decide +kernel
theorem d_m_put_71 : decode b_m_put 71 = .ok (.getfield 47, 3) := by decide +kernel
theorem d_m_put_74 : decode b_m_put 74 = .ok (.ifCond .le 5, 3) := by decide +kernel
theorem d_m_put_77 : decode b_m_put 77 = .ok (.iconst 0, 1) := by decide +kernel
theorem d_m_put_78 : decode b_m_put 78 = .ok (.ireturn, 1) := by decide +kernel
theorem d_m_put_79 : decode b_m_put 79 = .ok (.aload_n 0, 1) := by decide +kernel
theorem d_m_put_80 : decode b_m_put 80 = .ok (.iload_n 1, 1) := by decide +kernel
theorem d_m_put_81 : decode b_m_put 81 = .ok (.iload_n 2, 1) := by decide +kernel
theorem d_m_put_82 : decode b_m_put 82 = .ok (.invokevirtual 73, 3) := by decide +kernel
theorem d_m_put_85 : decode b_m_put 85 = .ok (.istore 4, 2) := by decide +kernel
theorem d_m_put_87 : decode b_m_put 87 = .ok (.iload 4, 2) := by decide +kernel
theorem d_m_put_89 : decode b_m_put 89 = .ok (.ifCond .ge 7, 3) := by decide +kernel
theorem d_m_put_92 : decode b_m_put 92 = .ok (.iconst 1, 1) := by decide +kernel
theorem d_m_put_93 : decode b_m_put 93 = .ok (.goto 4, 3) := by decide +kernel
theorem d_m_put_96 : decode b_m_put 96 = .ok (.iconst 0, 1) := by decide +kernel
theorem d_m_put_97 : decode b_m_put 97 = .ok (.istore 5, 2) := by decide +kernel
theorem d_m_put_99 : decode b_m_put 99 = .ok (.iload 5, 2) := by decide +kernel
theorem d_m_put_101 : decode b_m_put 101 = .ok (.ifCond .eq 16, 3) := by decide +kernel
theorem d_m_put_104 : decode b_m_put 104 = .ok (.iconst 4, 1) := by decide +kernel
theorem d_m_put_105 : decode b_m_put 105 = .ok (.iload_n 1, 1) := by decide +kernel
theorem d_m_put_106 : decode b_m_put 106 = .ok (.imul, 1) := by decide +kernel
theorem d_m_put_107 : decode b_m_put 107 = .ok (.aload_n 0, 1) := by decide +kernel
theorem d_m_put_108 : decode b_m_put 108 = .ok (.getfield 19, 3) := by decide +kernel
theorem d_m_put_111 : decode b_m_put 111 = .ok (.iload_n 1, 1) := by decide +kernel
theorem d_m_put_112 : decode b_m_put 112 = .ok (.iaload, 1) := by decide +kernel
theorem d_m_put_113 : decode b_m_put 113 = .ok (.iadd, 1) := by decide +kernel
theorem d_m_put_114 : decode b_m_put 114 = .ok (.goto 5, 3) := by decide +kernel
theorem d_m_put_117 : decode b_m_put 117 = .ok (.iload 4, 2) := by decide +kernel
theorem d_m_put_119 : decode b_m_put 119 = .ok (.istore 4, 2) := by decide +kernel
theorem d_m_put_121 : decode b_m_put 121 = .ok (.aload_n 0, 1) := by decide +kernel
theorem d_m_put_122 : decode b_m_put 122 = .ok (.getfield 22, 3) := by decide +kernel
theorem d_m_put_125 : decode b_m_put 125 = .ok (.iload 4, 2) := by decide +kernel
theorem d_m_put_127 : decode b_m_put 127 = .ok (.iload_n 2, 1) := by decide +kernel
theorem d_m_put_128 : decode b_m_put 128 = .ok (.iastore, 1) := by decide +kernel
theorem d_m_put_129 : decode b_m_put 129 = .ok (.aload_n 0, 1) := by decide +kernel
theorem d_m_put_130 : decode b_m_put 130 = .ok (.getfield 25, 3) := by decide +kernel
theorem d_m_put_133 : decode b_m_put 133 = .ok (.iload 4, 2) := by decide +kernel
theorem d_m_put_135 : decode b_m_put 135 = .ok (.iload_n 3, 1) := by decide +kernel
theorem d_m_put_136 : decode b_m_put 136 = .ok (.iastore, 1) := by decide +kernel
theorem d_m_put_137 : decode b_m_put 137 = .ok (.aload_n 0, 1) := by decide +kernel
theorem d_m_put_138 : decode b_m_put 138 = .ok (.getfield 19, 3) := by decide +kernel
theorem d_m_put_141 : decode b_m_put 141 = .ok (.iload_n 1, 1) := by decide +kernel
theorem d_m_put_142 : decode b_m_put 142 = .ok (.dup2, 1) := by decide +kernel
theorem d_m_put_143 : decode b_m_put 143 = .ok (.iaload, 1) := by decide +kernel
theorem d_m_put_144 : decode b_m_put 144 = .ok (.iload 5, 2) := by decide +kernel
theorem d_m_put_146 : decode b_m_put 146 = .ok (.ifCond .eq 7, 3) := by decide +kernel
theorem d_m_put_149 : decode b_m_put 149 = .ok (.iconst 1, 1) := by decide +kernel
theorem d_m_put_150 : decode b_m_put 150 = .ok (.goto 4, 3) := by decide +kernel
theorem d_m_put_153 : decode b_m_put 153 = .ok (.iconst 0, 1) := by decide +kernel
theorem d_m_put_154 : decode b_m_put 154 = .ok (.iadd, 1) := by decide +kernel
theorem d_m_put_155 : decode b_m_put 155 = .ok (.iastore, 1) := by decide +kernel
theorem d_m_put_156 : decode b_m_put 156 = .ok (.iload 5, 2) := by decide +kernel
theorem d_m_put_158 : decode b_m_put 158 = .ok (.ireturn, 1) := by decide +kernel
theorem d_m_isTable_0 : decode b_m_isTable 0 = .ok (.aload_n 0, 1) := by decide +kernel
theorem d_m_isTable_1 : decode b_m_isTable 1 = .ok (.aload_n 0, 1) := by decide +kernel
theorem d_m_isTable_2 : decode b_m_isTable 2 = .ok (.iload_n 1, 1) := by decide +kernel
theorem d_m_isTable_3 : decode b_m_isTable 3 = .ok (.invokevirtual 65, 3) := by decide +kernel
theorem d_m_isTable_6 : decode b_m_isTable 6 = .ok (.ifCond .eq 11, 3) := by decide +kernel
theorem d_m_isTable_9 : decode b_m_isTable 9 = .ok (.aload_n 0, 1) := by decide +kernel
theorem d_m_isTable_10 : decode b_m_isTable 10 = .ok (.iload_n 2, 1) := by decide +kernel
theorem d_m_isTable_11 : decode b_m_isTable 11 = .ok (.invokevirtual 65, 3) := by decide +kernel
theorem d_m_isTable_14 : decode b_m_isTable 14 = .ok (.ifCond .ne 7, 3) := by decide +kernel
theorem d_m_isTable_17 : decode b_m_isTable 17 = .ok (.iconst 1, 1) := by decide +kernel
theorem d_m_isTable_18 : decode b_m_isTable 18 = .ok (.goto 18, 3) := by decide +kernel
theorem d_m_isTable_21 : decode b_m_isTable 21 = .ok (.aload_n 0, 1) := by decide +kernel
theorem d_m_isTable_22 : decode b_m_isTable 22 = .ok (.getfield 7, 3) := by decide +kernel
theorem d_m_isTable_25 : decode b_m_isTable 25 = .ok (.iload_n 1, 1) := by decide +kernel
theorem d_m_isTable_26 : decode b_m_isTable 26 = .ok (.iaload, 1) := by decide +kernel
theorem d_m_isTable_27 : decode b_m_isTable 27 = .ok (.iconst 2, 1) := by decide +kernel
theorem d_m_isTable_28 : decode b_m_isTable 28 = .ok (.if_icmp .eq 7, 3) := by decide +kernel
theorem d_m_isTable_31 : decode b_m_isTable 31 = .ok (.iconst 2, 1) := by decide +kernel
theorem d_m_isTable_32 : decode b_m_isTable 32 = .ok (.goto 4, 3) := by decide +kernel
theorem d_m_isTable_35 : decode b_m_isTable 35 = .ok (.iconst 0, 1) := by decide +kernel
theorem d_m_isTable_36 : decode b_m_isTable 36 = .ok (.putfield 47, 3) := by decide +kernel
theorem d_m_isTable_39 : decode b_m_isTable 39 = .ok (.aload_n 0, 1) := by decide +kernel
theorem d_m_isTable_40 : decode b_m_isTable 40 = .ok (.getfield 47, 3) := by decide +kernel
theorem d_m_isTable_43 : decode b_m_isTable 43 = .ok (.ifCond .ne 7, 3) := by decide +kernel
theorem d_m_isTable_46 : decode b_m_isTable 46 = .ok (.iconst 1, 1) := by decide +kernel
theorem d_m_isTable_47 : decode b_m_isTable 47 = .ok (.goto 4, 3) := by decide +kernel
theorem d_m_isTable_50 : decode b_m_isTable 50 = .ok (.iconst 0, 1) := by decide +kernel
theorem d_m_isTable_51 : decode b_m_isTable 51 = .ok (.ireturn, 1) := by decide +kernel
theorem d_m_find_0 : decode b_m_find 0 = .ok (.aload_n 0, 1) := by decide +kernel
theorem d_m_find_1 : decode b_m_find 1 = .ok (.iload_n 1, 1) := by decide +kernel
theorem d_m_find_2 : decode b_m_find 2 = .ok (.iload_n 2, 1) := by decide +kernel
theorem d_m_find_3 : decode b_m_find 3 = .ok (.invokevirtual 77, 3) := by decide +kernel
theorem d_m_find_6 : decode b_m_find 6 = .ok (.ifCond .ne 5, 3) := by decide +kernel
theorem d_m_find_9 : decode b_m_find 9 = .ok (.iconst 0, 1) := by decide +kernel
theorem d_m_find_10 : decode b_m_find 10 = .ok (.ireturn, 1) := by decide +kernel
theorem d_m_find_11 : decode b_m_find 11 = .ok (.aload_n 0, 1) := by decide +kernel
theorem d_m_find_12 : decode b_m_find 12 = .ok (.iload_n 1, 1) := by decide +kernel
theorem d_m_find_13 : decode b_m_find 13 = .ok (.iload_n 2, 1) := by decide +kernel
theorem d_m_find_14 : decode b_m_find 14 = .ok (.invokevirtual 73, 3) := by decide +kernel
theorem d_m_find_17 : decode b_m_find 17 = .ok (.istore_n 3, 1) := by decide +kernel
theorem d_m_find_18 : decode b_m_find 18 = .ok (.iload_n 3, 1) := by decide +kernel
theorem d_m_find_19 : decode b_m_find 19 = .ok (.ifCond .ge 7, 3) := by decide +kernel
theorem d_m_find_22 : decode b_m_find 22 = .ok (.iconst (-1), 1) := by decide +kernel
theorem d_m_find_23 : decode b_m_find 23 = .ok (.goto 9, 3) := by decide +kernel
theorem d_m_find_26 : decode b_m_find 26 = .ok (.aload_n 0, 1) := by decide +kernel
theorem d_m_find_27 : decode b_m_find 27 = .ok (.getfield 25, 3) := by decide +kernel
theorem d_m_find_30 : decode b_m_find 30 = .ok (.iload_n 3, 1) := by decide +kernel
theorem d_m_find_31 : decode b_m_find 31 = .ok (.iaload, 1) := by decide +kernel
theorem d_m_find_32 : decode b_m_find 32 = .ok (.ireturn, 1) := by decide +kernel
theorem d_m_remove_0 : decode b_m_remove 0 = .ok (.aload_n 0, 1) := by decide +kernel
theorem d_m_remove_1 : decode b_m_remove 1 = .ok (.iload_n 1, 1) := by decide +kernel
theorem d_m_remove_2 : decode b_m_remove 2 = .ok (.iload_n 2, 1) := by decide +kernel
theorem d_m_remove_3 : decode b_m_remove 3 = .ok (.invokevirtual 77, 3) := by decide +kernel
theorem d_m_remove_6 : decode b_m_remove 6 = .ok (.ifCond .ne 5, 3) := by decide +kernel
theorem d_m_remove_9 : decode b_m_remove 9 = .ok (.iconst 0, 1) := by decide +kernel
theorem d_m_remove_10 : decode b_m_remove 10 = .ok (.ireturn, 1) := by decide +kernel
theorem d_m_remove_11 : decode b_m_remove 11 = .ok (.aload_n 0, 1) := by decide +kernel
theorem d_m_remove_12 : decode b_m_remove 12 = .ok (.iload_n 1, 1) := by decide +kernel
theorem d_m_remove_13 : decode b_m_remove 13 = .ok (.iload_n 2, 1) := by decide +kernel
theorem d_m_remove_14 : decode b_m_remove 14 = .ok (.invokevirtual 73, 3) := by decide +kernel
theorem d_m_remove_17 : decode b_m_remove 17 = .ok (.istore_n 3, 1) := by decide +kernel
theorem d_m_remove_18 : decode b_m_remove 18 = .ok (.iload_n 3, 1) := by decide +kernel
theorem d_m_remove_19 : decode b_m_remove 19 = .ok (.ifCond .lt 9, 3) := by decide +kernel
theorem d_m_remove_22 : decode b_m_remove 22 = .ok (.aload_n 0, 1) := by decide +kernel
theorem d_m_remove_23 : decode b_m_remove 23 = .ok (.iload_n 1, 1) := by decide +kernel
theorem d_m_remove_24 : decode b_m_remove 24 = .ok (.iload_n 3, 1) := by decide +kernel
theorem d_m_remove_25 : decode b_m_remove 25 = .ok (.invokevirtual 80, 3) := by decide +kernel
theorem d_m_remove_28 : decode b_m_remove 28 = .ok (.iload_n 3, 1) := by decide +kernel
theorem d_m_remove_29 : decode b_m_remove 29 = .ok (.ifCond .lt 7, 3) := by decide +kernel
theorem d_m_remove_32 : decode b_m_remove 32 = .ok (.iconst 1, 1) := by decide +kernel
theorem d_m_remove_33 : decode b_m_remove 33 = .ok (.goto 4, 3) := by decide +kernel
theorem d_m_remove_36 : decode b_m_remove 36 = .ok (.iconst 0, 1) := by decide +kernel
theorem d_m_remove_37 : decode b_m_remove 37 = .ok (.ireturn, 1) := by decide +kernel
theorem d_m_key_0 : decode b_m_key 0 = .ok (.aload_n 0, 1) := by decide +kernel
theorem d_m_key_1 : decode b_m_key 1 = .ok (.aload_n 0, 1) := by decide +kernel
theorem d_m_key_2 : decode b_m_key 2 = .ok (.iload_n 1, 1) := by decide +kernel
theorem d_m_key_3 : decode b_m_key 3 = .ok (.invokevirtual 65, 3) := by decide +kernel
theorem d_m_key_6 : decode b_m_key 6 = .ok (.ifCond .ne 7, 3) := by decide +kernel
theorem d_m_key_9 : decode b_m_key 9 = .ok (.iconst 1, 1) := by decide +kernel
theorem d_m_key_10 : decode b_m_key 10 = .ok (.goto 36, 3) := by decide +kernel
theorem d_m_key_13 : decode b_m_key 13 = .ok (.aload_n 0, 1) := by decide +kernel
theorem d_m_key_14 : decode b_m_key 14 = .ok (.getfield 7, 3) := by decide +kernel
theorem d_m_key_17 : decode b_m_key 17 = .ok (.iload_n 1, 1) := by decide +kernel
theorem d_m_key_18 : decode b_m_key 18 = .ok (.iaload, 1) := by decide +kernel
theorem d_m_key_19 : decode b_m_key 19 = .ok (.iconst 2, 1) := by decide +kernel
theorem d_m_key_20 : decode b_m_key 20 = .ok (.if_icmp .eq 7, 3) := by decide +kernel
theorem d_m_key_23 : decode b_m_key 23 = .ok (.iconst 2, 1) := by decide +kernel
theorem d_m_key_24 : decode b_m_key 24 = .ok (.goto 22, 3) := by decide +kernel
theorem d_m_key_27 : decode b_m_key 27 = .ok (.iload_n 2, 1) := by decide +kernel
theorem d_m_key_28 : decode b_m_key 28 = .ok (.ifCond .lt 13, 3) := by decide +kernel
theorem d_m_key_31 : decode b_m_key 31 = .ok (.iload_n 2, 1) := by decide +kernel
theorem d_m_key_32 : decode b_m_key 32 = .ok (.aload_n 0, 1) := by decide +kernel
theorem d_m_key_33 : decode b_m_key 33 = .ok (.getfield 19, 3) := by decide +kernel
theorem d_m_key_36 : decode b_m_key 36 = .ok (.iload_n 1, 1) := by decide +kernel
theorem d_m_key_37 : decode b_m_key 37 = .ok (.iaload, 1) := by decide +kernel
theorem d_m_key_38 : decode b_m_key 38 = .ok (.if_icmp .lt 7, 3) := by decide +kernel
theorem d_m_key_41 : decode b_m_key 41 = .ok (.iconst 3, 1) := by decide +kernel
theorem d_m_key_42 : decode b_m_key 42 = .ok (.goto 4, 3) := by decide +kernel
theorem d_m_key_45 : decode b_m_key 45 = .ok (.iconst 0, 1) := by decide +kernel
theorem d_m_key_46 : decode b_m_key 46 = .ok (.putfield 47, 3) := by decide +kernel
theorem d_m_key_49 : decode b_m_key 49 = .ok (.aload_n 0, 1) := by decide +kernel
theorem d_m_key_50 : decode b_m_key 50 = .ok (.getfield 47, 3) := by decide +kernel
theorem d_m_key_53 : decode b_m_key 53 = .ok (.ifCond .le 7, 3) := by decide +kernel
theorem d_m_key_56 : decode b_m_key 56 = .ok (.iconst 0, 1) := by decide +kernel
theorem d_m_key_57 : decode b_m_key 57 = .ok (.goto 13, 3) := by decide +kernel
theorem d_m_key_60 : decode b_m_key 60 = .ok (.aload_n 0, 1) := by decide +kernel
theorem d_m_key_61 : decode b_m_key 61 = .ok (.getfield 22, 3) := by decide +kernel
theorem d_m_key_64 : decode b_m_key 64 = .ok (.iconst 4, 1) := by decide +kernel
theorem d_m_key_65 : decode b_m_key 65 = .ok (.iload_n 1, 1) := by decide +kernel
theorem d_m_key_66 : decode b_m_key 66 = .ok (.imul, 1) := by decide +kernel
theorem d_m_key_67 : decode b_m_key 67 = .ok (.iload_n 2, 1) := by decide +kernel
theorem d_m_key_68 : decode b_m_key 68 = .ok (.iadd, 1) := by decide +kernel
theorem d_m_key_69 : decode b_m_key 69 = .ok (.iaload, 1) := by decide +kernel
theorem d_m_key_70 : decode b_m_key 70 = .ok (.ireturn, 1) := by decide +kernel
theorem d_m_root_0 : decode b_m_root 0 = .ok (.aload_n 0, 1) := by decide +kernel
theorem d_m_root_1 : decode b_m_root 1 = .ok (.iload_n 1, 1) := by decide +kernel
theorem d_m_root_2 : decode b_m_root 2 = .ok (.invokestatic 84, 3) := by decide +kernel
theorem d_m_root_5 : decode b_m_root 5 = .ok (.ifCond .ne 7, 3) := by decide +kernel
theorem d_m_root_8 : decode b_m_root 8 = .ok (.iconst 1, 1) := by decide +kernel
theorem d_m_root_9 : decode b_m_root 9 = .ok (.goto 21, 3) := by decide +kernel
theorem d_m_root_12 : decode b_m_root 12 = .ok (.iload_n 2, 1) := by decide +kernel
theorem d_m_root_13 : decode b_m_root 13 = .ok (.iconst (-1), 1) := by decide +kernel
theorem d_m_root_14 : decode b_m_root 14 = .ok (.if_icmp .eq 15, 3) := by decide +kernel
theorem d_m_root_17 : decode b_m_root 17 = .ok (.aload_n 0, 1) := by decide +kernel
theorem d_m_root_18 : decode b_m_root 18 = .ok (.iload_n 2, 1) := by decide +kernel
theorem d_m_root_19 : decode b_m_root 19 = .ok (.invokevirtual 65, 3) := by decide +kernel
theorem d_m_root_22 : decode b_m_root 22 = .ok (.ifCond .ne 7, 3) := by decide +kernel
theorem d_m_root_25 : decode b_m_root 25 = .ok (.iconst 2, 1) := by decide +kernel
theorem d_m_root_26 : decode b_m_root 26 = .ok (.goto 4, 3) := by decide +kernel
theorem d_m_root_29 : decode b_m_root 29 = .ok (.iconst 0, 1) := by decide +kernel
theorem d_m_root_30 : decode b_m_root 30 = .ok (.putfield 47, 3) := by decide +kernel
theorem d_m_root_33 : decode b_m_root 33 = .ok (.aload_n 0, 1) := by decide +kernel
theorem d_m_root_34 : decode b_m_root 34 = .ok (.getfield 47, 3) := by decide +kernel
theorem d_m_root_37 : decode b_m_root 37 = .ok (.ifCond .ne 10, 3) := by decide +kernel
theorem d_m_root_40 : decode b_m_root 40 = .ok (.aload_n 0, 1) := by decide +kernel
theorem d_m_root_41 : decode b_m_root 41 = .ok (.getfield 37, 3) := by decide +kernel
theorem d_m_root_44 : decode b_m_root 44 = .ok (.iload_n 1, 1) := by decide +kernel
theorem d_m_root_45 : decode b_m_root 45 = .ok (.iload_n 2, 1) := by decide +kernel
theorem d_m_root_46 : decode b_m_root 46 = .ok (.iastore, 1) := by decide +kernel
theorem d_m_root_47 : decode b_m_root 47 = .ok (.return_, 1) := by decide +kernel
theorem d_m_rootAt_0 : decode b_m_rootAt 0 = .ok (.aload_n 0, 1) := by decide +kernel
theorem d_m_rootAt_1 : decode b_m_rootAt 1 = .ok (.iload_n 1, 1) := by decide +kernel
theorem d_m_rootAt_2 : decode b_m_rootAt 2 = .ok (.invokestatic 84, 3) := by decide +kernel
theorem d_m_rootAt_5 : decode b_m_rootAt 5 = .ok (.ifCond .eq 7, 3) := by decide +kernel
theorem d_m_rootAt_8 : decode b_m_rootAt 8 = .ok (.iconst 0, 1) := by decide +kernel
theorem d_m_rootAt_9 : decode b_m_rootAt 9 = .ok (.goto 4, 3) := by decide +kernel
theorem d_m_rootAt_12 : decode b_m_rootAt 12 = .ok (.iconst 1, 1) := by decide +kernel
theorem d_m_rootAt_13 : decode b_m_rootAt 13 = .ok (.putfield 47, 3) := by decide +kernel
theorem d_m_rootAt_16 : decode b_m_rootAt 16 = .ok (.aload_n 0, 1) := by decide +kernel
theorem d_m_rootAt_17 : decode b_m_rootAt 17 = .ok (.getfield 47, 3) := by decide +kernel
theorem d_m_rootAt_20 : decode b_m_rootAt 20 = .ok (.ifCond .le 7, 3) := by decide +kernel
theorem d_m_rootAt_23 : decode b_m_rootAt 23 = .ok (.iconst 0, 1) := by decide +kernel
theorem d_m_rootAt_24 : decode b_m_rootAt 24 = .ok (.goto 9, 3) := by decide +kernel
theorem d_m_rootAt_27 : decode b_m_rootAt 27 = .ok (.aload_n 0, 1) := by decide +kernel
theorem d_m_rootAt_28 : decode b_m_rootAt 28 = .ok (.getfield 37, 3) := by decide +kernel
theorem d_m_rootAt_31 : decode b_m_rootAt 31 = .ok (.iload_n 1, 1) := by decide +kernel
theorem d_m_rootAt_32 : decode b_m_rootAt 32 = .ok (.iaload, 1) := by decide +kernel
theorem d_m_rootAt_33 : decode b_m_rootAt 33 = .ok (.ireturn, 1) := by decide +kernel
theorem d_m_guard_0 : decode b_m_guard 0 = .ok (.aload_n 0, 1) := by decide +kernel
theorem d_m_guard_1 : decode b_m_guard 1 = .ok (.aload_n 0, 1) := by decide +kernel
theorem d_m_guard_2 : decode b_m_guard 2 = .ok (.iload_n 1, 1) := by decide +kernel
theorem d_m_guard_3 : decode b_m_guard 3 = .ok (.invokevirtual 65, 3) := by decide +kernel
theorem d_m_guard_6 : decode b_m_guard 6 = .ok (.ifCond .ne 7, 3) := by decide +kernel
theorem d_m_guard_9 : decode b_m_guard 9 = .ok (.iconst 1, 1) := by decide +kernel
theorem d_m_guard_10 : decode b_m_guard 10 = .ok (.goto 41, 3) := by decide +kernel
theorem d_m_guard_13 : decode b_m_guard 13 = .ok (.iload_n 2, 1) := by decide +kernel
theorem d_m_guard_14 : decode b_m_guard 14 = .ok (.ifCond .lt 8, 3) := by decide +kernel
theorem d_m_guard_17 : decode b_m_guard 17 = .ok (.iload_n 2, 1) := by decide +kernel
theorem d_m_guard_18 : decode b_m_guard 18 = .ok (.iconst 3, 1) := by decide +kernel
theorem d_m_guard_19 : decode b_m_guard 19 = .ok (.if_icmp .le 7, 3) := by decide +kernel
theorem d_m_guard_22 : decode b_m_guard 22 = .ok (.iconst 2, 1) := by decide +kernel
theorem d_m_guard_23 : decode b_m_guard 23 = .ok (.goto 28, 3) := by decide +kernel
theorem d_m_guard_26 : decode b_m_guard 26 = .ok (.iload_n 3, 1) := by decide +kernel
theorem d_m_guard_27 : decode b_m_guard 27 = .ok (.invokestatic 84, 3) := by decide +kernel
theorem d_m_guard_30 : decode b_m_guard 30 = .ok (.ifCond .ne 7, 3) := by decide +kernel
theorem d_m_guard_33 : decode b_m_guard 33 = .ok (.iconst 3, 1) := by decide +kernel
theorem d_m_guard_34 : decode b_m_guard 34 = .ok (.goto 17, 3) := by decide +kernel
theorem d_m_guard_37 : decode b_m_guard 37 = .ok (.aload_n 0, 1) := by decide +kernel
theorem d_m_guard_38 : decode b_m_guard 38 = .ok (.getfield 28, 3) := by decide +kernel
theorem d_m_guard_41 : decode b_m_guard 41 = .ok (.iload_n 1, 1) := by decide +kernel
theorem d_m_guard_42 : decode b_m_guard 42 = .ok (.iaload, 1) := by decide +kernel
theorem d_m_guard_43 : decode b_m_guard 43 = .ok (.ifCond .le 7, 3) := by decide +kernel
theorem d_m_guard_46 : decode b_m_guard 46 = .ok (.iconst 4, 1) := by decide +kernel
theorem d_m_guard_47 : decode b_m_guard 47 = .ok (.goto 4, 3) := by decide +kernel
theorem d_m_guard_50 : decode b_m_guard 50 = .ok (.iconst 0, 1) := by decide +kernel
theorem d_m_guard_51 : decode b_m_guard 51 = .ok (.putfield 47, 3) := by decide +kernel
theorem d_m_guard_54 : decode b_m_guard 54 = .ok (.aload_n 0, 1) := by decide +kernel
theorem d_m_guard_55 : decode b_m_guard 55 = .ok (.getfield 47, 3) := by decide +kernel
theorem d_m_guard_58 : decode b_m_guard 58 = .ok (.ifCond .le 4, 3) := by decide +kernel
theorem d_m_guard_61 : decode b_m_guard 61 = .ok (.return_, 1) := by decide +kernel
theorem d_m_guard_62 : decode b_m_guard 62 = .ok (.aload_n 0, 1) := by decide +kernel
theorem d_m_guard_63 : decode b_m_guard 63 = .ok (.getfield 28, 3) := by decide +kernel
theorem d_m_guard_66 : decode b_m_guard 66 = .ok (.iload_n 1, 1) := by decide +kernel
theorem d_m_guard_67 : decode b_m_guard 67 = .ok (.iconst 1, 1) := by decide +kernel
theorem d_m_guard_68 : decode b_m_guard 68 = .ok (.iastore, 1) := by decide +kernel
theorem d_m_guard_69 : decode b_m_guard 69 = .ok (.aload_n 0, 1) := by decide +kernel
theorem d_m_guard_70 : decode b_m_guard 70 = .ok (.getfield 31, 3) := by decide +kernel
theorem d_m_guard_73 : decode b_m_guard 73 = .ok (.iload_n 1, 1) := by decide +kernel
theorem d_m_guard_74 : decode b_m_guard 74 = .ok (.iload_n 2, 1) := by decide +kernel
theorem d_m_guard_75 : decode b_m_guard 75 = .ok (.iastore, 1) := by decide +kernel
theorem d_m_guard_76 : decode b_m_guard 76 = .ok (.aload_n 0, 1) := by decide +kernel
theorem d_m_guard_77 : decode b_m_guard 77 = .ok (.getfield 34, 3) := by decide +kernel
theorem d_m_guard_80 : decode b_m_guard 80 = .ok (.iload_n 1, 1) := by decide +kernel
theorem d_m_guard_81 : decode b_m_guard 81 = .ok (.iload_n 3, 1) := by decide +kernel
theorem d_m_guard_82 : decode b_m_guard 82 = .ok (.iastore, 1) := by decide +kernel
theorem d_m_guard_83 : decode b_m_guard 83 = .ok (.return_, 1) := by decide +kernel
theorem d_m_close_0 : decode b_m_close 0 = .ok (.iconst 1, 1) := by decide +kernel
theorem d_m_close_1 : decode b_m_close 1 = .ok (.istore_n 1, 1) := by decide +kernel
theorem d_m_close_2 : decode b_m_close 2 = .ok (.iload_n 1, 1) := by decide +kernel
theorem d_m_close_3 : decode b_m_close 3 = .ok (.ifCond .eq 162, 3) := by decide +kernel
theorem d_m_close_6 : decode b_m_close 6 = .ok (.iconst 0, 1) := by decide +kernel
theorem d_m_close_7 : decode b_m_close 7 = .ok (.istore_n 1, 1) := by decide +kernel
theorem d_m_close_8 : decode b_m_close 8 = .ok (.iconst 0, 1) := by decide +kernel
theorem d_m_close_9 : decode b_m_close 9 = .ok (.istore_n 2, 1) := by decide +kernel
theorem d_m_close_10 : decode b_m_close 10 = .ok (.iload_n 2, 1) := by decide +kernel
theorem d_m_close_11 : decode b_m_close 11 = .ok (.bipush 24, 2) := by decide +kernel
theorem d_m_close_13 : decode b_m_close 13 = .ok (.if_icmp .ge 149, 3) := by decide +kernel
theorem d_m_close_16 : decode b_m_close 16 = .ok (.aload_n 0, 1) := by decide +kernel
theorem d_m_close_17 : decode b_m_close 17 = .ok (.getfield 43, 3) := by decide +kernel
theorem d_m_close_20 : decode b_m_close 20 = .ok (.iload_n 2, 1) := by decide +kernel
theorem d_m_close_21 : decode b_m_close 21 = .ok (.baload, 1) := by decide +kernel
theorem d_m_close_22 : decode b_m_close 22 = .ok (.ifCond .eq 52, 3) := by decide +kernel
theorem d_m_close_25 : decode b_m_close 25 = .ok (.aload_n 0, 1) := by decide +kernel
theorem d_m_close_26 : decode b_m_close 26 = .ok (.getfield 7, 3) := by decide +kernel
theorem d_m_close_29 : decode b_m_close 29 = .ok (.iload_n 2, 1) := by decide +kernel
theorem d_m_close_30 : decode b_m_close 30 = .ok (.iaload, 1) := by decide +kernel
theorem d_m_close_31 : decode b_m_close 31 = .ok (.ifCond .ne 43, 3) := by decide +kernel
theorem d_m_close_34 : decode b_m_close 34 = .ok (.iconst 0, 1) := by decide +kernel
theorem d_m_close_35 : decode b_m_close 35 = .ok (.istore_n 3, 1) := by decide +kernel
theorem d_m_close_36 : decode b_m_close 36 = .ok (.iload_n 3, 1) := by decide +kernel
theorem d_m_close_37 : decode b_m_close 37 = .ok (.iconst 3, 1) := by decide +kernel
theorem d_m_close_38 : decode b_m_close 38 = .ok (.if_icmp .ge 36, 3) := by decide +kernel
theorem d_m_close_41 : decode b_m_close 41 = .ok (.aload_n 0, 1) := by decide +kernel
theorem d_m_close_42 : decode b_m_close 42 = .ok (.aload_n 0, 1) := by decide +kernel
theorem d_m_close_43 : decode b_m_close 43 = .ok (.getfield 16, 3) := by decide +kernel
theorem d_m_close_46 : decode b_m_close 46 = .ok (.iconst 3, 1) := by decide +kernel
theorem d_m_close_47 : decode b_m_close 47 = .ok (.iload_n 2, 1) := by decide +kernel
theorem d_m_close_48 : decode b_m_close 48 = .ok (.imul, 1) := by decide +kernel
theorem d_m_close_49 : decode b_m_close 49 = .ok (.iload_n 3, 1) := by decide +kernel
theorem d_m_close_50 : decode b_m_close 50 = .ok (.iadd, 1) := by decide +kernel
theorem d_m_close_51 : decode b_m_close 51 = .ok (.iaload, 1) := by decide +kernel
theorem d_m_close_52 : decode b_m_close 52 = .ok (.invokevirtual 87, 3) := by decide +kernel
theorem d_m_close_55 : decode b_m_close 55 = .ok (.ifCond .ne 7, 3) := by decide +kernel
theorem d_m_close_58 : decode b_m_close 58 = .ok (.iload_n 1, 1) := by decide +kernel
theorem d_m_close_59 : decode b_m_close 59 = .ok (.ifCond .eq 7, 3) := by decide +kernel
theorem d_m_close_62 : decode b_m_close 62 = .ok (.iconst 1, 1) := by decide +kernel
theorem d_m_close_63 : decode b_m_close 63 = .ok (.goto 4, 3) := by decide +kernel
theorem d_m_close_66 : decode b_m_close 66 = .ok (.iconst 0, 1) := by decide +kernel
theorem d_m_close_67 : decode b_m_close 67 = .ok (.istore_n 1, 1) := by decide +kernel
theorem d_m_close_68 : decode b_m_close 68 = .ok (.iinc 3 1, 3) := by decide +kernel
theorem d_m_close_71 : decode b_m_close 71 = .ok (.goto (-35), 3) := by decide +kernel
theorem d_m_close_74 : decode b_m_close 74 = .ok (.iconst 0, 1) := by decide +kernel
theorem d_m_close_75 : decode b_m_close 75 = .ok (.istore_n 3, 1) := by decide +kernel
theorem d_m_close_76 : decode b_m_close 76 = .ok (.iload_n 3, 1) := by decide +kernel
theorem d_m_close_77 : decode b_m_close 77 = .ok (.aload_n 0, 1) := by decide +kernel
theorem d_m_close_78 : decode b_m_close 78 = .ok (.getfield 19, 3) := by decide +kernel
theorem d_m_close_81 : decode b_m_close 81 = .ok (.iload_n 2, 1) := by decide +kernel
theorem d_m_close_82 : decode b_m_close 82 = .ok (.iaload, 1) := by decide +kernel
theorem d_m_close_83 : decode b_m_close 83 = .ok (.if_icmp .ge 73, 3) := by decide +kernel
theorem d_m_close_86 : decode b_m_close 86 = .ok (.aload_n 0, 1) := by decide +kernel
theorem d_m_close_87 : decode b_m_close 87 = .ok (.getfield 43, 3) := by decide +kernel
theorem d_m_close_90 : decode b_m_close 90 = .ok (.iload_n 2, 1) := by decide +kernel
theorem d_m_close_91 : decode b_m_close 91 = .ok (.baload, 1) := by decide +kernel
theorem d_m_close_92 : decode b_m_close 92 = .ok (.ifCond .eq 64, 3) := by decide +kernel
theorem d_m_close_95 : decode b_m_close 95 = .ok (.aload_n 0, 1) := by decide +kernel
theorem d_m_close_96 : decode b_m_close 96 = .ok (.getfield 7, 3) := by decide +kernel
theorem d_m_close_99 : decode b_m_close 99 = .ok (.iload_n 2, 1) := by decide +kernel
theorem d_m_close_100 : decode b_m_close 100 = .ok (.iaload, 1) := by decide +kernel
theorem d_m_close_101 : decode b_m_close 101 = .ok (.iconst 2, 1) := by decide +kernel
theorem d_m_close_102 : decode b_m_close 102 = .ok (.if_icmp .ne 54, 3) := by decide +kernel
theorem d_m_close_105 : decode b_m_close 105 = .ok (.aload_n 0, 1) := by decide +kernel
theorem d_m_close_106 : decode b_m_close 106 = .ok (.getfield 43, 3) := by decide +kernel
theorem d_m_close_109 : decode b_m_close 109 = .ok (.aload_n 0, 1) := by decide +kernel
theorem d_m_close_110 : decode b_m_close 110 = .ok (.getfield 22, 3) := by decide +kernel
theorem d_m_close_113 : decode b_m_close 113 = .ok (.iconst 4, 1) := by decide +kernel
theorem d_m_close_114 : decode b_m_close 114 = .ok (.iload_n 2, 1) := by decide +kernel
theorem d_m_close_115 : decode b_m_close 115 = .ok (.imul, 1) := by decide +kernel
theorem d_m_close_116 : decode b_m_close 116 = .ok (.iload_n 3, 1) := by decide +kernel
theorem d_m_close_117 : decode b_m_close 117 = .ok (.iadd, 1) := by decide +kernel
theorem d_m_close_118 : decode b_m_close 118 = .ok (.iaload, 1) := by decide +kernel
theorem d_m_close_119 : decode b_m_close 119 = .ok (.baload, 1) := by decide +kernel
theorem d_m_close_120 : decode b_m_close 120 = .ok (.ifCond .eq 30, 3) := by decide +kernel
theorem d_m_close_123 : decode b_m_close 123 = .ok (.aload_n 0, 1) := by decide +kernel
theorem d_m_close_124 : decode b_m_close 124 = .ok (.aload_n 0, 1) := by decide +kernel
theorem d_m_close_125 : decode b_m_close 125 = .ok (.getfield 25, 3) := by decide +kernel
theorem d_m_close_128 : decode b_m_close 128 = .ok (.iconst 4, 1) := by decide +kernel
theorem d_m_close_129 : decode b_m_close 129 = .ok (.iload_n 2, 1) := by decide +kernel
theorem d_m_close_130 : decode b_m_close 130 = .ok (.imul, 1) := by decide +kernel
theorem d_m_close_131 : decode b_m_close 131 = .ok (.iload_n 3, 1) := by decide +kernel
theorem d_m_close_132 : decode b_m_close 132 = .ok (.iadd, 1) := by decide +kernel
theorem d_m_close_133 : decode b_m_close 133 = .ok (.iaload, 1) := by decide +kernel
theorem d_m_close_134 : decode b_m_close 134 = .ok (.invokevirtual 87, 3) := by decide +kernel
theorem d_m_close_137 : decode b_m_close 137 = .ok (.ifCond .ne 7, 3) := by decide +kernel
theorem d_m_close_140 : decode b_m_close 140 = .ok (.iload_n 1, 1) := by decide +kernel
theorem d_m_close_141 : decode b_m_close 141 = .ok (.ifCond .eq 7, 3) := by decide +kernel
theorem d_m_close_144 : decode b_m_close 144 = .ok (.iconst 1, 1) := by decide +kernel
theorem d_m_close_145 : decode b_m_close 145 = .ok (.goto 4, 3) := by decide +kernel
theorem d_m_close_148 : decode b_m_close 148 = .ok (.iconst 0, 1) := by decide +kernel
theorem d_m_close_149 : decode b_m_close 149 = .ok (.istore_n 1, 1) := by decide +kernel
theorem d_m_close_150 : decode b_m_close 150 = .ok (.iinc 3 1, 3) := by decide +kernel
theorem d_m_close_153 : decode b_m_close 153 = .ok (.goto (-77), 3) := by decide +kernel
theorem d_m_close_156 : decode b_m_close 156 = .ok (.iinc 2 1, 3) := by decide +kernel
theorem d_m_close_159 : decode b_m_close 159 = .ok (.goto (-149), 3) := by decide +kernel
theorem d_m_close_162 : decode b_m_close 162 = .ok (.goto (-160), 3) := by decide +kernel
theorem d_m_close_165 : decode b_m_close 165 = .ok (.return_, 1) := by decide +kernel
theorem d_m_add_0 : decode b_m_add 0 = .ok (.iload_n 1, 1) := by decide +kernel
theorem d_m_add_1 : decode b_m_add 1 = .ok (.ifCond .lt 12, 3) := by decide +kernel
theorem d_m_add_4 : decode b_m_add 4 = .ok (.aload_n 0, 1) := by decide +kernel
theorem d_m_add_5 : decode b_m_add 5 = .ok (.getfield 43, 3) := by decide +kernel
theorem d_m_add_8 : decode b_m_add 8 = .ok (.iload_n 1, 1) := by decide +kernel
theorem d_m_add_9 : decode b_m_add 9 = .ok (.baload, 1) := by decide +kernel
theorem d_m_add_10 : decode b_m_add 10 = .ok (.ifCond .eq 5, 3) := by decide +kernel
theorem d_m_add_13 : decode b_m_add 13 = .ok (.iconst 0, 1) := by decide +kernel
theorem d_m_add_14 : decode b_m_add 14 = .ok (.ireturn, 1) := by decide +kernel
theorem d_m_add_15 : decode b_m_add 15 = .ok (.aload_n 0, 1) := by decide +kernel
theorem d_m_add_16 : decode b_m_add 16 = .ok (.getfield 43, 3) := by decide +kernel
theorem d_m_add_19 : decode b_m_add 19 = .ok (.iload_n 1, 1) := by decide +kernel
theorem d_m_add_20 : decode b_m_add 20 = .ok (.iconst 1, 1) := by decide +kernel
theorem d_m_add_21 : decode b_m_add 21 = .ok (.bastore, 1) := by decide +kernel
theorem d_m_add_22 : decode b_m_add 22 = .ok (.iconst 1, 1) := by decide +kernel
theorem d_m_add_23 : decode b_m_add 23 = .ok (.ireturn, 1) := by decide +kernel
theorem d_m_forget_0 : decode b_m_forget 0 = .ok (.iconst 0, 1) := by decide +kernel
theorem d_m_forget_1 : decode b_m_forget 1 = .ok (.istore_n 1, 1) := by decide +kernel
theorem d_m_forget_2 : decode b_m_forget 2 = .ok (.iload_n 1, 1) := by decide +kernel
theorem d_m_forget_3 : decode b_m_forget 3 = .ok (.bipush 24, 2) := by decide +kernel
theorem d_m_forget_5 : decode b_m_forget 5 = .ok (.if_icmp .ge 125, 3) := by decide +kernel
theorem d_m_forget_8 : decode b_m_forget 8 = .ok (.aload_n 0, 1) := by decide +kernel
theorem d_m_forget_9 : decode b_m_forget 9 = .ok (.getfield 16, 3) := by decide +kernel
theorem d_m_forget_12 : decode b_m_forget 12 = .ok (.iconst 3, 1) := by decide +kernel
theorem d_m_forget_13 : decode b_m_forget 13 = .ok (.iload_n 1, 1) := by decide +kernel
theorem d_m_forget_14 : decode b_m_forget 14 = .ok (.imul, 1) := by decide +kernel
theorem d_m_forget_15 : decode b_m_forget 15 = .ok (.iaload, 1) := by decide +kernel
theorem d_m_forget_16 : decode b_m_forget 16 = .ok (.istore_n 2, 1) := by decide +kernel
theorem d_m_forget_17 : decode b_m_forget 17 = .ok (.aload_n 0, 1) := by decide +kernel
theorem d_m_forget_18 : decode b_m_forget 18 = .ok (.getfield 43, 3) := by decide +kernel
theorem d_m_forget_21 : decode b_m_forget 21 = .ok (.iload_n 1, 1) := by decide +kernel
theorem d_m_forget_22 : decode b_m_forget 22 = .ok (.baload, 1) := by decide +kernel
theorem d_m_forget_23 : decode b_m_forget 23 = .ok (.ifCond .eq 35, 3) := by decide +kernel
theorem d_m_forget_26 : decode b_m_forget 26 = .ok (.aload_n 0, 1) := by decide +kernel
theorem d_m_forget_27 : decode b_m_forget 27 = .ok (.getfield 7, 3) := by decide +kernel
theorem d_m_forget_30 : decode b_m_forget 30 = .ok (.iload_n 1, 1) := by decide +kernel
theorem d_m_forget_31 : decode b_m_forget 31 = .ok (.iaload, 1) := by decide +kernel
theorem d_m_forget_32 : decode b_m_forget 32 = .ok (.iconst 1, 1) := by decide +kernel
theorem d_m_forget_33 : decode b_m_forget 33 = .ok (.if_icmp .ne 25, 3) := by decide +kernel
theorem d_m_forget_36 : decode b_m_forget 36 = .ok (.iload_n 2, 1) := by decide +kernel
theorem d_m_forget_37 : decode b_m_forget 37 = .ok (.ifCond .lt 21, 3) := by decide +kernel
theorem d_m_forget_40 : decode b_m_forget 40 = .ok (.aload_n 0, 1) := by decide +kernel
theorem d_m_forget_41 : decode b_m_forget 41 = .ok (.getfield 43, 3) := by decide +kernel
theorem d_m_forget_44 : decode b_m_forget 44 = .ok (.iload_n 2, 1) := by decide +kernel
theorem d_m_forget_45 : decode b_m_forget 45 = .ok (.baload, 1) := by decide +kernel
theorem d_m_forget_46 : decode b_m_forget 46 = .ok (.ifCond .ne 12, 3) := by decide +kernel
theorem d_m_forget_49 : decode b_m_forget 49 = .ok (.aload_n 0, 1) := by decide +kernel
theorem d_m_forget_50 : decode b_m_forget 50 = .ok (.getfield 16, 3) := by decide +kernel
theorem d_m_forget_53 : decode b_m_forget 53 = .ok (.iconst 3, 1) := by decide +kernel
theorem d_m_forget_54 : decode b_m_forget 54 = .ok (.iload_n 1, 1) := by decide +kernel
theorem d_m_forget_55 : decode b_m_forget 55 = .ok (.imul, 1) := by decide +kernel
theorem d_m_forget_56 : decode b_m_forget 56 = .ok (.iconst (-1), 1) := by decide +kernel
theorem d_m_forget_57 : decode b_m_forget 57 = .ok (.iastore, 1) := by decide +kernel
theorem d_m_forget_58 : decode b_m_forget 58 = .ok (.aload_n 0, 1) := by decide +kernel
theorem d_m_forget_59 : decode b_m_forget 59 = .ok (.getfield 19, 3) := by decide +kernel
theorem d_m_forget_62 : decode b_m_forget 62 = .ok (.iload_n 1, 1) := by decide +kernel
theorem d_m_forget_63 : decode b_m_forget 63 = .ok (.iaload, 1) := by decide +kernel
theorem d_m_forget_64 : decode b_m_forget 64 = .ok (.iconst 1, 1) := by decide +kernel
theorem d_m_forget_65 : decode b_m_forget 65 = .ok (.isub, 1) := by decide +kernel
theorem d_m_forget_66 : decode b_m_forget 66 = .ok (.istore_n 3, 1) := by decide +kernel
theorem d_m_forget_67 : decode b_m_forget 67 = .ok (.iload_n 3, 1) := by decide +kernel
theorem d_m_forget_68 : decode b_m_forget 68 = .ok (.ifCond .lt 56, 3) := by decide +kernel
theorem d_m_forget_71 : decode b_m_forget 71 = .ok (.aload_n 0, 1) := by decide +kernel
theorem d_m_forget_72 : decode b_m_forget 72 = .ok (.getfield 43, 3) := by decide +kernel
theorem d_m_forget_75 : decode b_m_forget 75 = .ok (.iload_n 1, 1) := by decide +kernel
theorem d_m_forget_76 : decode b_m_forget 76 = .ok (.baload, 1) := by decide +kernel
theorem d_m_forget_77 : decode b_m_forget 77 = .ok (.ifCond .eq 47, 3) := by decide +kernel
theorem d_m_forget_80 : decode b_m_forget 80 = .ok (.aload_n 0, 1) := by decide +kernel
theorem d_m_forget_81 : decode b_m_forget 81 = .ok (.getfield 7, 3) := by decide +kernel
theorem d_m_forget_84 : decode b_m_forget 84 = .ok (.iload_n 1, 1) := by decide +kernel
theorem d_m_forget_85 : decode b_m_forget 85 = .ok (.iaload, 1) := by decide +kernel
theorem d_m_forget_86 : decode b_m_forget 86 = .ok (.iconst 2, 1) := by decide +kernel
theorem d_m_forget_87 : decode b_m_forget 87 = .ok (.if_icmp .ne 37, 3) := by decide +kernel
theorem d_m_forget_90 : decode b_m_forget 90 = .ok (.aload_n 0, 1) := by decide +kernel
theorem d_m_forget_91 : decode b_m_forget 91 = .ok (.getfield 43, 3) := by decide +kernel
theorem d_m_forget_94 : decode b_m_forget 94 = .ok (.aload_n 0, 1) := by decide +kernel
theorem d_m_forget_95 : decode b_m_forget 95 = .ok (.getfield 22, 3) := by decide +kernel
theorem d_m_forget_98 : decode b_m_forget 98 = .ok (.iconst 4, 1) := by decide +kernel
theorem d_m_forget_99 : decode b_m_forget 99 = .ok (.iload_n 1, 1) := by decide +kernel
theorem d_m_forget_100 : decode b_m_forget 100 = .ok (.imul, 1) := by decide +kernel
theorem d_m_forget_101 : decode b_m_forget 101 = .ok (.iload_n 3, 1) := by decide +kernel
theorem d_m_forget_102 : decode b_m_forget 102 = .ok (.iadd, 1) := by decide +kernel
theorem d_m_forget_103 : decode b_m_forget 103 = .ok (.iaload, 1) := by decide +kernel
theorem d_m_forget_104 : decode b_m_forget 104 = .ok (.baload, 1) := by decide +kernel
theorem d_m_forget_105 : decode b_m_forget 105 = .ok (.ifCond .ne 13, 3) := by decide +kernel
theorem d_m_forget_108 : decode b_m_forget 108 = .ok (.aload_n 0, 1) := by decide +kernel
theorem d_m_forget_109 : decode b_m_forget 109 = .ok (.iload_n 1, 1) := by decide +kernel
theorem d_m_forget_110 : decode b_m_forget 110 = .ok (.iconst 4, 1) := by decide +kernel
theorem d_m_forget_111 : decode b_m_forget 111 = .ok (.iload_n 1, 1) := by decide +kernel
theorem d_m_forget_112 : decode b_m_forget 112 = .ok (.imul, 1) := by decide +kernel
theorem d_m_forget_113 : decode b_m_forget 113 = .ok (.iload_n 3, 1) := by decide +kernel
theorem d_m_forget_114 : decode b_m_forget 114 = .ok (.iadd, 1) := by decide +kernel
theorem d_m_forget_115 : decode b_m_forget 115 = .ok (.invokevirtual 80, 3) := by decide +kernel
theorem d_m_forget_118 : decode b_m_forget 118 = .ok (.iinc 3 (-1), 3) := by decide +kernel
theorem d_m_forget_121 : decode b_m_forget 121 = .ok (.goto (-54), 3) := by decide +kernel
theorem d_m_forget_124 : decode b_m_forget 124 = .ok (.iinc 1 1, 3) := by decide +kernel
theorem d_m_forget_127 : decode b_m_forget 127 = .ok (.goto (-125), 3) := by decide +kernel
theorem d_m_forget_130 : decode b_m_forget 130 = .ok (.return_, 1) := by decide +kernel
theorem d_m_gather_0 : decode b_m_gather 0 = .ok (.aload_n 0, 1) := by decide +kernel
theorem d_m_gather_1 : decode b_m_gather 1 = .ok (.dup, 1) := by decide +kernel
theorem d_m_gather_2 : decode b_m_gather 2 = .ok (.getfield 90, 3) := by decide +kernel
theorem d_m_gather_5 : decode b_m_gather 5 = .ok (.iconst 1, 1) := by decide +kernel
theorem d_m_gather_6 : decode b_m_gather 6 = .ok (.iadd, 1) := by decide +kernel
theorem d_m_gather_7 : decode b_m_gather 7 = .ok (.putfield 90, 3) := by decide +kernel
theorem d_m_gather_10 : decode b_m_gather 10 = .ok (.iconst 0, 1) := by decide +kernel
theorem d_m_gather_11 : decode b_m_gather 11 = .ok (.istore_n 1, 1) := by decide +kernel
theorem d_m_gather_12 : decode b_m_gather 12 = .ok (.iload_n 1, 1) := by decide +kernel
theorem d_m_gather_13 : decode b_m_gather 13 = .ok (.bipush 24, 2) := by decide +kernel
theorem d_m_gather_15 : decode b_m_gather 15 = .ok (.if_icmp .ge 16, 3) := by decide +kernel
theorem d_m_gather_18 : decode b_m_gather 18 = .ok (.aload_n 0, 1) := by decide +kernel
theorem d_m_gather_19 : decode b_m_gather 19 = .ok (.getfield 43, 3) := by decide +kernel
theorem d_m_gather_22 : decode b_m_gather 22 = .ok (.iload_n 1, 1) := by decide +kernel
theorem d_m_gather_23 : decode b_m_gather 23 = .ok (.iconst 0, 1) := by decide +kernel
theorem d_m_gather_24 : decode b_m_gather 24 = .ok (.bastore, 1) := by decide +kernel
theorem d_m_gather_25 : decode b_m_gather 25 = .ok (.iinc 1 1, 3) := by decide +kernel
theorem d_m_gather_28 : decode b_m_gather 28 = .ok (.goto (-16), 3) := by decide +kernel
theorem d_m_gather_31 : decode b_m_gather 31 = .ok (.iconst 0, 1) := by decide +kernel
theorem d_m_gather_32 : decode b_m_gather 32 = .ok (.istore_n 1, 1) := by decide +kernel
theorem d_m_gather_33 : decode b_m_gather 33 = .ok (.iload_n 1, 1) := by decide +kernel
theorem d_m_gather_34 : decode b_m_gather 34 = .ok (.bipush 6, 2) := by decide +kernel
theorem d_m_gather_36 : decode b_m_gather 36 = .ok (.if_icmp .ge 20, 3) := by decide +kernel
theorem d_m_gather_39 : decode b_m_gather 39 = .ok (.aload_n 0, 1) := by decide +kernel
theorem d_m_gather_40 : decode b_m_gather 40 = .ok (.aload_n 0, 1) := by decide +kernel
theorem d_m_gather_41 : decode b_m_gather 41 = .ok (.getfield 37, 3) := by decide +kernel
theorem d_m_gather_44 : decode b_m_gather 44 = .ok (.iload_n 1, 1) := by decide +kernel
theorem d_m_gather_45 : decode b_m_gather 45 = .ok (.iaload, 1) := by decide +kernel
theorem d_m_gather_46 : decode b_m_gather 46 = .ok (.invokevirtual 87, 3) := by decide +kernel
theorem d_m_gather_49 : decode b_m_gather 49 = .ok (.pop, 1) := by decide +kernel
theorem d_m_gather_50 : decode b_m_gather 50 = .ok (.iinc 1 1, 3) := by decide +kernel
theorem d_m_gather_53 : decode b_m_gather 53 = .ok (.goto (-20), 3) := by decide +kernel
theorem d_m_gather_56 : decode b_m_gather 56 = .ok (.aload_n 0, 1) := by decide +kernel
theorem d_m_gather_57 : decode b_m_gather 57 = .ok (.invokevirtual 93, 3) := by decide +kernel
theorem d_m_gather_60 : decode b_m_gather 60 = .ok (.aload_n 0, 1) := by decide +kernel
theorem d_m_gather_61 : decode b_m_gather 61 = .ok (.invokevirtual 96, 3) := by decide +kernel
theorem d_m_gather_64 : decode b_m_gather 64 = .ok (.iconst 0, 1) := by decide +kernel
theorem d_m_gather_65 : decode b_m_gather 65 = .ok (.istore_n 1, 1) := by decide +kernel
theorem d_m_gather_66 : decode b_m_gather 66 = .ok (.iload_n 1, 1) := by decide +kernel
theorem d_m_gather_67 : decode b_m_gather 67 = .ok (.bipush 24, 2) := by decide +kernel
theorem d_m_gather_69 : decode b_m_gather 69 = .ok (.if_icmp .ge 64, 3) := by decide +kernel
theorem d_m_gather_72 : decode b_m_gather 72 = .ok (.aload_n 0, 1) := by decide +kernel
theorem d_m_gather_73 : decode b_m_gather 73 = .ok (.getfield 7, 3) := by decide +kernel
theorem d_m_gather_76 : decode b_m_gather 76 = .ok (.iload_n 1, 1) := by decide +kernel
theorem d_m_gather_77 : decode b_m_gather 77 = .ok (.iaload, 1) := by decide +kernel
theorem d_m_gather_78 : decode b_m_gather 78 = .ok (.ifCond .lt 49, 3) := by decide +kernel
theorem d_m_gather_81 : decode b_m_gather 81 = .ok (.aload_n 0, 1) := by decide +kernel
theorem d_m_gather_82 : decode b_m_gather 82 = .ok (.getfield 43, 3) := by decide +kernel
theorem d_m_gather_85 : decode b_m_gather 85 = .ok (.iload_n 1, 1) := by decide +kernel
theorem d_m_gather_86 : decode b_m_gather 86 = .ok (.baload, 1) := by decide +kernel
theorem d_m_gather_87 : decode b_m_gather 87 = .ok (.ifCond .ne 40, 3) := by decide +kernel
theorem d_m_gather_90 : decode b_m_gather 90 = .ok (.aload_n 0, 1) := by decide +kernel
theorem d_m_gather_91 : decode b_m_gather 91 = .ok (.getfield 28, 3) := by decide +kernel
theorem d_m_gather_94 : decode b_m_gather 94 = .ok (.iload_n 1, 1) := by decide +kernel
theorem d_m_gather_95 : decode b_m_gather 95 = .ok (.iaload, 1) := by decide +kernel
theorem d_m_gather_96 : decode b_m_gather 96 = .ok (.iconst 1, 1) := by decide +kernel
theorem d_m_gather_97 : decode b_m_gather 97 = .ok (.if_icmp .ne 30, 3) := by decide +kernel
theorem d_m_gather_100 : decode b_m_gather 100 = .ok (.aload_n 0, 1) := by decide +kernel
theorem d_m_gather_101 : decode b_m_gather 101 = .ok (.getfield 28, 3) := by decide +kernel
theorem d_m_gather_104 : decode b_m_gather 104 = .ok (.iload_n 1, 1) := by decide +kernel
theorem d_m_gather_105 : decode b_m_gather 105 = .ok (.iconst 2, 1) := by decide +kernel
theorem d_m_gather_106 : decode b_m_gather 106 = .ok (.iastore, 1) := by decide +kernel
theorem d_m_gather_107 : decode b_m_gather 107 = .ok (.aload_n 0, 1) := by decide +kernel
theorem d_m_gather_108 : decode b_m_gather 108 = .ok (.getfield 40, 3) := by decide +kernel
theorem d_m_gather_111 : decode b_m_gather 111 = .ok (.aload_n 0, 1) := by decide +kernel
theorem d_m_gather_112 : decode b_m_gather 112 = .ok (.getfield 99, 3) := by decide +kernel
theorem d_m_gather_115 : decode b_m_gather 115 = .ok (.iload_n 1, 1) := by decide +kernel
theorem d_m_gather_116 : decode b_m_gather 116 = .ok (.iastore, 1) := by decide +kernel
theorem d_m_gather_117 : decode b_m_gather 117 = .ok (.aload_n 0, 1) := by decide +kernel
theorem d_m_gather_118 : decode b_m_gather 118 = .ok (.dup, 1) := by decide +kernel
theorem d_m_gather_119 : decode b_m_gather 119 = .ok (.getfield 99, 3) := by decide +kernel
theorem d_m_gather_122 : decode b_m_gather 122 = .ok (.iconst 1, 1) := by decide +kernel
theorem d_m_gather_123 : decode b_m_gather 123 = .ok (.iadd, 1) := by decide +kernel
theorem d_m_gather_124 : decode b_m_gather 124 = .ok (.putfield 99, 3) := by decide +kernel
theorem d_m_gather_127 : decode b_m_gather 127 = .ok (.iinc 1 1, 3) := by decide +kernel
theorem d_m_gather_130 : decode b_m_gather 130 = .ok (.goto (-64), 3) := by decide +kernel
theorem d_m_gather_133 : decode b_m_gather 133 = .ok (.iconst 0, 1) := by decide +kernel
theorem d_m_gather_134 : decode b_m_gather 134 = .ok (.istore_n 1, 1) := by decide +kernel
theorem d_m_gather_135 : decode b_m_gather 135 = .ok (.iload_n 1, 1) := by decide +kernel
theorem d_m_gather_136 : decode b_m_gather 136 = .ok (.aload_n 0, 1) := by decide +kernel
theorem d_m_gather_137 : decode b_m_gather 137 = .ok (.getfield 99, 3) := by decide +kernel
theorem d_m_gather_140 : decode b_m_gather 140 = .ok (.if_icmp .ge 20, 3) := by decide +kernel
theorem d_m_gather_143 : decode b_m_gather 143 = .ok (.aload_n 0, 1) := by decide +kernel
theorem d_m_gather_144 : decode b_m_gather 144 = .ok (.aload_n 0, 1) := by decide +kernel
theorem d_m_gather_145 : decode b_m_gather 145 = .ok (.getfield 40, 3) := by decide +kernel
theorem d_m_gather_148 : decode b_m_gather 148 = .ok (.iload_n 1, 1) := by decide +kernel
theorem d_m_gather_149 : decode b_m_gather 149 = .ok (.iaload, 1) := by decide +kernel
theorem d_m_gather_150 : decode b_m_gather 150 = .ok (.invokevirtual 87, 3) := by decide +kernel
theorem d_m_gather_153 : decode b_m_gather 153 = .ok (.pop, 1) := by decide +kernel
theorem d_m_gather_154 : decode b_m_gather 154 = .ok (.iinc 1 1, 3) := by decide +kernel
theorem d_m_gather_157 : decode b_m_gather 157 = .ok (.goto (-22), 3) := by decide +kernel
theorem d_m_gather_160 : decode b_m_gather 160 = .ok (.aload_n 0, 1) := by decide +kernel
theorem d_m_gather_161 : decode b_m_gather 161 = .ok (.invokevirtual 93, 3) := by decide +kernel
theorem d_m_gather_164 : decode b_m_gather 164 = .ok (.aload_n 0, 1) := by decide +kernel
theorem d_m_gather_165 : decode b_m_gather 165 = .ok (.invokevirtual 96, 3) := by decide +kernel
theorem d_m_gather_168 : decode b_m_gather 168 = .ok (.iconst 0, 1) := by decide +kernel
theorem d_m_gather_169 : decode b_m_gather 169 = .ok (.istore_n 1, 1) := by decide +kernel
theorem d_m_gather_170 : decode b_m_gather 170 = .ok (.iconst 0, 1) := by decide +kernel
theorem d_m_gather_171 : decode b_m_gather 171 = .ok (.istore_n 2, 1) := by decide +kernel
theorem d_m_gather_172 : decode b_m_gather 172 = .ok (.iload_n 2, 1) := by decide +kernel
theorem d_m_gather_173 : decode b_m_gather 173 = .ok (.bipush 24, 2) := by decide +kernel
theorem d_m_gather_175 : decode b_m_gather 175 = .ok (.if_icmp .ge 60, 3) := by decide +kernel
theorem d_m_gather_178 : decode b_m_gather 178 = .ok (.aload_n 0, 1) := by decide +kernel
theorem d_m_gather_179 : decode b_m_gather 179 = .ok (.getfield 7, 3) := by decide +kernel
theorem d_m_gather_182 : decode b_m_gather 182 = .ok (.iload_n 2, 1) := by decide +kernel
theorem d_m_gather_183 : decode b_m_gather 183 = .ok (.iaload, 1) := by decide +kernel
theorem d_m_gather_184 : decode b_m_gather 184 = .ok (.ifCond .lt 45, 3) := by decide +kernel
theorem d_m_gather_187 : decode b_m_gather 187 = .ok (.aload_n 0, 1) := by decide +kernel
theorem d_m_gather_188 : decode b_m_gather 188 = .ok (.getfield 43, 3) := by decide +kernel
theorem d_m_gather_191 : decode b_m_gather 191 = .ok (.iload_n 2, 1) := by decide +kernel
theorem d_m_gather_192 : decode b_m_gather 192 = .ok (.baload, 1) := by decide +kernel
theorem d_m_gather_193 : decode b_m_gather 193 = .ok (.ifCond .ne 36, 3) := by decide +kernel
theorem d_m_gather_196 : decode b_m_gather 196 = .ok (.aload_n 0, 1) := by decide +kernel
theorem d_m_gather_197 : decode b_m_gather 197 = .ok (.getfield 7, 3) := by decide +kernel
theorem d_m_gather_200 : decode b_m_gather 200 = .ok (.iload_n 2, 1) := by decide +kernel
theorem d_m_gather_201 : decode b_m_gather 201 = .ok (.iconst (-1), 1) := by decide +kernel
theorem d_m_gather_202 : decode b_m_gather 202 = .ok (.iastore, 1) := by decide +kernel
theorem d_m_gather_203 : decode b_m_gather 203 = .ok (.aload_n 0, 1) := by decide +kernel
theorem d_m_gather_204 : decode b_m_gather 204 = .ok (.getfield 19, 3) := by decide +kernel
theorem d_m_gather_207 : decode b_m_gather 207 = .ok (.iload_n 2, 1) := by decide +kernel
theorem d_m_gather_208 : decode b_m_gather 208 = .ok (.iconst 0, 1) := by decide +kernel
theorem d_m_gather_209 : decode b_m_gather 209 = .ok (.iastore, 1) := by decide +kernel
theorem d_m_gather_210 : decode b_m_gather 210 = .ok (.aload_n 0, 1) := by decide +kernel
theorem d_m_gather_211 : decode b_m_gather 211 = .ok (.getfield 16, 3) := by decide +kernel
theorem d_m_gather_214 : decode b_m_gather 214 = .ok (.iconst 3, 1) := by decide +kernel
theorem d_m_gather_215 : decode b_m_gather 215 = .ok (.iload_n 2, 1) := by decide +kernel
theorem d_m_gather_216 : decode b_m_gather 216 = .ok (.imul, 1) := by decide +kernel
theorem d_m_gather_217 : decode b_m_gather 217 = .ok (.iconst (-1), 1) := by decide +kernel
theorem d_m_gather_218 : decode b_m_gather 218 = .ok (.iastore, 1) := by decide +kernel
theorem d_m_gather_219 : decode b_m_gather 219 = .ok (.aload_n 0, 1) := by decide +kernel
theorem d_m_gather_220 : decode b_m_gather 220 = .ok (.getfield 28, 3) := by decide +kernel
theorem d_m_gather_223 : decode b_m_gather 223 = .ok (.iload_n 2, 1) := by decide +kernel
theorem d_m_gather_224 : decode b_m_gather 224 = .ok (.iconst 0, 1) := by decide +kernel
theorem d_m_gather_225 : decode b_m_gather 225 = .ok (.iastore, 1) := by decide +kernel
theorem d_m_gather_226 : decode b_m_gather 226 = .ok (.iinc 1 1, 3) := by decide +kernel
theorem d_m_gather_229 : decode b_m_gather 229 = .ok (.iinc 2 1, 3) := by decide +kernel
theorem d_m_gather_232 : decode b_m_gather 232 = .ok (.goto (-60), 3) := by decide +kernel
theorem d_m_gather_235 : decode b_m_gather 235 = .ok (.iload_n 1, 1) := by decide +kernel
theorem d_m_gather_236 : decode b_m_gather 236 = .ok (.ireturn, 1) := by decide +kernel
theorem d_m_collect_0 : decode b_m_collect 0 = .ok (.aload_n 0, 1) := by decide +kernel
theorem d_m_collect_1 : decode b_m_collect 1 = .ok (.iconst 0, 1) := by decide +kernel
theorem d_m_collect_2 : decode b_m_collect 2 = .ok (.putfield 47, 3) := by decide +kernel
theorem d_m_collect_5 : decode b_m_collect 5 = .ok (.aload_n 0, 1) := by decide +kernel
theorem d_m_collect_6 : decode b_m_collect 6 = .ok (.invokevirtual 55, 3) := by decide +kernel
theorem d_m_collect_9 : decode b_m_collect 9 = .ok (.ireturn, 1) := by decide +kernel
theorem d_m_run_0 : decode b_m_run 0 = .ok (.aload_n 0, 1) := by decide +kernel
theorem d_m_run_1 : decode b_m_run 1 = .ok (.aload_n 0, 1) := by decide +kernel
theorem d_m_run_2 : decode b_m_run 2 = .ok (.getfield 99, 3) := by decide +kernel
theorem d_m_run_5 : decode b_m_run 5 = .ok (.ifCond .ne 7, 3) := by decide +kernel
theorem d_m_run_8 : decode b_m_run 8 = .ok (.iconst 1, 1) := by decide +kernel
theorem d_m_run_9 : decode b_m_run 9 = .ok (.goto 4, 3) := by decide +kernel
theorem d_m_run_12 : decode b_m_run 12 = .ok (.iconst 0, 1) := by decide +kernel
theorem d_m_run_13 : decode b_m_run 13 = .ok (.putfield 47, 3) := by decide +kernel
theorem d_m_run_16 : decode b_m_run 16 = .ok (.aload_n 0, 1) := by decide +kernel
theorem d_m_run_17 : decode b_m_run 17 = .ok (.getfield 47, 3) := by decide +kernel
theorem d_m_run_20 : decode b_m_run 20 = .ok (.ifCond .le 5, 3) := by decide +kernel
theorem d_m_run_23 : decode b_m_run 23 = .ok (.iconst 0, 1) := by decide +kernel
theorem d_m_run_24 : decode b_m_run 24 = .ok (.ireturn, 1) := by decide +kernel
theorem d_m_run_25 : decode b_m_run 25 = .ok (.aload_n 0, 1) := by decide +kernel
theorem d_m_run_26 : decode b_m_run 26 = .ok (.getfield 40, 3) := by decide +kernel
theorem d_m_run_29 : decode b_m_run 29 = .ok (.iconst 0, 1) := by decide +kernel
theorem d_m_run_30 : decode b_m_run 30 = .ok (.iaload, 1) := by decide +kernel
theorem d_m_run_31 : decode b_m_run 31 = .ok (.istore_n 1, 1) := by decide +kernel
theorem d_m_run_32 : decode b_m_run 32 = .ok (.aload_n 0, 1) := by decide +kernel
theorem d_m_run_33 : decode b_m_run 33 = .ok (.dup, 1) := by decide +kernel
theorem d_m_run_34 : decode b_m_run 34 = .ok (.getfield 99, 3) := by decide +kernel
theorem d_m_run_37 : decode b_m_run 37 = .ok (.iconst 1, 1) := by decide +kernel
theorem d_m_run_38 : decode b_m_run 38 = .ok (.isub, 1) := by decide +kernel
theorem d_m_run_39 : decode b_m_run 39 = .ok (.putfield 99, 3) := by decide +kernel
theorem d_m_run_42 : decode b_m_run 42 = .ok (.iconst 0, 1) := by decide +kernel
theorem d_m_run_43 : decode b_m_run 43 = .ok (.istore_n 2, 1) := by decide +kernel
theorem d_m_run_44 : decode b_m_run 44 = .ok (.iload_n 2, 1) := by decide +kernel
theorem d_m_run_45 : decode b_m_run 45 = .ok (.aload_n 0, 1) := by decide +kernel
theorem d_m_run_46 : decode b_m_run 46 = .ok (.getfield 99, 3) := by decide +kernel
theorem d_m_run_49 : decode b_m_run 49 = .ok (.if_icmp .ge 23, 3) := by decide +kernel
theorem d_m_run_52 : decode b_m_run 52 = .ok (.aload_n 0, 1) := by decide +kernel
theorem d_m_run_53 : decode b_m_run 53 = .ok (.getfield 40, 3) := by decide +kernel
theorem d_m_run_56 : decode b_m_run 56 = .ok (.iload_n 2, 1) := by decide +kernel
theorem d_m_run_57 : decode b_m_run 57 = .ok (.aload_n 0, 1) := by decide +kernel
theorem d_m_run_58 : decode b_m_run 58 = .ok (.getfield 40, 3) := by decide +kernel
theorem d_m_run_61 : decode b_m_run 61 = .ok (.iload_n 2, 1) := by decide +kernel
theorem d_m_run_62 : decode b_m_run 62 = .ok (.iconst 1, 1) := by decide +kernel
theorem d_m_run_63 : decode b_m_run 63 = .ok (.iadd, 1) := by decide +kernel
theorem d_m_run_64 : decode b_m_run 64 = .ok (.iaload, 1) := by decide +kernel
theorem d_m_run_65 : decode b_m_run 65 = .ok (.iastore, 1) := by decide +kernel
theorem d_m_run_66 : decode b_m_run 66 = .ok (.iinc 2 1, 3) := by decide +kernel
theorem d_m_run_69 : decode b_m_run 69 = .ok (.goto (-25), 3) := by decide +kernel
theorem d_m_run_72 : decode b_m_run 72 = .ok (.aload_n 0, 1) := by decide +kernel
theorem d_m_run_73 : decode b_m_run 73 = .ok (.getfield 28, 3) := by decide +kernel
theorem d_m_run_76 : decode b_m_run 76 = .ok (.iload_n 1, 1) := by decide +kernel
theorem d_m_run_77 : decode b_m_run 77 = .ok (.iconst 3, 1) := by decide +kernel
theorem d_m_run_78 : decode b_m_run 78 = .ok (.iastore, 1) := by decide +kernel
theorem d_m_run_79 : decode b_m_run 79 = .ok (.aload_n 0, 1) := by decide +kernel
theorem d_m_run_80 : decode b_m_run 80 = .ok (.getfield 31, 3) := by decide +kernel
theorem d_m_run_83 : decode b_m_run 83 = .ok (.iload_n 1, 1) := by decide +kernel
theorem d_m_run_84 : decode b_m_run 84 = .ok (.iaload, 1) := by decide +kernel
theorem d_m_run_85 : decode b_m_run 85 = .ok (.iconst 1, 1) := by decide +kernel
theorem d_m_run_86 : decode b_m_run 86 = .ok (.if_icmp .ne 15, 3) := by decide +kernel
theorem d_m_run_89 : decode b_m_run 89 = .ok (.aload_n 0, 1) := by decide +kernel
theorem d_m_run_90 : decode b_m_run 90 = .ok (.getfield 37, 3) := by decide +kernel
theorem d_m_run_93 : decode b_m_run 93 = .ok (.aload_n 0, 1) := by decide +kernel
theorem d_m_run_94 : decode b_m_run 94 = .ok (.getfield 34, 3) := by decide +kernel
theorem d_m_run_97 : decode b_m_run 97 = .ok (.iload_n 1, 1) := by decide +kernel
theorem d_m_run_98 : decode b_m_run 98 = .ok (.iaload, 1) := by decide +kernel
theorem d_m_run_99 : decode b_m_run 99 = .ok (.iload_n 1, 1) := by decide +kernel
theorem d_m_run_100 : decode b_m_run 100 = .ok (.iastore, 1) := by decide +kernel
theorem d_m_run_101 : decode b_m_run 101 = .ok (.aload_n 0, 1) := by decide +kernel
theorem d_m_run_102 : decode b_m_run 102 = .ok (.getfield 31, 3) := by decide +kernel
theorem d_m_run_105 : decode b_m_run 105 = .ok (.iload_n 1, 1) := by decide +kernel
theorem d_m_run_106 : decode b_m_run 106 = .ok (.iaload, 1) := by decide +kernel
theorem d_m_run_107 : decode b_m_run 107 = .ok (.iconst 2, 1) := by decide +kernel
theorem d_m_run_108 : decode b_m_run 108 = .ok (.if_icmp .ne 31, 3) := by decide +kernel
theorem d_m_run_111 : decode b_m_run 111 = .ok (.aload_n 0, 1) := by decide +kernel
theorem d_m_run_112 : decode b_m_run 112 = .ok (.getfield 7, 3) := by decide +kernel
theorem d_m_run_115 : decode b_m_run 115 = .ok (.iload_n 1, 1) := by decide +kernel
theorem d_m_run_116 : decode b_m_run 116 = .ok (.iaload, 1) := by decide +kernel
theorem d_m_run_117 : decode b_m_run 117 = .ok (.ifCond .ne 22, 3) := by decide +kernel
theorem d_m_run_120 : decode b_m_run 120 = .ok (.aload_n 0, 1) := by decide +kernel
theorem d_m_run_121 : decode b_m_run 121 = .ok (.getfield 37, 3) := by decide +kernel
theorem d_m_run_124 : decode b_m_run 124 = .ok (.aload_n 0, 1) := by decide +kernel
theorem d_m_run_125 : decode b_m_run 125 = .ok (.getfield 34, 3) := by decide +kernel
theorem d_m_run_128 : decode b_m_run 128 = .ok (.iload_n 1, 1) := by decide +kernel
theorem d_m_run_129 : decode b_m_run 129 = .ok (.iaload, 1) := by decide +kernel
theorem d_m_run_130 : decode b_m_run 130 = .ok (.aload_n 0, 1) := by decide +kernel
theorem d_m_run_131 : decode b_m_run 131 = .ok (.getfield 16, 3) := by decide +kernel
theorem d_m_run_134 : decode b_m_run 134 = .ok (.iconst 3, 1) := by decide +kernel
theorem d_m_run_135 : decode b_m_run 135 = .ok (.iload_n 1, 1) := by decide +kernel
theorem d_m_run_136 : decode b_m_run 136 = .ok (.imul, 1) := by decide +kernel
theorem d_m_run_137 : decode b_m_run 137 = .ok (.iaload, 1) := by decide +kernel
theorem d_m_run_138 : decode b_m_run 138 = .ok (.iastore, 1) := by decide +kernel
theorem d_m_run_139 : decode b_m_run 139 = .ok (.aload_n 0, 1) := by decide +kernel
theorem d_m_run_140 : decode b_m_run 140 = .ok (.getfield 31, 3) := by decide +kernel
theorem d_m_run_143 : decode b_m_run 143 = .ok (.iload_n 1, 1) := by decide +kernel
theorem d_m_run_144 : decode b_m_run 144 = .ok (.iaload, 1) := by decide +kernel
theorem d_m_run_145 : decode b_m_run 145 = .ok (.iconst 3, 1) := by decide +kernel
theorem d_m_run_146 : decode b_m_run 146 = .ok (.if_icmp .ne 8, 3) := by decide +kernel
theorem d_m_run_149 : decode b_m_run 149 = .ok (.aload_n 0, 1) := by decide +kernel
theorem d_m_run_150 : decode b_m_run 150 = .ok (.iload_n 1, 1) := by decide +kernel
theorem d_m_run_151 : decode b_m_run 151 = .ok (.invokevirtual 61, 3) := by decide +kernel
theorem d_m_run_154 : decode b_m_run 154 = .ok (.iload_n 1, 1) := by decide +kernel
theorem d_m_run_155 : decode b_m_run 155 = .ok (.ireturn, 1) := by decide +kernel
theorem d_m_queued_0 : decode b_m_queued 0 = .ok (.aload_n 0, 1) := by decide +kernel
theorem d_m_queued_1 : decode b_m_queued 1 = .ok (.iconst 0, 1) := by decide +kernel
theorem d_m_queued_2 : decode b_m_queued 2 = .ok (.putfield 47, 3) := by decide +kernel
theorem d_m_queued_5 : decode b_m_queued 5 = .ok (.aload_n 0, 1) := by decide +kernel
theorem d_m_queued_6 : decode b_m_queued 6 = .ok (.getfield 99, 3) := by decide +kernel
theorem d_m_queued_9 : decode b_m_queued 9 = .ok (.ireturn, 1) := by decide +kernel
theorem d_m_used_0 : decode b_m_used 0 = .ok (.aload_n 0, 1) := by decide +kernel
theorem d_m_used_1 : decode b_m_used 1 = .ok (.iconst 0, 1) := by decide +kernel
theorem d_m_used_2 : decode b_m_used 2 = .ok (.putfield 47, 3) := by decide +kernel
theorem d_m_used_5 : decode b_m_used 5 = .ok (.iconst 0, 1) := by decide +kernel
theorem d_m_used_6 : decode b_m_used 6 = .ok (.istore_n 1, 1) := by decide +kernel
theorem d_m_used_7 : decode b_m_used 7 = .ok (.iconst 0, 1) := by decide +kernel
theorem d_m_used_8 : decode b_m_used 8 = .ok (.istore_n 2, 1) := by decide +kernel
theorem d_m_used_9 : decode b_m_used 9 = .ok (.iload_n 2, 1) := by decide +kernel
theorem d_m_used_10 : decode b_m_used 10 = .ok (.bipush 24, 2) := by decide +kernel
theorem d_m_used_12 : decode b_m_used 12 = .ok (.if_icmp .ge 28, 3) := by decide +kernel
theorem d_m_used_15 : decode b_m_used 15 = .ok (.aload_n 0, 1) := by decide +kernel
theorem d_m_used_16 : decode b_m_used 16 = .ok (.getfield 7, 3) := by decide +kernel
theorem d_m_used_19 : decode b_m_used 19 = .ok (.iload_n 2, 1) := by decide +kernel
theorem d_m_used_20 : decode b_m_used 20 = .ok (.iaload, 1) := by decide +kernel
theorem d_m_used_21 : decode b_m_used 21 = .ok (.ifCond .lt 11, 3) := by decide +kernel
theorem d_m_used_24 : decode b_m_used 24 = .ok (.iload_n 1, 1) := by decide +kernel
theorem d_m_used_25 : decode b_m_used 25 = .ok (.iconst 1, 1) := by decide +kernel
theorem d_m_used_26 : decode b_m_used 26 = .ok (.iload_n 2, 1) := by decide +kernel
theorem d_m_used_27 : decode b_m_used 27 = .ok (.ishl, 1) := by decide +kernel
theorem d_m_used_28 : decode b_m_used 28 = .ok (.ior, 1) := by decide +kernel
theorem d_m_used_29 : decode b_m_used 29 = .ok (.goto 4, 3) := by decide +kernel
theorem d_m_used_32 : decode b_m_used 32 = .ok (.iload_n 1, 1) := by decide +kernel
theorem d_m_used_33 : decode b_m_used 33 = .ok (.istore_n 1, 1) := by decide +kernel
theorem d_m_used_34 : decode b_m_used 34 = .ok (.iinc 2 1, 3) := by decide +kernel
theorem d_m_used_37 : decode b_m_used 37 = .ok (.goto (-28), 3) := by decide +kernel
theorem d_m_used_40 : decode b_m_used 40 = .ok (.iload_n 1, 1) := by decide +kernel
theorem d_m_used_41 : decode b_m_used 41 = .ok (.ireturn, 1) := by decide +kernel
theorem d_m_kind_0 : decode b_m_kind 0 = .ok (.aload_n 0, 1) := by decide +kernel
theorem d_m_kind_1 : decode b_m_kind 1 = .ok (.aload_n 0, 1) := by decide +kernel
theorem d_m_kind_2 : decode b_m_kind 2 = .ok (.iload_n 1, 1) := by decide +kernel
theorem d_m_kind_3 : decode b_m_kind 3 = .ok (.invokevirtual 65, 3) := by decide +kernel
theorem d_m_kind_6 : decode b_m_kind 6 = .ok (.ifCond .eq 7, 3) := by decide +kernel
theorem d_m_kind_9 : decode b_m_kind 9 = .ok (.iconst 0, 1) := by decide +kernel
theorem d_m_kind_10 : decode b_m_kind 10 = .ok (.goto 4, 3) := by decide +kernel
theorem d_m_kind_13 : decode b_m_kind 13 = .ok (.iconst 1, 1) := by decide +kernel
theorem d_m_kind_14 : decode b_m_kind 14 = .ok (.putfield 47, 3) := by decide +kernel
theorem d_m_kind_17 : decode b_m_kind 17 = .ok (.aload_n 0, 1) := by decide +kernel
theorem d_m_kind_18 : decode b_m_kind 18 = .ok (.getfield 47, 3) := by decide +kernel
theorem d_m_kind_21 : decode b_m_kind 21 = .ok (.ifCond .le 7, 3) := by decide +kernel
theorem d_m_kind_24 : decode b_m_kind 24 = .ok (.iconst 0, 1) := by decide +kernel
theorem d_m_kind_25 : decode b_m_kind 25 = .ok (.goto 18, 3) := by decide +kernel
theorem d_m_kind_28 : decode b_m_kind 28 = .ok (.aload_n 0, 1) := by decide +kernel
theorem d_m_kind_29 : decode b_m_kind 29 = .ok (.getfield 7, 3) := by decide +kernel
theorem d_m_kind_32 : decode b_m_kind 32 = .ok (.iload_n 1, 1) := by decide +kernel
theorem d_m_kind_33 : decode b_m_kind 33 = .ok (.iaload, 1) := by decide +kernel
theorem d_m_kind_34 : decode b_m_kind 34 = .ok (.iconst 4, 1) := by decide +kernel
theorem d_m_kind_35 : decode b_m_kind 35 = .ok (.aload_n 0, 1) := by decide +kernel
theorem d_m_kind_36 : decode b_m_kind 36 = .ok (.getfield 28, 3) := by decide +kernel
theorem d_m_kind_39 : decode b_m_kind 39 = .ok (.iload_n 1, 1) := by decide +kernel
theorem d_m_kind_40 : decode b_m_kind 40 = .ok (.iaload, 1) := by decide +kernel
theorem d_m_kind_41 : decode b_m_kind 41 = .ok (.imul, 1) := by decide +kernel
theorem d_m_kind_42 : decode b_m_kind 42 = .ok (.iadd, 1) := by decide +kernel
theorem d_m_kind_43 : decode b_m_kind 43 = .ok (.ireturn, 1) := by decide +kernel
theorem d_m_serial_0 : decode b_m_serial 0 = .ok (.aload_n 0, 1) := by decide +kernel
theorem d_m_serial_1 : decode b_m_serial 1 = .ok (.aload_n 0, 1) := by decide +kernel
theorem d_m_serial_2 : decode b_m_serial 2 = .ok (.iload_n 1, 1) := by decide +kernel
theorem d_m_serial_3 : decode b_m_serial 3 = .ok (.invokevirtual 65, 3) := by decide +kernel
theorem d_m_serial_6 : decode b_m_serial 6 = .ok (.ifCond .eq 7, 3) := by decide +kernel
theorem d_m_serial_9 : decode b_m_serial 9 = .ok (.iconst 0, 1) := by decide +kernel
theorem d_m_serial_10 : decode b_m_serial 10 = .ok (.goto 4, 3) := by decide +kernel
theorem d_m_serial_13 : decode b_m_serial 13 = .ok (.iconst 1, 1) := by decide +kernel
theorem d_m_serial_14 : decode b_m_serial 14 = .ok (.putfield 47, 3) := by decide +kernel
theorem d_m_serial_17 : decode b_m_serial 17 = .ok (.aload_n 0, 1) := by decide +kernel
theorem d_m_serial_18 : decode b_m_serial 18 = .ok (.getfield 47, 3) := by decide +kernel
theorem d_m_serial_21 : decode b_m_serial 21 = .ok (.ifCond .le 7, 3) := by decide +kernel
theorem d_m_serial_24 : decode b_m_serial 24 = .ok (.iconst 0, 1) := by decide +kernel
theorem d_m_serial_25 : decode b_m_serial 25 = .ok (.goto 9, 3) := by decide +kernel
theorem d_m_serial_28 : decode b_m_serial 28 = .ok (.aload_n 0, 1) := by decide +kernel
theorem d_m_serial_29 : decode b_m_serial 29 = .ok (.getfield 13, 3) := by decide +kernel
theorem d_m_serial_32 : decode b_m_serial 32 = .ok (.iload_n 1, 1) := by decide +kernel
theorem d_m_serial_33 : decode b_m_serial 33 = .ok (.iaload, 1) := by decide +kernel
theorem d_m_serial_34 : decode b_m_serial 34 = .ok (.ireturn, 1) := by decide +kernel
theorem d_m_collections_0 : decode b_m_collections 0 = .ok (.aload_n 0, 1) := by decide +kernel
theorem d_m_collections_1 : decode b_m_collections 1 = .ok (.iconst 0, 1) := by decide +kernel
theorem d_m_collections_2 : decode b_m_collections 2 = .ok (.putfield 47, 3) := by decide +kernel
theorem d_m_collections_5 : decode b_m_collections 5 = .ok (.aload_n 0, 1) := by decide +kernel
theorem d_m_collections_6 : decode b_m_collections 6 = .ok (.getfield 90, 3) := by decide +kernel
theorem d_m_collections_9 : decode b_m_collections 9 = .ok (.ireturn, 1) := by decide +kernel
