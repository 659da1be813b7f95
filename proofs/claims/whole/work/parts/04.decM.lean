theorem dX8_init_0 : decode cX8_init 0 = .ok (.aload_n 0, 1) := by decide +kernel
theorem dX8_init_1 : decode cX8_init 1 = .ok (.invokespecial 1, 3) := by decide +kernel
theorem dX8_init_4 : decode cX8_init 4 = .ok (.aload_n 0, 1) := by decide +kernel
theorem dX8_init_5 : decode cX8_init 5 = .ok (.iconst 2, 1) := by decide +kernel
theorem dX8_init_6 : decode cX8_init 6 = .ok (.putfield 7, 3) := by decide +kernel
theorem dX8_init_9 : decode cX8_init 9 = .ok (.aload_n 0, 1) := by decide +kernel
theorem dX8_init_10 : decode cX8_init 10 = .ok (.bipush 60, 2) := by decide +kernel
theorem dX8_init_12 : decode cX8_init 12 = .ok (.newarray .int, 2) := by decide +kernel
theorem dX8_init_14 : decode cX8_init 14 = .ok (.putfield 13, 3) := by decide +kernel
theorem dX8_init_17 : decode cX8_init 17 = .ok (.aload_n 0, 1) := by decide +kernel
theorem dX8_init_18 : decode cX8_init 18 = .ok (.iconst (-1), 1) := by decide +kernel
theorem dX8_init_19 : decode cX8_init 19 = .ok (.putfield 17, 3) := by decide +kernel
theorem dX8_init_22 : decode cX8_init 22 = .ok (.aload_n 0, 1) := by decide +kernel
theorem dX8_init_23 : decode cX8_init 23 = .ok (.sipush 366, 3) := by decide +kernel
theorem dX8_init_26 : decode cX8_init 26 = .ok (.newarray .int, 2) := by decide +kernel
theorem dX8_init_28 : decode cX8_init 28 = .ok (.putfield 20, 3) := by decide +kernel
theorem dX8_init_31 : decode cX8_init 31 = .ok (.aload_n 0, 1) := by decide +kernel
theorem dX8_init_32 : decode cX8_init 32 = .ok (.bipush 30, 2) := by decide +kernel
theorem dX8_init_34 : decode cX8_init 34 = .ok (.newarray .int, 2) := by decide +kernel
theorem dX8_init_36 : decode cX8_init 36 = .ok (.putfield 23, 3) := by decide +kernel
theorem dX8_init_39 : decode cX8_init 39 = .ok (.aload_n 0, 1) := by decide +kernel
theorem dX8_init_40 : decode cX8_init 40 = .ok (.bipush 6, 2) := by decide +kernel
theorem dX8_init_42 : decode cX8_init 42 = .ok (.newarray .int, 2) := by decide +kernel
theorem dX8_init_44 : decode cX8_init 44 = .ok (.putfield 26, 3) := by decide +kernel
theorem dX8_init_47 : decode cX8_init 47 = .ok (.aload_n 0, 1) := by decide +kernel
theorem dX8_init_48 : decode cX8_init 48 = .ok (.bipush 6, 2) := by decide +kernel
theorem dX8_init_50 : decode cX8_init 50 = .ok (.newarray .int, 2) := by decide +kernel
theorem dX8_init_52 : decode cX8_init 52 = .ok (.putfield 29, 3) := by decide +kernel
theorem dX8_init_55 : decode cX8_init 55 = .ok (.aload_n 0, 1) := by decide +kernel
theorem dX8_init_56 : decode cX8_init 56 = .ok (.bipush 6, 2) := by decide +kernel
theorem dX8_init_58 : decode cX8_init 58 = .ok (.newarray .boolean, 2) := by decide +kernel
theorem dX8_init_60 : decode cX8_init 60 = .ok (.putfield 32, 3) := by decide +kernel
theorem dX8_init_63 : decode cX8_init 63 = .ok (.aload_n 0, 1) := by decide +kernel
theorem dX8_init_64 : decode cX8_init 64 = .ok (.bipush 6, 2) := by decide +kernel
theorem dX8_init_66 : decode cX8_init 66 = .ok (.newarray .int, 2) := by decide +kernel
theorem dX8_init_68 : decode cX8_init 68 = .ok (.putfield 36, 3) := by decide +kernel
theorem dX8_init_71 : decode cX8_init 71 = .ok (.aload_n 0, 1) := by decide +kernel
theorem dX8_init_72 : decode cX8_init 72 = .ok (.bipush 6, 2) := by decide +kernel
theorem dX8_init_74 : decode cX8_init 74 = .ok (.newarray .int, 2) := by decide +kernel
theorem dX8_init_76 : decode cX8_init 76 = .ok (.putfield 39, 3) := by decide +kernel
theorem dX8_init_79 : decode cX8_init 79 = .ok (.aload_n 0, 1) := by decide +kernel
theorem dX8_init_80 : decode cX8_init 80 = .ok (.bipush 6, 2) := by decide +kernel
theorem dX8_init_82 : decode cX8_init 82 = .ok (.newarray .boolean, 2) := by decide +kernel
theorem dX8_init_84 : decode cX8_init 84 = .ok (.putfield 42, 3) := by decide +kernel
theorem dX8_init_87 : decode cX8_init 87 = .ok (.aload_n 0, 1) := by decide +kernel
theorem dX8_init_88 : decode cX8_init 88 = .ok (.bipush 36, 2) := by decide +kernel
theorem dX8_init_90 : decode cX8_init 90 = .ok (.newarray .int, 2) := by decide +kernel
theorem dX8_init_92 : decode cX8_init 92 = .ok (.putfield 45, 3) := by decide +kernel
theorem dX8_init_95 : decode cX8_init 95 = .ok (.aload_n 0, 1) := by decide +kernel
theorem dX8_init_96 : decode cX8_init 96 = .ok (.bipush 36, 2) := by decide +kernel
theorem dX8_init_98 : decode cX8_init 98 = .ok (.newarray .int, 2) := by decide +kernel
theorem dX8_init_100 : decode cX8_init 100 = .ok (.putfield 48, 3) := by decide +kernel
theorem dX8_init_103 : decode cX8_init 103 = .ok (.aload_n 0, 1) := by decide +kernel
theorem dX8_init_104 : decode cX8_init 104 = .ok (.bipush 36, 2) := by decide +kernel
theorem dX8_init_106 : decode cX8_init 106 = .ok (.newarray .int, 2) := by decide +kernel
theorem dX8_init_108 : decode cX8_init 108 = .ok (.putfield 51, 3) := by decide +kernel
theorem dX8_init_111 : decode cX8_init 111 = .ok (.aload_n 0, 1) := by decide +kernel
theorem dX8_init_112 : decode cX8_init 112 = .ok (.bipush 36, 2) := by decide +kernel
theorem dX8_init_114 : decode cX8_init 114 = .ok (.newarray .int, 2) := by decide +kernel
theorem dX8_init_116 : decode cX8_init 116 = .ok (.putfield 54, 3) := by decide +kernel
theorem dX8_init_119 : decode cX8_init 119 = .ok (.aload_n 0, 1) := by decide +kernel
theorem dX8_init_120 : decode cX8_init 120 = .ok (.bipush 36, 2) := by decide +kernel
theorem dX8_init_122 : decode cX8_init 122 = .ok (.newarray .int, 2) := by decide +kernel
theorem dX8_init_124 : decode cX8_init 124 = .ok (.putfield 57, 3) := by decide +kernel
theorem dX8_init_127 : decode cX8_init 127 = .ok (.aload_n 0, 1) := by decide +kernel
theorem dX8_init_128 : decode cX8_init 128 = .ok (.bipush 36, 2) := by decide +kernel
theorem dX8_init_130 : decode cX8_init 130 = .ok (.newarray .int, 2) := by decide +kernel
theorem dX8_init_132 : decode cX8_init 132 = .ok (.putfield 60, 3) := by decide +kernel
theorem dX8_init_135 : decode cX8_init 135 = .ok (.aload_n 0, 1) := by decide +kernel
theorem dX8_init_136 : decode cX8_init 136 = .ok (.sipush 256, 3) := by decide +kernel
theorem dX8_init_139 : decode cX8_init 139 = .ok (.newarray .int, 2) := by decide +kernel
theorem dX8_init_141 : decode cX8_init 141 = .ok (.putfield 63, 3) := by decide +kernel
theorem dX8_init_144 : decode cX8_init 144 = .ok (.return_, 1) := by decide +kernel
theorem dX8_thrown_0 : decode cX8_thrown 0 = .ok (.aload_n 0, 1) := by decide +kernel
theorem dX8_thrown_1 : decode cX8_thrown 1 = .ok (.getfield 66, 3) := by decide +kernel
theorem dX8_thrown_4 : decode cX8_thrown 4 = .ok (.ireturn, 1) := by decide +kernel
theorem dX8_type_0 : decode cX8_type 0 = .ok (.aload_n 0, 1) := by decide +kernel
theorem dX8_type_1 : decode cX8_type 1 = .ok (.iconst 0, 1) := by decide +kernel
theorem dX8_type_2 : decode cX8_type 2 = .ok (.putfield 66, 3) := by decide +kernel
theorem dX8_type_5 : decode cX8_type 5 = .ok (.iconst 0, 1) := by decide +kernel
theorem dX8_type_6 : decode cX8_type 6 = .ok (.istore_n 3, 1) := by decide +kernel
theorem dX8_type_7 : decode cX8_type 7 = .ok (.iconst 1, 1) := by decide +kernel
theorem dX8_type_8 : decode cX8_type 8 = .ok (.istore 4, 2) := by decide +kernel
theorem dX8_type_10 : decode cX8_type 10 = .ok (.iload_n 3, 1) := by decide +kernel
theorem dX8_type_11 : decode cX8_type 11 = .ok (.bipush 8, 2) := by decide +kernel
theorem dX8_type_13 : decode cX8_type 13 = .ok (.if_icmp .ge 64, 3) := by decide +kernel
theorem dX8_type_16 : decode cX8_type 16 = .ok (.lload_n 1, 1) := by decide +kernel
theorem dX8_type_17 : decode cX8_type 17 = .ok (.bipush 8, 2) := by decide +kernel
theorem dX8_type_19 : decode cX8_type 19 = .ok (.iload_n 3, 1) := by decide +kernel
theorem dX8_type_20 : decode cX8_type 20 = .ok (.imul, 1) := by decide +kernel
theorem dX8_type_21 : decode cX8_type 21 = .ok (.lshr, 1) := by decide +kernel
theorem dX8_type_22 : decode cX8_type 22 = .ok (.ldc2_w 69, 3) := by decide +kernel
theorem dX8_type_25 : decode cX8_type 25 = .ok (.land, 1) := by decide +kernel
theorem dX8_type_26 : decode cX8_type 26 = .ok (.lconst 0, 1) := by decide +kernel
theorem dX8_type_27 : decode cX8_type 27 = .ok (.lcmp, 1) := by decide +kernel
theorem dX8_type_28 : decode cX8_type 28 = .ok (.ifCond .eq 49, 3) := by decide +kernel
theorem dX8_type_31 : decode cX8_type 31 = .ok (.lload_n 1, 1) := by decide +kernel
theorem dX8_type_32 : decode cX8_type 32 = .ok (.bipush 8, 2) := by decide +kernel
theorem dX8_type_34 : decode cX8_type 34 = .ok (.iload_n 3, 1) := by decide +kernel
theorem dX8_type_35 : decode cX8_type 35 = .ok (.imul, 1) := by decide +kernel
theorem dX8_type_36 : decode cX8_type 36 = .ok (.lshr, 1) := by decide +kernel
theorem dX8_type_37 : decode cX8_type 37 = .ok (.ldc2_w 69, 3) := by decide +kernel
theorem dX8_type_40 : decode cX8_type 40 = .ok (.land, 1) := by decide +kernel
theorem dX8_type_41 : decode cX8_type 41 = .ok (.l2i, 1) := by decide +kernel
theorem dX8_type_42 : decode cX8_type 42 = .ok (.istore 5, 2) := by decide +kernel
theorem dX8_type_44 : decode cX8_type 44 = .ok (.iload 4, 2) := by decide +kernel
theorem dX8_type_46 : decode cX8_type 46 = .ok (.ifCond .eq 21, 3) := by decide +kernel
theorem dX8_type_49 : decode cX8_type 49 = .ok (.iload 5, 2) := by decide +kernel
theorem dX8_type_51 : decode cX8_type 51 = .ok (.bipush 32, 2) := by decide +kernel
theorem dX8_type_53 : decode cX8_type 53 = .ok (.if_icmp .lt 14, 3) := by decide +kernel
theorem dX8_type_56 : decode cX8_type 56 = .ok (.iload 5, 2) := by decide +kernel
theorem dX8_type_58 : decode cX8_type 58 = .ok (.bipush 126, 2) := by decide +kernel
theorem dX8_type_60 : decode cX8_type 60 = .ok (.if_icmp .gt 7, 3) := by decide +kernel
theorem dX8_type_63 : decode cX8_type 63 = .ok (.iconst 1, 1) := by decide +kernel
theorem dX8_type_64 : decode cX8_type 64 = .ok (.goto 4, 3) := by decide +kernel
theorem dX8_type_67 : decode cX8_type 67 = .ok (.iconst 0, 1) := by decide +kernel
theorem dX8_type_68 : decode cX8_type 68 = .ok (.istore 4, 2) := by decide +kernel
theorem dX8_type_70 : decode cX8_type 70 = .ok (.iload_n 3, 1) := by decide +kernel
theorem dX8_type_71 : decode cX8_type 71 = .ok (.iconst 1, 1) := by decide +kernel
theorem dX8_type_72 : decode cX8_type 72 = .ok (.iadd, 1) := by decide +kernel
theorem dX8_type_73 : decode cX8_type 73 = .ok (.istore_n 3, 1) := by decide +kernel
theorem dX8_type_74 : decode cX8_type 74 = .ok (.goto (-64), 3) := by decide +kernel
theorem dX8_type_77 : decode cX8_type 77 = .ok (.iload 4, 2) := by decide +kernel
theorem dX8_type_79 : decode cX8_type 79 = .ok (.ifCond .eq 14, 3) := by decide +kernel
theorem dX8_type_82 : decode cX8_type 82 = .ok (.aload_n 0, 1) := by decide +kernel
theorem dX8_type_83 : decode cX8_type 83 = .ok (.getfield 71, 3) := by decide +kernel
theorem dX8_type_86 : decode cX8_type 86 = .ok (.iload_n 3, 1) := by decide +kernel
theorem dX8_type_87 : decode cX8_type 87 = .ok (.iadd, 1) := by decide +kernel
theorem dX8_type_88 : decode cX8_type 88 = .ok (.bipush 60, 2) := by decide +kernel
theorem dX8_type_90 : decode cX8_type 90 = .ok (.if_icmp .le 5, 3) := by decide +kernel
theorem dX8_type_93 : decode cX8_type 93 = .ok (.iconst 0, 1) := by decide +kernel
theorem dX8_type_94 : decode cX8_type 94 = .ok (.ireturn, 1) := by decide +kernel
theorem dX8_type_95 : decode cX8_type 95 = .ok (.iconst 0, 1) := by decide +kernel
theorem dX8_type_96 : decode cX8_type 96 = .ok (.istore 5, 2) := by decide +kernel
theorem dX8_type_98 : decode cX8_type 98 = .ok (.iload 5, 2) := by decide +kernel
theorem dX8_type_100 : decode cX8_type 100 = .ok (.iload_n 3, 1) := by decide +kernel
theorem dX8_type_101 : decode cX8_type 101 = .ok (.if_icmp .ge 33, 3) := by decide +kernel
theorem dX8_type_104 : decode cX8_type 104 = .ok (.aload_n 0, 1) := by decide +kernel
theorem dX8_type_105 : decode cX8_type 105 = .ok (.getfield 13, 3) := by decide +kernel
theorem dX8_type_108 : decode cX8_type 108 = .ok (.aload_n 0, 1) := by decide +kernel
theorem dX8_type_109 : decode cX8_type 109 = .ok (.getfield 71, 3) := by decide +kernel
theorem dX8_type_112 : decode cX8_type 112 = .ok (.iload 5, 2) := by decide +kernel
theorem dX8_type_114 : decode cX8_type 114 = .ok (.iadd, 1) := by decide +kernel
theorem dX8_type_115 : decode cX8_type 115 = .ok (.lload_n 1, 1) := by decide +kernel
theorem dX8_type_116 : decode cX8_type 116 = .ok (.bipush 8, 2) := by decide +kernel
theorem dX8_type_118 : decode cX8_type 118 = .ok (.iload 5, 2) := by decide +kernel
theorem dX8_type_120 : decode cX8_type 120 = .ok (.imul, 1) := by decide +kernel
theorem dX8_type_121 : decode cX8_type 121 = .ok (.lshr, 1) := by decide +kernel
theorem dX8_type_122 : decode cX8_type 122 = .ok (.ldc2_w 69, 3) := by decide +kernel
theorem dX8_type_125 : decode cX8_type 125 = .ok (.land, 1) := by decide +kernel
theorem dX8_type_126 : decode cX8_type 126 = .ok (.l2i, 1) := by decide +kernel
theorem dX8_type_127 : decode cX8_type 127 = .ok (.iastore, 1) := by decide +kernel
theorem dX8_type_128 : decode cX8_type 128 = .ok (.iinc 5 1, 3) := by decide +kernel
theorem dX8_type_131 : decode cX8_type 131 = .ok (.goto (-33), 3) := by decide +kernel
theorem dX8_type_134 : decode cX8_type 134 = .ok (.aload_n 0, 1) := by decide +kernel
theorem dX8_type_135 : decode cX8_type 135 = .ok (.aload_n 0, 1) := by decide +kernel
theorem dX8_type_136 : decode cX8_type 136 = .ok (.getfield 71, 3) := by decide +kernel
theorem dX8_type_139 : decode cX8_type 139 = .ok (.iload_n 3, 1) := by decide +kernel
theorem dX8_type_140 : decode cX8_type 140 = .ok (.iadd, 1) := by decide +kernel
theorem dX8_type_141 : decode cX8_type 141 = .ok (.putfield 71, 3) := by decide +kernel
theorem dX8_type_144 : decode cX8_type 144 = .ok (.iconst 1, 1) := by decide +kernel
theorem dX8_type_145 : decode cX8_type 145 = .ok (.ireturn, 1) := by decide +kernel
theorem dX8_erase_0 : decode cX8_erase 0 = .ok (.aload_n 0, 1) := by decide +kernel
theorem dX8_erase_1 : decode cX8_erase 1 = .ok (.iconst 0, 1) := by decide +kernel
theorem dX8_erase_2 : decode cX8_erase 2 = .ok (.putfield 66, 3) := by decide +kernel
theorem dX8_erase_5 : decode cX8_erase 5 = .ok (.aload_n 0, 1) := by decide +kernel
theorem dX8_erase_6 : decode cX8_erase 6 = .ok (.iconst 0, 1) := by decide +kernel
theorem dX8_erase_7 : decode cX8_erase 7 = .ok (.putfield 71, 3) := by decide +kernel
theorem dX8_erase_10 : decode cX8_erase 10 = .ok (.return_, 1) := by decide +kernel
theorem dX8_isDigit_0 : decode cX8_isDigit 0 = .ok (.iload_n 0, 1) := by decide +kernel
theorem dX8_isDigit_1 : decode cX8_isDigit 1 = .ok (.bipush 48, 2) := by decide +kernel
theorem dX8_isDigit_3 : decode cX8_isDigit 3 = .ok (.if_icmp .lt 13, 3) := by decide +kernel
theorem dX8_isDigit_6 : decode cX8_isDigit 6 = .ok (.iload_n 0, 1) := by decide +kernel
theorem dX8_isDigit_7 : decode cX8_isDigit 7 = .ok (.bipush 57, 2) := by decide +kernel
theorem dX8_isDigit_9 : decode cX8_isDigit 9 = .ok (.if_icmp .gt 7, 3) := by decide +kernel
theorem dX8_isDigit_12 : decode cX8_isDigit 12 = .ok (.iconst 1, 1) := by decide +kernel
theorem dX8_isDigit_13 : decode cX8_isDigit 13 = .ok (.goto 4, 3) := by decide +kernel
theorem dX8_isDigit_16 : decode cX8_isDigit 16 = .ok (.iconst 0, 1) := by decide +kernel
theorem dX8_isDigit_17 : decode cX8_isDigit 17 = .ok (.ireturn, 1) := by decide +kernel
theorem dX8_least_0 : decode cX8_least 0 = .ok (.iload_n 0, 1) := by decide +kernel
theorem dX8_least_1 : decode cX8_least 1 = .ok (.iconst 2, 1) := by decide +kernel
theorem dX8_least_2 : decode cX8_least 2 = .ok (.if_icmp .eq 8, 3) := by decide +kernel
theorem dX8_least_5 : decode cX8_least 5 = .ok (.iload_n 0, 1) := by decide +kernel
theorem dX8_least_6 : decode cX8_least 6 = .ok (.iconst 3, 1) := by decide +kernel
theorem dX8_least_7 : decode cX8_least 7 = .ok (.if_icmp .ne 7, 3) := by decide +kernel
theorem dX8_least_10 : decode cX8_least 10 = .ok (.iconst 1, 1) := by decide +kernel
theorem dX8_least_11 : decode cX8_least 11 = .ok (.goto 4, 3) := by decide +kernel
theorem dX8_least_14 : decode cX8_least 14 = .ok (.iconst 0, 1) := by decide +kernel
theorem dX8_least_15 : decode cX8_least 15 = .ok (.ireturn, 1) := by decide +kernel
theorem dX8_most_0 : decode cX8_most 0 = .ok (.iload_n 0, 1) := by decide +kernel
theorem dX8_most_1 : decode cX8_most 1 = .ok (.tableswitch 43 0 3 #[31, 34, 37, 40], 31) := by decide +kernel
theorem dX8_most_32 : decode cX8_most 32 = .ok (.bipush 59, 2) := by decide +kernel
theorem dX8_most_34 : decode cX8_most 34 = .ok (.ireturn, 1) := by decide +kernel
theorem dX8_most_35 : decode cX8_most 35 = .ok (.bipush 23, 2) := by decide +kernel
theorem dX8_most_37 : decode cX8_most 37 = .ok (.ireturn, 1) := by decide +kernel
theorem dX8_most_38 : decode cX8_most 38 = .ok (.bipush 31, 2) := by decide +kernel
theorem dX8_most_40 : decode cX8_most 40 = .ok (.ireturn, 1) := by decide +kernel
theorem dX8_most_41 : decode cX8_most 41 = .ok (.bipush 12, 2) := by decide +kernel
theorem dX8_most_43 : decode cX8_most 43 = .ok (.ireturn, 1) := by decide +kernel
theorem dX8_most_44 : decode cX8_most 44 = .ok (.bipush 7, 2) := by decide +kernel
theorem dX8_most_46 : decode cX8_most 46 = .ok (.ireturn, 1) := by decide +kernel
theorem dX8_typedAt_0 : decode cX8_typedAt 0 = .ok (.iload_n 1, 1) := by decide +kernel
theorem dX8_typedAt_1 : decode cX8_typedAt 1 = .ok (.aload_n 0, 1) := by decide +kernel
theorem dX8_typedAt_2 : decode cX8_typedAt 2 = .ok (.getfield 71, 3) := by decide +kernel
theorem dX8_typedAt_5 : decode cX8_typedAt 5 = .ok (.if_icmp .ge 12, 3) := by decide +kernel
theorem dX8_typedAt_8 : decode cX8_typedAt 8 = .ok (.aload_n 0, 1) := by decide +kernel
theorem dX8_typedAt_9 : decode cX8_typedAt 9 = .ok (.getfield 13, 3) := by decide +kernel
theorem dX8_typedAt_12 : decode cX8_typedAt 12 = .ok (.iload_n 1, 1) := by decide +kernel
theorem dX8_typedAt_13 : decode cX8_typedAt 13 = .ok (.iaload, 1) := by decide +kernel
theorem dX8_typedAt_14 : decode cX8_typedAt 14 = .ok (.goto 4, 3) := by decide +kernel
theorem dX8_typedAt_17 : decode cX8_typedAt 17 = .ok (.iconst 0, 1) := by decide +kernel
theorem dX8_typedAt_18 : decode cX8_typedAt 18 = .ok (.ireturn, 1) := by decide +kernel
theorem dX8_digitsAt_0 : decode cX8_digitsAt 0 = .ok (.aload_n 0, 1) := by decide +kernel
theorem dX8_digitsAt_1 : decode cX8_digitsAt 1 = .ok (.iload_n 1, 1) := by decide +kernel
theorem dX8_digitsAt_2 : decode cX8_digitsAt 2 = .ok (.invokevirtual 74, 3) := by decide +kernel
theorem dX8_digitsAt_5 : decode cX8_digitsAt 5 = .ok (.invokestatic 78, 3) := by decide +kernel
theorem dX8_digitsAt_8 : decode cX8_digitsAt 8 = .ok (.ifCond .ne 7, 3) := by decide +kernel
theorem dX8_digitsAt_11 : decode cX8_digitsAt 11 = .ok (.iconst 0, 1) := by decide +kernel
theorem dX8_digitsAt_12 : decode cX8_digitsAt 12 = .ok (.goto 21, 3) := by decide +kernel
theorem dX8_digitsAt_15 : decode cX8_digitsAt 15 = .ok (.aload_n 0, 1) := by decide +kernel
theorem dX8_digitsAt_16 : decode cX8_digitsAt 16 = .ok (.iload_n 1, 1) := by decide +kernel
theorem dX8_digitsAt_17 : decode cX8_digitsAt 17 = .ok (.iconst 1, 1) := by decide +kernel
theorem dX8_digitsAt_18 : decode cX8_digitsAt 18 = .ok (.iadd, 1) := by decide +kernel
theorem dX8_digitsAt_19 : decode cX8_digitsAt 19 = .ok (.invokevirtual 74, 3) := by decide +kernel
theorem dX8_digitsAt_22 : decode cX8_digitsAt 22 = .ok (.invokestatic 78, 3) := by decide +kernel
theorem dX8_digitsAt_25 : decode cX8_digitsAt 25 = .ok (.ifCond .eq 7, 3) := by decide +kernel
theorem dX8_digitsAt_28 : decode cX8_digitsAt 28 = .ok (.iconst 2, 1) := by decide +kernel
theorem dX8_digitsAt_29 : decode cX8_digitsAt 29 = .ok (.goto 4, 3) := by decide +kernel
theorem dX8_digitsAt_32 : decode cX8_digitsAt 32 = .ok (.iconst 1, 1) := by decide +kernel
theorem dX8_digitsAt_33 : decode cX8_digitsAt 33 = .ok (.ireturn, 1) := by decide +kernel
theorem dX8_valueAt_0 : decode cX8_valueAt 0 = .ok (.aload_n 0, 1) := by decide +kernel
theorem dX8_valueAt_1 : decode cX8_valueAt 1 = .ok (.iload_n 1, 1) := by decide +kernel
theorem dX8_valueAt_2 : decode cX8_valueAt 2 = .ok (.invokevirtual 74, 3) := by decide +kernel
theorem dX8_valueAt_5 : decode cX8_valueAt 5 = .ok (.bipush 48, 2) := by decide +kernel
theorem dX8_valueAt_7 : decode cX8_valueAt 7 = .ok (.isub, 1) := by decide +kernel
theorem dX8_valueAt_8 : decode cX8_valueAt 8 = .ok (.istore_n 2, 1) := by decide +kernel
theorem dX8_valueAt_9 : decode cX8_valueAt 9 = .ok (.aload_n 0, 1) := by decide +kernel
theorem dX8_valueAt_10 : decode cX8_valueAt 10 = .ok (.iload_n 1, 1) := by decide +kernel
theorem dX8_valueAt_11 : decode cX8_valueAt 11 = .ok (.invokevirtual 82, 3) := by decide +kernel
theorem dX8_valueAt_14 : decode cX8_valueAt 14 = .ok (.iconst 2, 1) := by decide +kernel
theorem dX8_valueAt_15 : decode cX8_valueAt 15 = .ok (.if_icmp .ne 21, 3) := by decide +kernel
theorem dX8_valueAt_18 : decode cX8_valueAt 18 = .ok (.bipush 10, 2) := by decide +kernel
theorem dX8_valueAt_20 : decode cX8_valueAt 20 = .ok (.iload_n 2, 1) := by decide +kernel
theorem dX8_valueAt_21 : decode cX8_valueAt 21 = .ok (.imul, 1) := by decide +kernel
theorem dX8_valueAt_22 : decode cX8_valueAt 22 = .ok (.aload_n 0, 1) := by decide +kernel
theorem dX8_valueAt_23 : decode cX8_valueAt 23 = .ok (.iload_n 1, 1) := by decide +kernel
theorem dX8_valueAt_24 : decode cX8_valueAt 24 = .ok (.iconst 1, 1) := by decide +kernel
theorem dX8_valueAt_25 : decode cX8_valueAt 25 = .ok (.iadd, 1) := by decide +kernel
theorem dX8_valueAt_26 : decode cX8_valueAt 26 = .ok (.invokevirtual 74, 3) := by decide +kernel
theorem dX8_valueAt_29 : decode cX8_valueAt 29 = .ok (.iadd, 1) := by decide +kernel
theorem dX8_valueAt_30 : decode cX8_valueAt 30 = .ok (.bipush 48, 2) := by decide +kernel
theorem dX8_valueAt_32 : decode cX8_valueAt 32 = .ok (.isub, 1) := by decide +kernel
theorem dX8_valueAt_33 : decode cX8_valueAt 33 = .ok (.goto 4, 3) := by decide +kernel
theorem dX8_valueAt_36 : decode cX8_valueAt 36 = .ok (.iload_n 2, 1) := by decide +kernel
theorem dX8_valueAt_37 : decode cX8_valueAt 37 = .ok (.ireturn, 1) := by decide +kernel
theorem dX8_isNumber_0 : decode cX8_isNumber 0 = .ok (.aload_n 0, 1) := by decide +kernel
theorem dX8_isNumber_1 : decode cX8_isNumber 1 = .ok (.iload_n 1, 1) := by decide +kernel
theorem dX8_isNumber_2 : decode cX8_isNumber 2 = .ok (.invokevirtual 82, 3) := by decide +kernel
theorem dX8_isNumber_5 : decode cX8_isNumber 5 = .ok (.ifCond .le 28, 3) := by decide +kernel
theorem dX8_isNumber_8 : decode cX8_isNumber 8 = .ok (.aload_n 0, 1) := by decide +kernel
theorem dX8_isNumber_9 : decode cX8_isNumber 9 = .ok (.iload_n 1, 1) := by decide +kernel
theorem dX8_isNumber_10 : decode cX8_isNumber 10 = .ok (.invokevirtual 85, 3) := by decide +kernel
theorem dX8_isNumber_13 : decode cX8_isNumber 13 = .ok (.iload_n 3, 1) := by decide +kernel
theorem dX8_isNumber_14 : decode cX8_isNumber 14 = .ok (.if_icmp .lt 19, 3) := by decide +kernel
theorem dX8_isNumber_17 : decode cX8_isNumber 17 = .ok (.aload_n 0, 1) := by decide +kernel
theorem dX8_isNumber_18 : decode cX8_isNumber 18 = .ok (.iload_n 1, 1) := by decide +kernel
theorem dX8_isNumber_19 : decode cX8_isNumber 19 = .ok (.invokevirtual 85, 3) := by decide +kernel
theorem dX8_isNumber_22 : decode cX8_isNumber 22 = .ok (.iload_n 2, 1) := by decide +kernel
theorem dX8_isNumber_23 : decode cX8_isNumber 23 = .ok (.invokestatic 88, 3) := by decide +kernel
theorem dX8_isNumber_26 : decode cX8_isNumber 26 = .ok (.if_icmp .gt 7, 3) := by decide +kernel
theorem dX8_isNumber_29 : decode cX8_isNumber 29 = .ok (.iconst 1, 1) := by decide +kernel
theorem dX8_isNumber_30 : decode cX8_isNumber 30 = .ok (.goto 4, 3) := by decide +kernel
theorem dX8_isNumber_33 : decode cX8_isNumber 33 = .ok (.iconst 0, 1) := by decide +kernel
theorem dX8_isNumber_34 : decode cX8_isNumber 34 = .ok (.ireturn, 1) := by decide +kernel
theorem dX8_overItem_0 : decode cX8_overItem 0 = .ok (.iload_n 1, 1) := by decide +kernel
theorem dX8_overItem_1 : decode cX8_overItem 1 = .ok (.istore_n 3, 1) := by decide +kernel
theorem dX8_overItem_2 : decode cX8_overItem 2 = .ok (.aload_n 0, 1) := by decide +kernel
theorem dX8_overItem_3 : decode cX8_overItem 3 = .ok (.iload_n 1, 1) := by decide +kernel
theorem dX8_overItem_4 : decode cX8_overItem 4 = .ok (.invokevirtual 74, 3) := by decide +kernel
theorem dX8_overItem_7 : decode cX8_overItem 7 = .ok (.bipush 42, 2) := by decide +kernel
theorem dX8_overItem_9 : decode cX8_overItem 9 = .ok (.if_icmp .ne 7, 3) := by decide +kernel
theorem dX8_overItem_12 : decode cX8_overItem 12 = .ok (.iconst 1, 1) := by decide +kernel
theorem dX8_overItem_13 : decode cX8_overItem 13 = .ok (.goto 4, 3) := by decide +kernel
theorem dX8_overItem_16 : decode cX8_overItem 16 = .ok (.iconst 0, 1) := by decide +kernel
theorem dX8_overItem_17 : decode cX8_overItem 17 = .ok (.istore 4, 2) := by decide +kernel
theorem dX8_overItem_19 : decode cX8_overItem 19 = .ok (.iload 4, 2) := by decide +kernel
theorem dX8_overItem_21 : decode cX8_overItem 21 = .ok (.ifCond .eq 10, 3) := by decide +kernel
theorem dX8_overItem_24 : decode cX8_overItem 24 = .ok (.iload_n 1, 1) := by decide +kernel
theorem dX8_overItem_25 : decode cX8_overItem 25 = .ok (.iconst 1, 1) := by decide +kernel
theorem dX8_overItem_26 : decode cX8_overItem 26 = .ok (.iadd, 1) := by decide +kernel
theorem dX8_overItem_27 : decode cX8_overItem 27 = .ok (.istore_n 3, 1) := by decide +kernel
theorem dX8_overItem_28 : decode cX8_overItem 28 = .ok (.goto 71, 3) := by decide +kernel
theorem dX8_overItem_31 : decode cX8_overItem 31 = .ok (.aload_n 0, 1) := by decide +kernel
theorem dX8_overItem_32 : decode cX8_overItem 32 = .ok (.iload_n 1, 1) := by decide +kernel
theorem dX8_overItem_33 : decode cX8_overItem 33 = .ok (.iload_n 2, 1) := by decide +kernel
theorem dX8_overItem_34 : decode cX8_overItem 34 = .ok (.iload_n 2, 1) := by decide +kernel
theorem dX8_overItem_35 : decode cX8_overItem 35 = .ok (.invokestatic 91, 3) := by decide +kernel
theorem dX8_overItem_38 : decode cX8_overItem 38 = .ok (.invokevirtual 94, 3) := by decide +kernel
theorem dX8_overItem_41 : decode cX8_overItem 41 = .ok (.ifCond .ne 7, 3) := by decide +kernel
theorem dX8_overItem_44 : decode cX8_overItem 44 = .ok (.iconst (-1), 1) := by decide +kernel
theorem dX8_overItem_45 : decode cX8_overItem 45 = .ok (.iload_n 1, 1) := by decide +kernel
theorem dX8_overItem_46 : decode cX8_overItem 46 = .ok (.isub, 1) := by decide +kernel
theorem dX8_overItem_47 : decode cX8_overItem 47 = .ok (.ireturn, 1) := by decide +kernel
theorem dX8_overItem_48 : decode cX8_overItem 48 = .ok (.iload_n 1, 1) := by decide +kernel
theorem dX8_overItem_49 : decode cX8_overItem 49 = .ok (.aload_n 0, 1) := by decide +kernel
theorem dX8_overItem_50 : decode cX8_overItem 50 = .ok (.iload_n 1, 1) := by decide +kernel
theorem dX8_overItem_51 : decode cX8_overItem 51 = .ok (.invokevirtual 82, 3) := by decide +kernel
theorem dX8_overItem_54 : decode cX8_overItem 54 = .ok (.iadd, 1) := by decide +kernel
theorem dX8_overItem_55 : decode cX8_overItem 55 = .ok (.istore_n 3, 1) := by decide +kernel
theorem dX8_overItem_56 : decode cX8_overItem 56 = .ok (.aload_n 0, 1) := by decide +kernel
theorem dX8_overItem_57 : decode cX8_overItem 57 = .ok (.iload_n 3, 1) := by decide +kernel
theorem dX8_overItem_58 : decode cX8_overItem 58 = .ok (.invokevirtual 74, 3) := by decide +kernel
theorem dX8_overItem_61 : decode cX8_overItem 61 = .ok (.bipush 45, 2) := by decide +kernel
theorem dX8_overItem_63 : decode cX8_overItem 63 = .ok (.if_icmp .ne 36, 3) := by decide +kernel
theorem dX8_overItem_66 : decode cX8_overItem 66 = .ok (.iload_n 3, 1) := by decide +kernel
theorem dX8_overItem_67 : decode cX8_overItem 67 = .ok (.iconst 1, 1) := by decide +kernel
theorem dX8_overItem_68 : decode cX8_overItem 68 = .ok (.iadd, 1) := by decide +kernel
theorem dX8_overItem_69 : decode cX8_overItem 69 = .ok (.istore_n 3, 1) := by decide +kernel
theorem dX8_overItem_70 : decode cX8_overItem 70 = .ok (.aload_n 0, 1) := by decide +kernel
theorem dX8_overItem_71 : decode cX8_overItem 71 = .ok (.iload_n 3, 1) := by decide +kernel
theorem dX8_overItem_72 : decode cX8_overItem 72 = .ok (.iload_n 2, 1) := by decide +kernel
theorem dX8_overItem_73 : decode cX8_overItem 73 = .ok (.aload_n 0, 1) := by decide +kernel
theorem dX8_overItem_74 : decode cX8_overItem 74 = .ok (.iload_n 1, 1) := by decide +kernel
theorem dX8_overItem_75 : decode cX8_overItem 75 = .ok (.invokevirtual 85, 3) := by decide +kernel
theorem dX8_overItem_78 : decode cX8_overItem 78 = .ok (.invokevirtual 94, 3) := by decide +kernel
theorem dX8_overItem_81 : decode cX8_overItem 81 = .ok (.ifCond .ne 7, 3) := by decide +kernel
theorem dX8_overItem_84 : decode cX8_overItem 84 = .ok (.iconst (-1), 1) := by decide +kernel
theorem dX8_overItem_85 : decode cX8_overItem 85 = .ok (.iload_n 3, 1) := by decide +kernel
theorem dX8_overItem_86 : decode cX8_overItem 86 = .ok (.isub, 1) := by decide +kernel
theorem dX8_overItem_87 : decode cX8_overItem 87 = .ok (.ireturn, 1) := by decide +kernel
theorem dX8_overItem_88 : decode cX8_overItem 88 = .ok (.iload_n 3, 1) := by decide +kernel
theorem dX8_overItem_89 : decode cX8_overItem 89 = .ok (.aload_n 0, 1) := by decide +kernel
theorem dX8_overItem_90 : decode cX8_overItem 90 = .ok (.iload_n 3, 1) := by decide +kernel
theorem dX8_overItem_91 : decode cX8_overItem 91 = .ok (.invokevirtual 82, 3) := by decide +kernel
theorem dX8_overItem_94 : decode cX8_overItem 94 = .ok (.iadd, 1) := by decide +kernel
theorem dX8_overItem_95 : decode cX8_overItem 95 = .ok (.istore_n 3, 1) := by decide +kernel
theorem dX8_overItem_96 : decode cX8_overItem 96 = .ok (.iconst 1, 1) := by decide +kernel
theorem dX8_overItem_97 : decode cX8_overItem 97 = .ok (.istore 4, 2) := by decide +kernel
theorem dX8_overItem_99 : decode cX8_overItem 99 = .ok (.iload 4, 2) := by decide +kernel
theorem dX8_overItem_101 : decode cX8_overItem 101 = .ok (.ifCond .eq 45, 3) := by decide +kernel
theorem dX8_overItem_104 : decode cX8_overItem 104 = .ok (.aload_n 0, 1) := by decide +kernel
theorem dX8_overItem_105 : decode cX8_overItem 105 = .ok (.iload_n 3, 1) := by decide +kernel
theorem dX8_overItem_106 : decode cX8_overItem 106 = .ok (.invokevirtual 74, 3) := by decide +kernel
theorem dX8_overItem_109 : decode cX8_overItem 109 = .ok (.bipush 47, 2) := by decide +kernel
theorem dX8_overItem_111 : decode cX8_overItem 111 = .ok (.if_icmp .ne 35, 3) := by decide +kernel
theorem dX8_overItem_114 : decode cX8_overItem 114 = .ok (.iload_n 3, 1) := by decide +kernel
theorem dX8_overItem_115 : decode cX8_overItem 115 = .ok (.iconst 1, 1) := by decide +kernel
theorem dX8_overItem_116 : decode cX8_overItem 116 = .ok (.iadd, 1) := by decide +kernel
theorem dX8_overItem_117 : decode cX8_overItem 117 = .ok (.istore_n 3, 1) := by decide +kernel
theorem dX8_overItem_118 : decode cX8_overItem 118 = .ok (.aload_n 0, 1) := by decide +kernel
theorem dX8_overItem_119 : decode cX8_overItem 119 = .ok (.iload_n 3, 1) := by decide +kernel
theorem dX8_overItem_120 : decode cX8_overItem 120 = .ok (.invokevirtual 82, 3) := by decide +kernel
theorem dX8_overItem_123 : decode cX8_overItem 123 = .ok (.ifCond .eq 11, 3) := by decide +kernel
theorem dX8_overItem_126 : decode cX8_overItem 126 = .ok (.aload_n 0, 1) := by decide +kernel
theorem dX8_overItem_127 : decode cX8_overItem 127 = .ok (.iload_n 3, 1) := by decide +kernel
theorem dX8_overItem_128 : decode cX8_overItem 128 = .ok (.invokevirtual 85, 3) := by decide +kernel
theorem dX8_overItem_131 : decode cX8_overItem 131 = .ok (.ifCond .ne 7, 3) := by decide +kernel
theorem dX8_overItem_134 : decode cX8_overItem 134 = .ok (.iconst (-1), 1) := by decide +kernel
theorem dX8_overItem_135 : decode cX8_overItem 135 = .ok (.iload_n 3, 1) := by decide +kernel
theorem dX8_overItem_136 : decode cX8_overItem 136 = .ok (.isub, 1) := by decide +kernel
theorem dX8_overItem_137 : decode cX8_overItem 137 = .ok (.ireturn, 1) := by decide +kernel
theorem dX8_overItem_138 : decode cX8_overItem 138 = .ok (.iload_n 3, 1) := by decide +kernel
theorem dX8_overItem_139 : decode cX8_overItem 139 = .ok (.aload_n 0, 1) := by decide +kernel
theorem dX8_overItem_140 : decode cX8_overItem 140 = .ok (.iload_n 3, 1) := by decide +kernel
theorem dX8_overItem_141 : decode cX8_overItem 141 = .ok (.invokevirtual 82, 3) := by decide +kernel
theorem dX8_overItem_144 : decode cX8_overItem 144 = .ok (.iadd, 1) := by decide +kernel
theorem dX8_overItem_145 : decode cX8_overItem 145 = .ok (.istore_n 3, 1) := by decide +kernel
theorem dX8_overItem_146 : decode cX8_overItem 146 = .ok (.iload_n 3, 1) := by decide +kernel
theorem dX8_overItem_147 : decode cX8_overItem 147 = .ok (.ireturn, 1) := by decide +kernel
theorem dX8_faultOf_0 : decode cX8_faultOf 0 = .ok (.iconst 0, 1) := by decide +kernel
theorem dX8_faultOf_1 : decode cX8_faultOf 1 = .ok (.istore_n 1, 1) := by decide +kernel
theorem dX8_faultOf_2 : decode cX8_faultOf 2 = .ok (.iconst 0, 1) := by decide +kernel
theorem dX8_faultOf_3 : decode cX8_faultOf 3 = .ok (.istore_n 2, 1) := by decide +kernel
theorem dX8_faultOf_4 : decode cX8_faultOf 4 = .ok (.aload_n 0, 1) := by decide +kernel
theorem dX8_faultOf_5 : decode cX8_faultOf 5 = .ok (.getfield 23, 3) := by decide +kernel
theorem dX8_faultOf_8 : decode cX8_faultOf 8 = .ok (.iconst 5, 1) := by decide +kernel
theorem dX8_faultOf_9 : decode cX8_faultOf 9 = .ok (.aload_n 0, 1) := by decide +kernel
theorem dX8_faultOf_10 : decode cX8_faultOf 10 = .ok (.getfield 98, 3) := by decide +kernel
theorem dX8_faultOf_13 : decode cX8_faultOf 13 = .ok (.imul, 1) := by decide +kernel
theorem dX8_faultOf_14 : decode cX8_faultOf 14 = .ok (.iconst 0, 1) := by decide +kernel
theorem dX8_faultOf_15 : decode cX8_faultOf 15 = .ok (.iastore, 1) := by decide +kernel
theorem dX8_faultOf_16 : decode cX8_faultOf 16 = .ok (.aload_n 0, 1) := by decide +kernel
theorem dX8_faultOf_17 : decode cX8_faultOf 17 = .ok (.iload_n 1, 1) := by decide +kernel
theorem dX8_faultOf_18 : decode cX8_faultOf 18 = .ok (.iload_n 2, 1) := by decide +kernel
theorem dX8_faultOf_19 : decode cX8_faultOf 19 = .ok (.invokevirtual 101, 3) := by decide +kernel
theorem dX8_faultOf_22 : decode cX8_faultOf 22 = .ok (.istore_n 1, 1) := by decide +kernel
theorem dX8_faultOf_23 : decode cX8_faultOf 23 = .ok (.iload_n 1, 1) := by decide +kernel
theorem dX8_faultOf_24 : decode cX8_faultOf 24 = .ok (.ifCond .ge 7, 3) := by decide +kernel
theorem dX8_faultOf_27 : decode cX8_faultOf 27 = .ok (.iconst (-1), 1) := by decide +kernel
theorem dX8_faultOf_28 : decode cX8_faultOf 28 = .ok (.iload_n 1, 1) := by decide +kernel
theorem dX8_faultOf_29 : decode cX8_faultOf 29 = .ok (.isub, 1) := by decide +kernel
theorem dX8_faultOf_30 : decode cX8_faultOf 30 = .ok (.ireturn, 1) := by decide +kernel
theorem dX8_faultOf_31 : decode cX8_faultOf 31 = .ok (.iload_n 1, 1) := by decide +kernel
theorem dX8_faultOf_32 : decode cX8_faultOf 32 = .ok (.aload_n 0, 1) := by decide +kernel
theorem dX8_faultOf_33 : decode cX8_faultOf 33 = .ok (.getfield 71, 3) := by decide +kernel
theorem dX8_faultOf_36 : decode cX8_faultOf 36 = .ok (.if_icmp .ne 14, 3) := by decide +kernel
theorem dX8_faultOf_39 : decode cX8_faultOf 39 = .ok (.iload_n 2, 1) := by decide +kernel
theorem dX8_faultOf_40 : decode cX8_faultOf 40 = .ok (.iconst 4, 1) := by decide +kernel
theorem dX8_faultOf_41 : decode cX8_faultOf 41 = .ok (.if_icmp .ne 7, 3) := by decide +kernel
theorem dX8_faultOf_44 : decode cX8_faultOf 44 = .ok (.iconst (-1), 1) := by decide +kernel
theorem dX8_faultOf_45 : decode cX8_faultOf 45 = .ok (.goto 4, 3) := by decide +kernel
theorem dX8_faultOf_48 : decode cX8_faultOf 48 = .ok (.iload_n 1, 1) := by decide +kernel
theorem dX8_faultOf_49 : decode cX8_faultOf 49 = .ok (.ireturn, 1) := by decide +kernel
theorem dX8_faultOf_50 : decode cX8_faultOf 50 = .ok (.aload_n 0, 1) := by decide +kernel
theorem dX8_faultOf_51 : decode cX8_faultOf 51 = .ok (.iload_n 1, 1) := by decide +kernel
theorem dX8_faultOf_52 : decode cX8_faultOf 52 = .ok (.invokevirtual 74, 3) := by decide +kernel
theorem dX8_faultOf_55 : decode cX8_faultOf 55 = .ok (.bipush 44, 2) := by decide +kernel
theorem dX8_faultOf_57 : decode cX8_faultOf 57 = .ok (.if_icmp .eq 18, 3) := by decide +kernel
theorem dX8_faultOf_60 : decode cX8_faultOf 60 = .ok (.aload_n 0, 1) := by decide +kernel
theorem dX8_faultOf_61 : decode cX8_faultOf 61 = .ok (.iload_n 1, 1) := by decide +kernel
theorem dX8_faultOf_62 : decode cX8_faultOf 62 = .ok (.invokevirtual 74, 3) := by decide +kernel
theorem dX8_faultOf_65 : decode cX8_faultOf 65 = .ok (.bipush 32, 2) := by decide +kernel
theorem dX8_faultOf_67 : decode cX8_faultOf 67 = .ok (.if_icmp .ne 12, 3) := by decide +kernel
theorem dX8_faultOf_70 : decode cX8_faultOf 70 = .ok (.iload_n 2, 1) := by decide +kernel
theorem dX8_faultOf_71 : decode cX8_faultOf 71 = .ok (.iconst 4, 1) := by decide +kernel
theorem dX8_faultOf_72 : decode cX8_faultOf 72 = .ok (.if_icmp .ge 7, 3) := by decide +kernel
theorem dX8_faultOf_75 : decode cX8_faultOf 75 = .ok (.iconst 1, 1) := by decide +kernel
theorem dX8_faultOf_76 : decode cX8_faultOf 76 = .ok (.goto 4, 3) := by decide +kernel
theorem dX8_faultOf_79 : decode cX8_faultOf 79 = .ok (.iconst 0, 1) := by decide +kernel
theorem dX8_faultOf_80 : decode cX8_faultOf 80 = .ok (.istore_n 3, 1) := by decide +kernel
theorem dX8_faultOf_81 : decode cX8_faultOf 81 = .ok (.iload_n 3, 1) := by decide +kernel
theorem dX8_faultOf_82 : decode cX8_faultOf 82 = .ok (.ifCond .ne 5, 3) := by decide +kernel
theorem dX8_faultOf_85 : decode cX8_faultOf 85 = .ok (.iload_n 1, 1) := by decide +kernel
theorem dX8_faultOf_86 : decode cX8_faultOf 86 = .ok (.ireturn, 1) := by decide +kernel
theorem dX8_faultOf_87 : decode cX8_faultOf 87 = .ok (.aload_n 0, 1) := by decide +kernel
theorem dX8_faultOf_88 : decode cX8_faultOf 88 = .ok (.iload_n 1, 1) := by decide +kernel
theorem dX8_faultOf_89 : decode cX8_faultOf 89 = .ok (.invokevirtual 74, 3) := by decide +kernel
theorem dX8_faultOf_92 : decode cX8_faultOf 92 = .ok (.bipush 32, 2) := by decide +kernel
theorem dX8_faultOf_94 : decode cX8_faultOf 94 = .ok (.if_icmp .ne 23, 3) := by decide +kernel
theorem dX8_faultOf_97 : decode cX8_faultOf 97 = .ok (.iload_n 2, 1) := by decide +kernel
theorem dX8_faultOf_98 : decode cX8_faultOf 98 = .ok (.iconst 1, 1) := by decide +kernel
theorem dX8_faultOf_99 : decode cX8_faultOf 99 = .ok (.iadd, 1) := by decide +kernel
theorem dX8_faultOf_100 : decode cX8_faultOf 100 = .ok (.istore_n 2, 1) := by decide +kernel
theorem dX8_faultOf_101 : decode cX8_faultOf 101 = .ok (.aload_n 0, 1) := by decide +kernel
theorem dX8_faultOf_102 : decode cX8_faultOf 102 = .ok (.getfield 23, 3) := by decide +kernel
theorem dX8_faultOf_105 : decode cX8_faultOf 105 = .ok (.iconst 5, 1) := by decide +kernel
theorem dX8_faultOf_106 : decode cX8_faultOf 106 = .ok (.aload_n 0, 1) := by decide +kernel
theorem dX8_faultOf_107 : decode cX8_faultOf 107 = .ok (.getfield 98, 3) := by decide +kernel
theorem dX8_faultOf_110 : decode cX8_faultOf 110 = .ok (.imul, 1) := by decide +kernel
theorem dX8_faultOf_111 : decode cX8_faultOf 111 = .ok (.iload_n 2, 1) := by decide +kernel
theorem dX8_faultOf_112 : decode cX8_faultOf 112 = .ok (.iadd, 1) := by decide +kernel
theorem dX8_faultOf_113 : decode cX8_faultOf 113 = .ok (.iload_n 1, 1) := by decide +kernel
theorem dX8_faultOf_114 : decode cX8_faultOf 114 = .ok (.iconst 1, 1) := by decide +kernel
theorem dX8_faultOf_115 : decode cX8_faultOf 115 = .ok (.iadd, 1) := by decide +kernel
theorem dX8_faultOf_116 : decode cX8_faultOf 116 = .ok (.iastore, 1) := by decide +kernel
theorem dX8_faultOf_117 : decode cX8_faultOf 117 = .ok (.iload_n 1, 1) := by decide +kernel
theorem dX8_faultOf_118 : decode cX8_faultOf 118 = .ok (.iconst 1, 1) := by decide +kernel
theorem dX8_faultOf_119 : decode cX8_faultOf 119 = .ok (.iadd, 1) := by decide +kernel
theorem dX8_faultOf_120 : decode cX8_faultOf 120 = .ok (.istore_n 1, 1) := by decide +kernel
theorem dX8_faultOf_121 : decode cX8_faultOf 121 = .ok (.goto (-105), 3) := by decide +kernel
theorem dX8_job_0 : decode cX8_job 0 = .ok (.aload_n 0, 1) := by decide +kernel
theorem dX8_job_1 : decode cX8_job 1 = .ok (.aload_n 0, 1) := by decide +kernel
theorem dX8_job_2 : decode cX8_job 2 = .ok (.getfield 98, 3) := by decide +kernel
theorem dX8_job_5 : decode cX8_job 5 = .ok (.bipush 6, 2) := by decide +kernel
theorem dX8_job_7 : decode cX8_job 7 = .ok (.if_icmp .ne 7, 3) := by decide +kernel
theorem dX8_job_10 : decode cX8_job 10 = .ok (.iconst 1, 1) := by decide +kernel
theorem dX8_job_11 : decode cX8_job 11 = .ok (.goto 4, 3) := by decide +kernel
theorem dX8_job_14 : decode cX8_job 14 = .ok (.iconst 0, 1) := by decide +kernel
theorem dX8_job_15 : decode cX8_job 15 = .ok (.putfield 66, 3) := by decide +kernel
theorem dX8_job_18 : decode cX8_job 18 = .ok (.aload_n 0, 1) := by decide +kernel
theorem dX8_job_19 : decode cX8_job 19 = .ok (.getfield 66, 3) := by decide +kernel
theorem dX8_job_22 : decode cX8_job 22 = .ok (.ifCond .le 5, 3) := by decide +kernel
theorem dX8_job_25 : decode cX8_job 25 = .ok (.iconst 0, 1) := by decide +kernel
theorem dX8_job_26 : decode cX8_job 26 = .ok (.ireturn, 1) := by decide +kernel
theorem dX8_job_27 : decode cX8_job 27 = .ok (.aload_n 0, 1) := by decide +kernel
theorem dX8_job_28 : decode cX8_job 28 = .ok (.aload_n 0, 1) := by decide +kernel
theorem dX8_job_29 : decode cX8_job 29 = .ok (.invokevirtual 105, 3) := by decide +kernel
theorem dX8_job_32 : decode cX8_job 32 = .ok (.putfield 17, 3) := by decide +kernel
theorem dX8_job_35 : decode cX8_job 35 = .ok (.aload_n 0, 1) := by decide +kernel
theorem dX8_job_36 : decode cX8_job 36 = .ok (.aload_n 0, 1) := by decide +kernel
theorem dX8_job_37 : decode cX8_job 37 = .ok (.getfield 17, 3) := by decide +kernel
theorem dX8_job_40 : decode cX8_job 40 = .ok (.ifCond .lt 7, 3) := by decide +kernel
theorem dX8_job_43 : decode cX8_job 43 = .ok (.iconst 2, 1) := by decide +kernel
theorem dX8_job_44 : decode cX8_job 44 = .ok (.goto 4, 3) := by decide +kernel
theorem dX8_job_47 : decode cX8_job 47 = .ok (.iconst 0, 1) := by decide +kernel
theorem dX8_job_48 : decode cX8_job 48 = .ok (.putfield 66, 3) := by decide +kernel
theorem dX8_job_51 : decode cX8_job 51 = .ok (.aload_n 0, 1) := by decide +kernel
theorem dX8_job_52 : decode cX8_job 52 = .ok (.getfield 66, 3) := by decide +kernel
theorem dX8_job_55 : decode cX8_job 55 = .ok (.ifCond .le 5, 3) := by decide +kernel
theorem dX8_job_58 : decode cX8_job 58 = .ok (.iconst 0, 1) := by decide +kernel
theorem dX8_job_59 : decode cX8_job 59 = .ok (.ireturn, 1) := by decide +kernel
theorem dX8_job_60 : decode cX8_job 60 = .ok (.iconst 0, 1) := by decide +kernel
theorem dX8_job_61 : decode cX8_job 61 = .ok (.istore_n 2, 1) := by decide +kernel
theorem dX8_job_62 : decode cX8_job 62 = .ok (.iload_n 2, 1) := by decide +kernel
theorem dX8_job_63 : decode cX8_job 63 = .ok (.bipush 61, 2) := by decide +kernel
theorem dX8_job_65 : decode cX8_job 65 = .ok (.if_icmp .ge 28, 3) := by decide +kernel
theorem dX8_job_68 : decode cX8_job 68 = .ok (.aload_n 0, 1) := by decide +kernel
theorem dX8_job_69 : decode cX8_job 69 = .ok (.getfield 20, 3) := by decide +kernel
theorem dX8_job_72 : decode cX8_job 72 = .ok (.bipush 61, 2) := by decide +kernel
theorem dX8_job_74 : decode cX8_job 74 = .ok (.aload_n 0, 1) := by decide +kernel
theorem dX8_job_75 : decode cX8_job 75 = .ok (.getfield 98, 3) := by decide +kernel
theorem dX8_job_78 : decode cX8_job 78 = .ok (.imul, 1) := by decide +kernel
theorem dX8_job_79 : decode cX8_job 79 = .ok (.iload_n 2, 1) := by decide +kernel
theorem dX8_job_80 : decode cX8_job 80 = .ok (.iadd, 1) := by decide +kernel
theorem dX8_job_81 : decode cX8_job 81 = .ok (.aload_n 0, 1) := by decide +kernel
theorem dX8_job_82 : decode cX8_job 82 = .ok (.iload_n 2, 1) := by decide +kernel
theorem dX8_job_83 : decode cX8_job 83 = .ok (.invokevirtual 74, 3) := by decide +kernel
theorem dX8_job_86 : decode cX8_job 86 = .ok (.iastore, 1) := by decide +kernel
theorem dX8_job_87 : decode cX8_job 87 = .ok (.iinc 2 1, 3) := by decide +kernel
theorem dX8_job_90 : decode cX8_job 90 = .ok (.goto (-28), 3) := by decide +kernel
theorem dX8_job_93 : decode cX8_job 93 = .ok (.aload_n 0, 1) := by decide +kernel
theorem dX8_job_94 : decode cX8_job 94 = .ok (.getfield 26, 3) := by decide +kernel
theorem dX8_job_97 : decode cX8_job 97 = .ok (.aload_n 0, 1) := by decide +kernel
theorem dX8_job_98 : decode cX8_job 98 = .ok (.getfield 98, 3) := by decide +kernel
theorem dX8_job_101 : decode cX8_job 101 = .ok (.iload_n 1, 1) := by decide +kernel
theorem dX8_job_102 : decode cX8_job 102 = .ok (.iastore, 1) := by decide +kernel
theorem dX8_job_103 : decode cX8_job 103 = .ok (.aload_n 0, 1) := by decide +kernel
theorem dX8_job_104 : decode cX8_job 104 = .ok (.iconst 0, 1) := by decide +kernel
theorem dX8_job_105 : decode cX8_job 105 = .ok (.putfield 71, 3) := by decide +kernel
theorem dX8_job_108 : decode cX8_job 108 = .ok (.aload_n 0, 1) := by decide +kernel
theorem dX8_job_109 : decode cX8_job 109 = .ok (.aload_n 0, 1) := by decide +kernel
theorem dX8_job_110 : decode cX8_job 110 = .ok (.getfield 98, 3) := by decide +kernel
theorem dX8_job_113 : decode cX8_job 113 = .ok (.iconst 1, 1) := by decide +kernel
theorem dX8_job_114 : decode cX8_job 114 = .ok (.iadd, 1) := by decide +kernel
theorem dX8_job_115 : decode cX8_job 115 = .ok (.putfield 98, 3) := by decide +kernel
theorem dX8_job_118 : decode cX8_job 118 = .ok (.aload_n 0, 1) := by decide +kernel
theorem dX8_job_119 : decode cX8_job 119 = .ok (.getfield 98, 3) := by decide +kernel
theorem dX8_job_122 : decode cX8_job 122 = .ok (.iconst 1, 1) := by decide +kernel
theorem dX8_job_123 : decode cX8_job 123 = .ok (.isub, 1) := by decide +kernel
theorem dX8_job_124 : decode cX8_job 124 = .ok (.ireturn, 1) := by decide +kernel
theorem dX8_fault_0 : decode cX8_fault 0 = .ok (.aload_n 0, 1) := by decide +kernel
theorem dX8_fault_1 : decode cX8_fault 1 = .ok (.iconst 0, 1) := by decide +kernel
theorem dX8_fault_2 : decode cX8_fault 2 = .ok (.putfield 66, 3) := by decide +kernel
theorem dX8_fault_5 : decode cX8_fault 5 = .ok (.aload_n 0, 1) := by decide +kernel
theorem dX8_fault_6 : decode cX8_fault 6 = .ok (.getfield 17, 3) := by decide +kernel
theorem dX8_fault_9 : decode cX8_fault 9 = .ok (.ireturn, 1) := by decide +kernel
theorem dX8_isLetterDigit_0 : decode cX8_isLetterDigit 0 = .ok (.aload_n 0, 1) := by decide +kernel
theorem dX8_isLetterDigit_1 : decode cX8_isLetterDigit 1 = .ok (.getfield 20, 3) := by decide +kernel
theorem dX8_isLetterDigit_4 : decode cX8_isLetterDigit 4 = .ok (.iload_n 1, 1) := by decide +kernel
theorem dX8_isLetterDigit_5 : decode cX8_isLetterDigit 5 = .ok (.iaload, 1) := by decide +kernel
theorem dX8_isLetterDigit_6 : decode cX8_isLetterDigit 6 = .ok (.invokestatic 78, 3) := by decide +kernel
theorem dX8_isLetterDigit_9 : decode cX8_isLetterDigit 9 = .ok (.ireturn, 1) := by decide +kernel
theorem dX8_numberFrom_0 : decode cX8_numberFrom 0 = .ok (.aload_n 0, 1) := by decide +kernel
theorem dX8_numberFrom_1 : decode cX8_numberFrom 1 = .ok (.getfield 20, 3) := by decide +kernel
theorem dX8_numberFrom_4 : decode cX8_numberFrom 4 = .ok (.iload_n 1, 1) := by decide +kernel
theorem dX8_numberFrom_5 : decode cX8_numberFrom 5 = .ok (.iaload, 1) := by decide +kernel
theorem dX8_numberFrom_6 : decode cX8_numberFrom 6 = .ok (.bipush 48, 2) := by decide +kernel
theorem dX8_numberFrom_8 : decode cX8_numberFrom 8 = .ok (.isub, 1) := by decide +kernel
theorem dX8_numberFrom_9 : decode cX8_numberFrom 9 = .ok (.istore_n 2, 1) := by decide +kernel
theorem dX8_numberFrom_10 : decode cX8_numberFrom 10 = .ok (.aload_n 0, 1) := by decide +kernel
theorem dX8_numberFrom_11 : decode cX8_numberFrom 11 = .ok (.iload_n 1, 1) := by decide +kernel
theorem dX8_numberFrom_12 : decode cX8_numberFrom 12 = .ok (.iconst 1, 1) := by decide +kernel
theorem dX8_numberFrom_13 : decode cX8_numberFrom 13 = .ok (.iadd, 1) := by decide +kernel
theorem dX8_numberFrom_14 : decode cX8_numberFrom 14 = .ok (.invokevirtual 109, 3) := by decide +kernel
theorem dX8_numberFrom_17 : decode cX8_numberFrom 17 = .ok (.ifCond .eq 22, 3) := by decide +kernel
theorem dX8_numberFrom_20 : decode cX8_numberFrom 20 = .ok (.bipush 10, 2) := by decide +kernel
theorem dX8_numberFrom_22 : decode cX8_numberFrom 22 = .ok (.iload_n 2, 1) := by decide +kernel
theorem dX8_numberFrom_23 : decode cX8_numberFrom 23 = .ok (.imul, 1) := by decide +kernel
theorem dX8_numberFrom_24 : decode cX8_numberFrom 24 = .ok (.aload_n 0, 1) := by decide +kernel
theorem dX8_numberFrom_25 : decode cX8_numberFrom 25 = .ok (.getfield 20, 3) := by decide +kernel
theorem dX8_numberFrom_28 : decode cX8_numberFrom 28 = .ok (.iload_n 1, 1) := by decide +kernel
theorem dX8_numberFrom_29 : decode cX8_numberFrom 29 = .ok (.iconst 1, 1) := by decide +kernel
theorem dX8_numberFrom_30 : decode cX8_numberFrom 30 = .ok (.iadd, 1) := by decide +kernel
theorem dX8_numberFrom_31 : decode cX8_numberFrom 31 = .ok (.iaload, 1) := by decide +kernel
theorem dX8_numberFrom_32 : decode cX8_numberFrom 32 = .ok (.iadd, 1) := by decide +kernel
theorem dX8_numberFrom_33 : decode cX8_numberFrom 33 = .ok (.bipush 48, 2) := by decide +kernel
theorem dX8_numberFrom_35 : decode cX8_numberFrom 35 = .ok (.isub, 1) := by decide +kernel
theorem dX8_numberFrom_36 : decode cX8_numberFrom 36 = .ok (.goto 4, 3) := by decide +kernel
theorem dX8_numberFrom_39 : decode cX8_numberFrom 39 = .ok (.iload_n 2, 1) := by decide +kernel
theorem dX8_numberFrom_40 : decode cX8_numberFrom 40 = .ok (.ireturn, 1) := by decide +kernel
theorem dX8_behindNumber_0 : decode cX8_behindNumber 0 = .ok (.aload_n 0, 1) := by decide +kernel
theorem dX8_behindNumber_1 : decode cX8_behindNumber 1 = .ok (.iload_n 1, 1) := by decide +kernel
theorem dX8_behindNumber_2 : decode cX8_behindNumber 2 = .ok (.iconst 1, 1) := by decide +kernel
theorem dX8_behindNumber_3 : decode cX8_behindNumber 3 = .ok (.iadd, 1) := by decide +kernel
theorem dX8_behindNumber_4 : decode cX8_behindNumber 4 = .ok (.invokevirtual 109, 3) := by decide +kernel
theorem dX8_behindNumber_7 : decode cX8_behindNumber 7 = .ok (.ifCond .eq 9, 3) := by decide +kernel
theorem dX8_behindNumber_10 : decode cX8_behindNumber 10 = .ok (.iload_n 1, 1) := by decide +kernel
theorem dX8_behindNumber_11 : decode cX8_behindNumber 11 = .ok (.iconst 2, 1) := by decide +kernel
theorem dX8_behindNumber_12 : decode cX8_behindNumber 12 = .ok (.iadd, 1) := by decide +kernel
theorem dX8_behindNumber_13 : decode cX8_behindNumber 13 = .ok (.goto 6, 3) := by decide +kernel
theorem dX8_behindNumber_16 : decode cX8_behindNumber 16 = .ok (.iload_n 1, 1) := by decide +kernel
theorem dX8_behindNumber_17 : decode cX8_behindNumber 17 = .ok (.iconst 1, 1) := by decide +kernel
theorem dX8_behindNumber_18 : decode cX8_behindNumber 18 = .ok (.iadd, 1) := by decide +kernel
theorem dX8_behindNumber_19 : decode cX8_behindNumber 19 = .ok (.ireturn, 1) := by decide +kernel
theorem dX8_itemHas_0 : decode cX8_itemHas 0 = .ok (.iload_n 2, 1) := by decide +kernel
theorem dX8_itemHas_1 : decode cX8_itemHas 1 = .ok (.invokestatic 91, 3) := by decide +kernel
theorem dX8_itemHas_4 : decode cX8_itemHas 4 = .ok (.istore 4, 2) := by decide +kernel
theorem dX8_itemHas_6 : decode cX8_itemHas 6 = .ok (.iload_n 2, 1) := by decide +kernel
theorem dX8_itemHas_7 : decode cX8_itemHas 7 = .ok (.invokestatic 88, 3) := by decide +kernel
theorem dX8_itemHas_10 : decode cX8_itemHas 10 = .ok (.istore 5, 2) := by decide +kernel
theorem dX8_itemHas_12 : decode cX8_itemHas 12 = .ok (.iload_n 1, 1) := by decide +kernel
theorem dX8_itemHas_13 : decode cX8_itemHas 13 = .ok (.iconst 1, 1) := by decide +kernel
theorem dX8_itemHas_14 : decode cX8_itemHas 14 = .ok (.iadd, 1) := by decide +kernel
theorem dX8_itemHas_15 : decode cX8_itemHas 15 = .ok (.istore 6, 2) := by decide +kernel
theorem dX8_itemHas_17 : decode cX8_itemHas 17 = .ok (.aload_n 0, 1) := by decide +kernel
theorem dX8_itemHas_18 : decode cX8_itemHas 18 = .ok (.getfield 20, 3) := by decide +kernel
theorem dX8_itemHas_21 : decode cX8_itemHas 21 = .ok (.iload_n 1, 1) := by decide +kernel
theorem dX8_itemHas_22 : decode cX8_itemHas 22 = .ok (.iaload, 1) := by decide +kernel
theorem dX8_itemHas_23 : decode cX8_itemHas 23 = .ok (.bipush 42, 2) := by decide +kernel
theorem dX8_itemHas_25 : decode cX8_itemHas 25 = .ok (.if_icmp .eq 53, 3) := by decide +kernel
theorem dX8_itemHas_28 : decode cX8_itemHas 28 = .ok (.aload_n 0, 1) := by decide +kernel
theorem dX8_itemHas_29 : decode cX8_itemHas 29 = .ok (.iload_n 1, 1) := by decide +kernel
theorem dX8_itemHas_30 : decode cX8_itemHas 30 = .ok (.invokevirtual 112, 3) := by decide +kernel
theorem dX8_itemHas_33 : decode cX8_itemHas 33 = .ok (.istore 4, 2) := by decide +kernel
theorem dX8_itemHas_35 : decode cX8_itemHas 35 = .ok (.iload 4, 2) := by decide +kernel
theorem dX8_itemHas_37 : decode cX8_itemHas 37 = .ok (.istore 5, 2) := by decide +kernel
theorem dX8_itemHas_39 : decode cX8_itemHas 39 = .ok (.aload_n 0, 1) := by decide +kernel
theorem dX8_itemHas_40 : decode cX8_itemHas 40 = .ok (.iload_n 1, 1) := by decide +kernel
theorem dX8_itemHas_41 : decode cX8_itemHas 41 = .ok (.invokevirtual 115, 3) := by decide +kernel
theorem dX8_itemHas_44 : decode cX8_itemHas 44 = .ok (.istore 6, 2) := by decide +kernel
theorem dX8_itemHas_46 : decode cX8_itemHas 46 = .ok (.aload_n 0, 1) := by decide +kernel
theorem dX8_itemHas_47 : decode cX8_itemHas 47 = .ok (.getfield 20, 3) := by decide +kernel
theorem dX8_itemHas_50 : decode cX8_itemHas 50 = .ok (.iload 6, 2) := by decide +kernel
theorem dX8_itemHas_52 : decode cX8_itemHas 52 = .ok (.iaload, 1) := by decide +kernel
theorem dX8_itemHas_53 : decode cX8_itemHas 53 = .ok (.bipush 45, 2) := by decide +kernel
theorem dX8_itemHas_55 : decode cX8_itemHas 55 = .ok (.if_icmp .ne 23, 3) := by decide +kernel
theorem dX8_itemHas_58 : decode cX8_itemHas 58 = .ok (.aload_n 0, 1) := by decide +kernel
theorem dX8_itemHas_59 : decode cX8_itemHas 59 = .ok (.iload 6, 2) := by decide +kernel
theorem dX8_itemHas_61 : decode cX8_itemHas 61 = .ok (.iconst 1, 1) := by decide +kernel
theorem dX8_itemHas_62 : decode cX8_itemHas 62 = .ok (.iadd, 1) := by decide +kernel
theorem dX8_itemHas_63 : decode cX8_itemHas 63 = .ok (.invokevirtual 112, 3) := by decide +kernel
theorem dX8_itemHas_66 : decode cX8_itemHas 66 = .ok (.istore 5, 2) := by decide +kernel
theorem dX8_itemHas_68 : decode cX8_itemHas 68 = .ok (.aload_n 0, 1) := by decide +kernel
theorem dX8_itemHas_69 : decode cX8_itemHas 69 = .ok (.iload 6, 2) := by decide +kernel
theorem dX8_itemHas_71 : decode cX8_itemHas 71 = .ok (.iconst 1, 1) := by decide +kernel
theorem dX8_itemHas_72 : decode cX8_itemHas 72 = .ok (.iadd, 1) := by decide +kernel
theorem dX8_itemHas_73 : decode cX8_itemHas 73 = .ok (.invokevirtual 115, 3) := by decide +kernel
theorem dX8_itemHas_76 : decode cX8_itemHas 76 = .ok (.istore 6, 2) := by decide +kernel
theorem dX8_itemHas_78 : decode cX8_itemHas 78 = .ok (.aload_n 0, 1) := by decide +kernel
theorem dX8_itemHas_79 : decode cX8_itemHas 79 = .ok (.getfield 20, 3) := by decide +kernel
theorem dX8_itemHas_82 : decode cX8_itemHas 82 = .ok (.iload 6, 2) := by decide +kernel
theorem dX8_itemHas_84 : decode cX8_itemHas 84 = .ok (.iaload, 1) := by decide +kernel
theorem dX8_itemHas_85 : decode cX8_itemHas 85 = .ok (.bipush 47, 2) := by decide +kernel
theorem dX8_itemHas_87 : decode cX8_itemHas 87 = .ok (.if_icmp .ne 14, 3) := by decide +kernel
theorem dX8_itemHas_90 : decode cX8_itemHas 90 = .ok (.aload_n 0, 1) := by decide +kernel
theorem dX8_itemHas_91 : decode cX8_itemHas 91 = .ok (.iload 6, 2) := by decide +kernel
theorem dX8_itemHas_93 : decode cX8_itemHas 93 = .ok (.iconst 1, 1) := by decide +kernel
theorem dX8_itemHas_94 : decode cX8_itemHas 94 = .ok (.iadd, 1) := by decide +kernel
theorem dX8_itemHas_95 : decode cX8_itemHas 95 = .ok (.invokevirtual 112, 3) := by decide +kernel
theorem dX8_itemHas_98 : decode cX8_itemHas 98 = .ok (.goto 4, 3) := by decide +kernel
theorem dX8_itemHas_101 : decode cX8_itemHas 101 = .ok (.iconst 1, 1) := by decide +kernel
theorem dX8_itemHas_102 : decode cX8_itemHas 102 = .ok (.istore 7, 2) := by decide +kernel
theorem dX8_itemHas_104 : decode cX8_itemHas 104 = .ok (.iload_n 3, 1) := by decide +kernel
theorem dX8_itemHas_105 : decode cX8_itemHas 105 = .ok (.iload 4, 2) := by decide +kernel
theorem dX8_itemHas_107 : decode cX8_itemHas 107 = .ok (.if_icmp .lt 23, 3) := by decide +kernel
theorem dX8_itemHas_110 : decode cX8_itemHas 110 = .ok (.iload_n 3, 1) := by decide +kernel
theorem dX8_itemHas_111 : decode cX8_itemHas 111 = .ok (.iload 5, 2) := by decide +kernel
theorem dX8_itemHas_113 : decode cX8_itemHas 113 = .ok (.if_icmp .gt 17, 3) := by decide +kernel
theorem dX8_itemHas_116 : decode cX8_itemHas 116 = .ok (.iload_n 3, 1) := by decide +kernel
theorem dX8_itemHas_117 : decode cX8_itemHas 117 = .ok (.iload 4, 2) := by decide +kernel
theorem dX8_itemHas_119 : decode cX8_itemHas 119 = .ok (.isub, 1) := by decide +kernel
theorem dX8_itemHas_120 : decode cX8_itemHas 120 = .ok (.iload 7, 2) := by decide +kernel
theorem dX8_itemHas_122 : decode cX8_itemHas 122 = .ok (.irem, 1) := by decide +kernel
theorem dX8_itemHas_123 : decode cX8_itemHas 123 = .ok (.ifCond .ne 7, 3) := by decide +kernel
theorem dX8_itemHas_126 : decode cX8_itemHas 126 = .ok (.iconst 1, 1) := by decide +kernel
theorem dX8_itemHas_127 : decode cX8_itemHas 127 = .ok (.goto 4, 3) := by decide +kernel
theorem dX8_itemHas_130 : decode cX8_itemHas 130 = .ok (.iconst 0, 1) := by decide +kernel
theorem dX8_itemHas_131 : decode cX8_itemHas 131 = .ok (.ireturn, 1) := by decide +kernel
theorem dX8_has_0 : decode cX8_has 0 = .ok (.bipush 61, 2) := by decide +kernel
theorem dX8_has_2 : decode cX8_has 2 = .ok (.iload_n 1, 1) := by decide +kernel
theorem dX8_has_3 : decode cX8_has 3 = .ok (.imul, 1) := by decide +kernel
theorem dX8_has_4 : decode cX8_has 4 = .ok (.aload_n 0, 1) := by decide +kernel
theorem dX8_has_5 : decode cX8_has 5 = .ok (.getfield 23, 3) := by decide +kernel
theorem dX8_has_8 : decode cX8_has 8 = .ok (.iconst 5, 1) := by decide +kernel
theorem dX8_has_9 : decode cX8_has 9 = .ok (.iload_n 1, 1) := by decide +kernel
theorem dX8_has_10 : decode cX8_has 10 = .ok (.imul, 1) := by decide +kernel
theorem dX8_has_11 : decode cX8_has 11 = .ok (.iload_n 2, 1) := by decide +kernel
theorem dX8_has_12 : decode cX8_has 12 = .ok (.iadd, 1) := by decide +kernel
theorem dX8_has_13 : decode cX8_has 13 = .ok (.iaload, 1) := by decide +kernel
theorem dX8_has_14 : decode cX8_has 14 = .ok (.iadd, 1) := by decide +kernel
theorem dX8_has_15 : decode cX8_has 15 = .ok (.istore 4, 2) := by decide +kernel
theorem dX8_has_17 : decode cX8_has 17 = .ok (.aload_n 0, 1) := by decide +kernel
theorem dX8_has_18 : decode cX8_has 18 = .ok (.iload 4, 2) := by decide +kernel
theorem dX8_has_20 : decode cX8_has 20 = .ok (.iload_n 2, 1) := by decide +kernel
theorem dX8_has_21 : decode cX8_has 21 = .ok (.iload_n 3, 1) := by decide +kernel
theorem dX8_has_22 : decode cX8_has 22 = .ok (.invokevirtual 118, 3) := by decide +kernel
theorem dX8_has_25 : decode cX8_has 25 = .ok (.istore 5, 2) := by decide +kernel
theorem dX8_has_27 : decode cX8_has 27 = .ok (.aload_n 0, 1) := by decide +kernel
theorem dX8_has_28 : decode cX8_has 28 = .ok (.getfield 20, 3) := by decide +kernel
theorem dX8_has_31 : decode cX8_has 31 = .ok (.iload 4, 2) := by decide +kernel
theorem dX8_has_33 : decode cX8_has 33 = .ok (.iaload, 1) := by decide +kernel
theorem dX8_has_34 : decode cX8_has 34 = .ok (.bipush 32, 2) := by decide +kernel
theorem dX8_has_36 : decode cX8_has 36 = .ok (.if_icmp .eq 59, 3) := by decide +kernel
theorem dX8_has_39 : decode cX8_has 39 = .ok (.aload_n 0, 1) := by decide +kernel
theorem dX8_has_40 : decode cX8_has 40 = .ok (.getfield 20, 3) := by decide +kernel
theorem dX8_has_43 : decode cX8_has 43 = .ok (.iload 4, 2) := by decide +kernel
theorem dX8_has_45 : decode cX8_has 45 = .ok (.iaload, 1) := by decide +kernel
theorem dX8_has_46 : decode cX8_has 46 = .ok (.ifCond .eq 49, 3) := by decide +kernel
theorem dX8_has_49 : decode cX8_has 49 = .ok (.aload_n 0, 1) := by decide +kernel
theorem dX8_has_50 : decode cX8_has 50 = .ok (.getfield 20, 3) := by decide +kernel
theorem dX8_has_53 : decode cX8_has 53 = .ok (.iload 4, 2) := by decide +kernel
theorem dX8_has_55 : decode cX8_has 55 = .ok (.iaload, 1) := by decide +kernel
theorem dX8_has_56 : decode cX8_has 56 = .ok (.bipush 44, 2) := by decide +kernel
theorem dX8_has_58 : decode cX8_has 58 = .ok (.if_icmp .ne 28, 3) := by decide +kernel
theorem dX8_has_61 : decode cX8_has 61 = .ok (.iload 5, 2) := by decide +kernel
theorem dX8_has_63 : decode cX8_has 63 = .ok (.ifCond .ne 16, 3) := by decide +kernel
theorem dX8_has_66 : decode cX8_has 66 = .ok (.aload_n 0, 1) := by decide +kernel
theorem dX8_has_67 : decode cX8_has 67 = .ok (.iload 4, 2) := by decide +kernel
theorem dX8_has_69 : decode cX8_has 69 = .ok (.iconst 1, 1) := by decide +kernel
theorem dX8_has_70 : decode cX8_has 70 = .ok (.iadd, 1) := by decide +kernel
theorem dX8_has_71 : decode cX8_has 71 = .ok (.iload_n 2, 1) := by decide +kernel
theorem dX8_has_72 : decode cX8_has 72 = .ok (.iload_n 3, 1) := by decide +kernel
theorem dX8_has_73 : decode cX8_has 73 = .ok (.invokevirtual 118, 3) := by decide +kernel
theorem dX8_has_76 : decode cX8_has 76 = .ok (.ifCond .eq 7, 3) := by decide +kernel
theorem dX8_has_79 : decode cX8_has 79 = .ok (.iconst 1, 1) := by decide +kernel
theorem dX8_has_80 : decode cX8_has 80 = .ok (.goto 4, 3) := by decide +kernel
theorem dX8_has_83 : decode cX8_has 83 = .ok (.iconst 0, 1) := by decide +kernel
theorem dX8_has_84 : decode cX8_has 84 = .ok (.istore 5, 2) := by decide +kernel
theorem dX8_has_86 : decode cX8_has 86 = .ok (.iload 4, 2) := by decide +kernel
theorem dX8_has_88 : decode cX8_has 88 = .ok (.iconst 1, 1) := by decide +kernel
theorem dX8_has_89 : decode cX8_has 89 = .ok (.iadd, 1) := by decide +kernel
theorem dX8_has_90 : decode cX8_has 90 = .ok (.istore 4, 2) := by decide +kernel
theorem dX8_has_92 : decode cX8_has 92 = .ok (.goto (-65), 3) := by decide +kernel
theorem dX8_has_95 : decode cX8_has 95 = .ok (.iload 5, 2) := by decide +kernel
theorem dX8_has_97 : decode cX8_has 97 = .ok (.ireturn, 1) := by decide +kernel
theorem dX8_isFree_0 : decode cX8_isFree 0 = .ok (.aload_n 0, 1) := by decide +kernel
theorem dX8_isFree_1 : decode cX8_isFree 1 = .ok (.getfield 20, 3) := by decide +kernel
theorem dX8_isFree_4 : decode cX8_isFree 4 = .ok (.bipush 61, 2) := by decide +kernel
theorem dX8_isFree_6 : decode cX8_isFree 6 = .ok (.iload_n 1, 1) := by decide +kernel
theorem dX8_isFree_7 : decode cX8_isFree 7 = .ok (.imul, 1) := by decide +kernel
theorem dX8_isFree_8 : decode cX8_isFree 8 = .ok (.aload_n 0, 1) := by decide +kernel
theorem dX8_isFree_9 : decode cX8_isFree 9 = .ok (.getfield 23, 3) := by decide +kernel
theorem dX8_isFree_12 : decode cX8_isFree 12 = .ok (.iconst 5, 1) := by decide +kernel
theorem dX8_isFree_13 : decode cX8_isFree 13 = .ok (.iload_n 1, 1) := by decide +kernel
theorem dX8_isFree_14 : decode cX8_isFree 14 = .ok (.imul, 1) := by decide +kernel
theorem dX8_isFree_15 : decode cX8_isFree 15 = .ok (.iload_n 2, 1) := by decide +kernel
theorem dX8_isFree_16 : decode cX8_isFree 16 = .ok (.iadd, 1) := by decide +kernel
theorem dX8_isFree_17 : decode cX8_isFree 17 = .ok (.iaload, 1) := by decide +kernel
theorem dX8_isFree_18 : decode cX8_isFree 18 = .ok (.iadd, 1) := by decide +kernel
theorem dX8_isFree_19 : decode cX8_isFree 19 = .ok (.iaload, 1) := by decide +kernel
theorem dX8_isFree_20 : decode cX8_isFree 20 = .ok (.bipush 42, 2) := by decide +kernel
theorem dX8_isFree_22 : decode cX8_isFree 22 = .ok (.if_icmp .ne 7, 3) := by decide +kernel
theorem dX8_isFree_25 : decode cX8_isFree 25 = .ok (.iconst 1, 1) := by decide +kernel
theorem dX8_isFree_26 : decode cX8_isFree 26 = .ok (.goto 4, 3) := by decide +kernel
theorem dX8_isFree_29 : decode cX8_isFree 29 = .ok (.iconst 0, 1) := by decide +kernel
theorem dX8_isFree_30 : decode cX8_isFree 30 = .ok (.ireturn, 1) := by decide +kernel
theorem dX8_isLeap_0 : decode cX8_isLeap 0 = .ok (.iload_n 0, 1) := by decide +kernel
theorem dX8_isLeap_1 : decode cX8_isLeap 1 = .ok (.sipush 400, 3) := by decide +kernel
theorem dX8_isLeap_4 : decode cX8_isLeap 4 = .ok (.irem, 1) := by decide +kernel
theorem dX8_isLeap_5 : decode cX8_isLeap 5 = .ok (.ifCond .eq 16, 3) := by decide +kernel
theorem dX8_isLeap_8 : decode cX8_isLeap 8 = .ok (.iload_n 0, 1) := by decide +kernel
theorem dX8_isLeap_9 : decode cX8_isLeap 9 = .ok (.iconst 4, 1) := by decide +kernel
theorem dX8_isLeap_10 : decode cX8_isLeap 10 = .ok (.irem, 1) := by decide +kernel
theorem dX8_isLeap_11 : decode cX8_isLeap 11 = .ok (.ifCond .ne 14, 3) := by decide +kernel
theorem dX8_isLeap_14 : decode cX8_isLeap 14 = .ok (.iload_n 0, 1) := by decide +kernel
theorem dX8_isLeap_15 : decode cX8_isLeap 15 = .ok (.bipush 100, 2) := by decide +kernel
theorem dX8_isLeap_17 : decode cX8_isLeap 17 = .ok (.irem, 1) := by decide +kernel
theorem dX8_isLeap_18 : decode cX8_isLeap 18 = .ok (.ifCond .eq 7, 3) := by decide +kernel
theorem dX8_isLeap_21 : decode cX8_isLeap 21 = .ok (.iconst 1, 1) := by decide +kernel
theorem dX8_isLeap_22 : decode cX8_isLeap 22 = .ok (.goto 4, 3) := by decide +kernel
theorem dX8_isLeap_25 : decode cX8_isLeap 25 = .ok (.iconst 0, 1) := by decide +kernel
theorem dX8_isLeap_26 : decode cX8_isLeap 26 = .ok (.ireturn, 1) := by decide +kernel
theorem dX8_monthLength_0 : decode cX8_monthLength 0 = .ok (.iload_n 1, 1) := by decide +kernel
theorem dX8_monthLength_1 : decode cX8_monthLength 1 = .ok (.iconst 2, 1) := by decide +kernel
theorem dX8_monthLength_2 : decode cX8_monthLength 2 = .ok (.if_icmp .ne 18, 3) := by decide +kernel
theorem dX8_monthLength_5 : decode cX8_monthLength 5 = .ok (.iload_n 0, 1) := by decide +kernel
theorem dX8_monthLength_6 : decode cX8_monthLength 6 = .ok (.invokestatic 121, 3) := by decide +kernel
theorem dX8_monthLength_9 : decode cX8_monthLength 9 = .ok (.ifCond .eq 8, 3) := by decide +kernel
theorem dX8_monthLength_12 : decode cX8_monthLength 12 = .ok (.bipush 29, 2) := by decide +kernel
theorem dX8_monthLength_14 : decode cX8_monthLength 14 = .ok (.goto 5, 3) := by decide +kernel
theorem dX8_monthLength_17 : decode cX8_monthLength 17 = .ok (.bipush 28, 2) := by decide +kernel
theorem dX8_monthLength_19 : decode cX8_monthLength 19 = .ok (.ireturn, 1) := by decide +kernel
theorem dX8_monthLength_20 : decode cX8_monthLength 20 = .ok (.iload_n 1, 1) := by decide +kernel
theorem dX8_monthLength_21 : decode cX8_monthLength 21 = .ok (.iconst 4, 1) := by decide +kernel
theorem dX8_monthLength_22 : decode cX8_monthLength 22 = .ok (.if_icmp .eq 21, 3) := by decide +kernel
theorem dX8_monthLength_25 : decode cX8_monthLength 25 = .ok (.iload_n 1, 1) := by decide +kernel
theorem dX8_monthLength_26 : decode cX8_monthLength 26 = .ok (.bipush 6, 2) := by decide +kernel
theorem dX8_monthLength_28 : decode cX8_monthLength 28 = .ok (.if_icmp .eq 15, 3) := by decide +kernel
theorem dX8_monthLength_31 : decode cX8_monthLength 31 = .ok (.iload_n 1, 1) := by decide +kernel
theorem dX8_monthLength_32 : decode cX8_monthLength 32 = .ok (.bipush 9, 2) := by decide +kernel
theorem dX8_monthLength_34 : decode cX8_monthLength 34 = .ok (.if_icmp .eq 9, 3) := by decide +kernel
theorem dX8_monthLength_37 : decode cX8_monthLength 37 = .ok (.iload_n 1, 1) := by decide +kernel
theorem dX8_monthLength_38 : decode cX8_monthLength 38 = .ok (.bipush 11, 2) := by decide +kernel
theorem dX8_monthLength_40 : decode cX8_monthLength 40 = .ok (.if_icmp .ne 8, 3) := by decide +kernel
theorem dX8_monthLength_43 : decode cX8_monthLength 43 = .ok (.bipush 30, 2) := by decide +kernel
theorem dX8_monthLength_45 : decode cX8_monthLength 45 = .ok (.goto 5, 3) := by decide +kernel
theorem dX8_monthLength_48 : decode cX8_monthLength 48 = .ok (.bipush 31, 2) := by decide +kernel
theorem dX8_monthLength_50 : decode cX8_monthLength 50 = .ok (.ireturn, 1) := by decide +kernel
theorem dX8_date_0 : decode cX8_date 0 = .ok (.iload_n 1, 1) := by decide +kernel
theorem dX8_date_1 : decode cX8_date 1 = .ok (.istore_n 2, 1) := by decide +kernel
theorem dX8_date_2 : decode cX8_date 2 = .ok (.aload_n 0, 1) := by decide +kernel
theorem dX8_date_3 : decode cX8_date 3 = .ok (.sipush 2000, 3) := by decide +kernel
theorem dX8_date_6 : decode cX8_date 6 = .ok (.putfield 124, 3) := by decide +kernel
theorem dX8_date_9 : decode cX8_date 9 = .ok (.iload_n 2, 1) := by decide +kernel
theorem dX8_date_10 : decode cX8_date 10 = .ok (.aload_n 0, 1) := by decide +kernel
theorem dX8_date_11 : decode cX8_date 11 = .ok (.getfield 124, 3) := by decide +kernel
theorem dX8_date_14 : decode cX8_date 14 = .ok (.invokestatic 121, 3) := by decide +kernel
theorem dX8_date_17 : decode cX8_date 17 = .ok (.ifCond .eq 9, 3) := by decide +kernel
theorem dX8_date_20 : decode cX8_date 20 = .ok (.sipush 366, 3) := by decide +kernel
theorem dX8_date_23 : decode cX8_date 23 = .ok (.goto 6, 3) := by decide +kernel
theorem dX8_date_26 : decode cX8_date 26 = .ok (.sipush 365, 3) := by decide +kernel
theorem dX8_date_29 : decode cX8_date 29 = .ok (.if_icmp .lt 38, 3) := by decide +kernel
theorem dX8_date_32 : decode cX8_date 32 = .ok (.iload_n 2, 1) := by decide +kernel
theorem dX8_date_33 : decode cX8_date 33 = .ok (.aload_n 0, 1) := by decide +kernel
theorem dX8_date_34 : decode cX8_date 34 = .ok (.getfield 124, 3) := by decide +kernel
theorem dX8_date_37 : decode cX8_date 37 = .ok (.invokestatic 121, 3) := by decide +kernel
theorem dX8_date_40 : decode cX8_date 40 = .ok (.ifCond .eq 9, 3) := by decide +kernel
theorem dX8_date_43 : decode cX8_date 43 = .ok (.sipush 366, 3) := by decide +kernel
theorem dX8_date_46 : decode cX8_date 46 = .ok (.goto 6, 3) := by decide +kernel
theorem dX8_date_49 : decode cX8_date 49 = .ok (.sipush 365, 3) := by decide +kernel
theorem dX8_date_52 : decode cX8_date 52 = .ok (.isub, 1) := by decide +kernel
theorem dX8_date_53 : decode cX8_date 53 = .ok (.istore_n 2, 1) := by decide +kernel
theorem dX8_date_54 : decode cX8_date 54 = .ok (.aload_n 0, 1) := by decide +kernel
theorem dX8_date_55 : decode cX8_date 55 = .ok (.aload_n 0, 1) := by decide +kernel
theorem dX8_date_56 : decode cX8_date 56 = .ok (.getfield 124, 3) := by decide +kernel
theorem dX8_date_59 : decode cX8_date 59 = .ok (.iconst 1, 1) := by decide +kernel
theorem dX8_date_60 : decode cX8_date 60 = .ok (.iadd, 1) := by decide +kernel
theorem dX8_date_61 : decode cX8_date 61 = .ok (.putfield 124, 3) := by decide +kernel
theorem dX8_date_64 : decode cX8_date 64 = .ok (.goto (-55), 3) := by decide +kernel
theorem dX8_date_67 : decode cX8_date 67 = .ok (.aload_n 0, 1) := by decide +kernel
theorem dX8_date_68 : decode cX8_date 68 = .ok (.iconst 1, 1) := by decide +kernel
theorem dX8_date_69 : decode cX8_date 69 = .ok (.putfield 127, 3) := by decide +kernel
theorem dX8_date_72 : decode cX8_date 72 = .ok (.iload_n 2, 1) := by decide +kernel
theorem dX8_date_73 : decode cX8_date 73 = .ok (.aload_n 0, 1) := by decide +kernel
theorem dX8_date_74 : decode cX8_date 74 = .ok (.getfield 124, 3) := by decide +kernel
theorem dX8_date_77 : decode cX8_date 77 = .ok (.aload_n 0, 1) := by decide +kernel
theorem dX8_date_78 : decode cX8_date 78 = .ok (.getfield 127, 3) := by decide +kernel
theorem dX8_date_81 : decode cX8_date 81 = .ok (.invokestatic 130, 3) := by decide +kernel
theorem dX8_date_84 : decode cX8_date 84 = .ok (.if_icmp .lt 30, 3) := by decide +kernel
theorem dX8_date_87 : decode cX8_date 87 = .ok (.iload_n 2, 1) := by decide +kernel
theorem dX8_date_88 : decode cX8_date 88 = .ok (.aload_n 0, 1) := by decide +kernel
theorem dX8_date_89 : decode cX8_date 89 = .ok (.getfield 124, 3) := by decide +kernel
theorem dX8_date_92 : decode cX8_date 92 = .ok (.aload_n 0, 1) := by decide +kernel
theorem dX8_date_93 : decode cX8_date 93 = .ok (.getfield 127, 3) := by decide +kernel
theorem dX8_date_96 : decode cX8_date 96 = .ok (.invokestatic 130, 3) := by decide +kernel
theorem dX8_date_99 : decode cX8_date 99 = .ok (.isub, 1) := by decide +kernel
theorem dX8_date_100 : decode cX8_date 100 = .ok (.istore_n 2, 1) := by decide +kernel
theorem dX8_date_101 : decode cX8_date 101 = .ok (.aload_n 0, 1) := by decide +kernel
theorem dX8_date_102 : decode cX8_date 102 = .ok (.aload_n 0, 1) := by decide +kernel
theorem dX8_date_103 : decode cX8_date 103 = .ok (.getfield 127, 3) := by decide +kernel
theorem dX8_date_106 : decode cX8_date 106 = .ok (.iconst 1, 1) := by decide +kernel
theorem dX8_date_107 : decode cX8_date 107 = .ok (.iadd, 1) := by decide +kernel
theorem dX8_date_108 : decode cX8_date 108 = .ok (.putfield 127, 3) := by decide +kernel
theorem dX8_date_111 : decode cX8_date 111 = .ok (.goto (-39), 3) := by decide +kernel
theorem dX8_date_114 : decode cX8_date 114 = .ok (.aload_n 0, 1) := by decide +kernel
theorem dX8_date_115 : decode cX8_date 115 = .ok (.iload_n 2, 1) := by decide +kernel
theorem dX8_date_116 : decode cX8_date 116 = .ok (.iconst 1, 1) := by decide +kernel
theorem dX8_date_117 : decode cX8_date 117 = .ok (.iadd, 1) := by decide +kernel
theorem dX8_date_118 : decode cX8_date 118 = .ok (.putfield 133, 3) := by decide +kernel
theorem dX8_date_121 : decode cX8_date 121 = .ok (.return_, 1) := by decide +kernel
theorem dX8_weekdayOf_0 : decode cX8_weekdayOf 0 = .ok (.iload_n 0, 1) := by decide +kernel
theorem dX8_weekdayOf_1 : decode cX8_weekdayOf 1 = .ok (.bipush 6, 2) := by decide +kernel
theorem dX8_weekdayOf_3 : decode cX8_weekdayOf 3 = .ok (.iadd, 1) := by decide +kernel
theorem dX8_weekdayOf_4 : decode cX8_weekdayOf 4 = .ok (.bipush 7, 2) := by decide +kernel
theorem dX8_weekdayOf_6 : decode cX8_weekdayOf 6 = .ok (.irem, 1) := by decide +kernel
theorem dX8_weekdayOf_7 : decode cX8_weekdayOf 7 = .ok (.ireturn, 1) := by decide +kernel
theorem dX8_holdsOn_0 : decode cX8_holdsOn 0 = .ok (.aload_n 0, 1) := by decide +kernel
theorem dX8_holdsOn_1 : decode cX8_holdsOn 1 = .ok (.iload_n 2, 1) := by decide +kernel
theorem dX8_holdsOn_2 : decode cX8_holdsOn 2 = .ok (.invokevirtual 136, 3) := by decide +kernel
theorem dX8_holdsOn_5 : decode cX8_holdsOn 5 = .ok (.iload_n 2, 1) := by decide +kernel
theorem dX8_holdsOn_6 : decode cX8_holdsOn 6 = .ok (.invokestatic 140, 3) := by decide +kernel
theorem dX8_holdsOn_9 : decode cX8_holdsOn 9 = .ok (.istore_n 3, 1) := by decide +kernel
theorem dX8_holdsOn_10 : decode cX8_holdsOn 10 = .ok (.aload_n 0, 1) := by decide +kernel
theorem dX8_holdsOn_11 : decode cX8_holdsOn 11 = .ok (.iload_n 1, 1) := by decide +kernel
theorem dX8_holdsOn_12 : decode cX8_holdsOn 12 = .ok (.iconst 2, 1) := by decide +kernel
theorem dX8_holdsOn_13 : decode cX8_holdsOn 13 = .ok (.aload_n 0, 1) := by decide +kernel
theorem dX8_holdsOn_14 : decode cX8_holdsOn 14 = .ok (.getfield 133, 3) := by decide +kernel
theorem dX8_holdsOn_17 : decode cX8_holdsOn 17 = .ok (.invokevirtual 143, 3) := by decide +kernel
theorem dX8_holdsOn_20 : decode cX8_holdsOn 20 = .ok (.istore 4, 2) := by decide +kernel
theorem dX8_holdsOn_22 : decode cX8_holdsOn 22 = .ok (.aload_n 0, 1) := by decide +kernel
theorem dX8_holdsOn_23 : decode cX8_holdsOn 23 = .ok (.iload_n 1, 1) := by decide +kernel
theorem dX8_holdsOn_24 : decode cX8_holdsOn 24 = .ok (.iconst 4, 1) := by decide +kernel
theorem dX8_holdsOn_25 : decode cX8_holdsOn 25 = .ok (.iload_n 3, 1) := by decide +kernel
theorem dX8_holdsOn_26 : decode cX8_holdsOn 26 = .ok (.invokevirtual 143, 3) := by decide +kernel
theorem dX8_holdsOn_29 : decode cX8_holdsOn 29 = .ok (.ifCond .ne 18, 3) := by decide +kernel
theorem dX8_holdsOn_32 : decode cX8_holdsOn 32 = .ok (.iload_n 3, 1) := by decide +kernel
theorem dX8_holdsOn_33 : decode cX8_holdsOn 33 = .ok (.ifCond .ne 18, 3) := by decide +kernel
theorem dX8_holdsOn_36 : decode cX8_holdsOn 36 = .ok (.aload_n 0, 1) := by decide +kernel
theorem dX8_holdsOn_37 : decode cX8_holdsOn 37 = .ok (.iload_n 1, 1) := by decide +kernel
theorem dX8_holdsOn_38 : decode cX8_holdsOn 38 = .ok (.iconst 4, 1) := by decide +kernel
theorem dX8_holdsOn_39 : decode cX8_holdsOn 39 = .ok (.bipush 7, 2) := by decide +kernel
theorem dX8_holdsOn_41 : decode cX8_holdsOn 41 = .ok (.invokevirtual 143, 3) := by decide +kernel
theorem dX8_holdsOn_44 : decode cX8_holdsOn 44 = .ok (.ifCond .eq 7, 3) := by decide +kernel
theorem dX8_holdsOn_47 : decode cX8_holdsOn 47 = .ok (.iconst 1, 1) := by decide +kernel
theorem dX8_holdsOn_48 : decode cX8_holdsOn 48 = .ok (.goto 4, 3) := by decide +kernel
theorem dX8_holdsOn_51 : decode cX8_holdsOn 51 = .ok (.iconst 0, 1) := by decide +kernel
theorem dX8_holdsOn_52 : decode cX8_holdsOn 52 = .ok (.istore 5, 2) := by decide +kernel
theorem dX8_holdsOn_54 : decode cX8_holdsOn 54 = .ok (.aload_n 0, 1) := by decide +kernel
theorem dX8_holdsOn_55 : decode cX8_holdsOn 55 = .ok (.iload_n 1, 1) := by decide +kernel
theorem dX8_holdsOn_56 : decode cX8_holdsOn 56 = .ok (.iconst 2, 1) := by decide +kernel
theorem dX8_holdsOn_57 : decode cX8_holdsOn 57 = .ok (.invokevirtual 146, 3) := by decide +kernel
theorem dX8_holdsOn_60 : decode cX8_holdsOn 60 = .ok (.ifCond .ne 12, 3) := by decide +kernel
theorem dX8_holdsOn_63 : decode cX8_holdsOn 63 = .ok (.aload_n 0, 1) := by decide +kernel
theorem dX8_holdsOn_64 : decode cX8_holdsOn 64 = .ok (.iload_n 1, 1) := by decide +kernel
theorem dX8_holdsOn_65 : decode cX8_holdsOn 65 = .ok (.iconst 4, 1) := by decide +kernel
theorem dX8_holdsOn_66 : decode cX8_holdsOn 66 = .ok (.invokevirtual 146, 3) := by decide +kernel
theorem dX8_holdsOn_69 : decode cX8_holdsOn 69 = .ok (.ifCond .eq 7, 3) := by decide +kernel
theorem dX8_holdsOn_72 : decode cX8_holdsOn 72 = .ok (.iconst 1, 1) := by decide +kernel
theorem dX8_holdsOn_73 : decode cX8_holdsOn 73 = .ok (.goto 4, 3) := by decide +kernel
theorem dX8_holdsOn_76 : decode cX8_holdsOn 76 = .ok (.iconst 0, 1) := by decide +kernel
theorem dX8_holdsOn_77 : decode cX8_holdsOn 77 = .ok (.istore 6, 2) := by decide +kernel
theorem dX8_holdsOn_79 : decode cX8_holdsOn 79 = .ok (.aload_n 0, 1) := by decide +kernel
theorem dX8_holdsOn_80 : decode cX8_holdsOn 80 = .ok (.iload_n 1, 1) := by decide +kernel
theorem dX8_holdsOn_81 : decode cX8_holdsOn 81 = .ok (.iconst 3, 1) := by decide +kernel
theorem dX8_holdsOn_82 : decode cX8_holdsOn 82 = .ok (.aload_n 0, 1) := by decide +kernel
theorem dX8_holdsOn_83 : decode cX8_holdsOn 83 = .ok (.getfield 127, 3) := by decide +kernel
theorem dX8_holdsOn_86 : decode cX8_holdsOn 86 = .ok (.invokevirtual 143, 3) := by decide +kernel
theorem dX8_holdsOn_89 : decode cX8_holdsOn 89 = .ok (.ifCond .eq 35, 3) := by decide +kernel
theorem dX8_holdsOn_92 : decode cX8_holdsOn 92 = .ok (.iload 6, 2) := by decide +kernel
theorem dX8_holdsOn_94 : decode cX8_holdsOn 94 = .ok (.ifCond .eq 16, 3) := by decide +kernel
theorem dX8_holdsOn_97 : decode cX8_holdsOn 97 = .ok (.iload 4, 2) := by decide +kernel
theorem dX8_holdsOn_99 : decode cX8_holdsOn 99 = .ok (.ifCond .eq 25, 3) := by decide +kernel
theorem dX8_holdsOn_102 : decode cX8_holdsOn 102 = .ok (.iload 5, 2) := by decide +kernel
theorem dX8_holdsOn_104 : decode cX8_holdsOn 104 = .ok (.ifCond .eq 20, 3) := by decide +kernel
theorem dX8_holdsOn_107 : decode cX8_holdsOn 107 = .ok (.goto 13, 3) := by decide +kernel
theorem dX8_holdsOn_110 : decode cX8_holdsOn 110 = .ok (.iload 4, 2) := by decide +kernel
theorem dX8_holdsOn_112 : decode cX8_holdsOn 112 = .ok (.ifCond .ne 8, 3) := by decide +kernel
theorem dX8_holdsOn_115 : decode cX8_holdsOn 115 = .ok (.iload 5, 2) := by decide +kernel
theorem dX8_holdsOn_117 : decode cX8_holdsOn 117 = .ok (.ifCond .eq 7, 3) := by decide +kernel
theorem dX8_holdsOn_120 : decode cX8_holdsOn 120 = .ok (.iconst 1, 1) := by decide +kernel
theorem dX8_holdsOn_121 : decode cX8_holdsOn 121 = .ok (.goto 4, 3) := by decide +kernel
theorem dX8_holdsOn_124 : decode cX8_holdsOn 124 = .ok (.iconst 0, 1) := by decide +kernel
theorem dX8_holdsOn_125 : decode cX8_holdsOn 125 = .ok (.ireturn, 1) := by decide +kernel
theorem dX8_holdsIn_0 : decode cX8_holdsIn 0 = .ok (.aload_n 0, 1) := by decide +kernel
theorem dX8_holdsIn_1 : decode cX8_holdsIn 1 = .ok (.iload_n 1, 1) := by decide +kernel
theorem dX8_holdsIn_2 : decode cX8_holdsIn 2 = .ok (.iconst 0, 1) := by decide +kernel
theorem dX8_holdsIn_3 : decode cX8_holdsIn 3 = .ok (.iload_n 2, 1) := by decide +kernel
theorem dX8_holdsIn_4 : decode cX8_holdsIn 4 = .ok (.bipush 60, 2) := by decide +kernel
theorem dX8_holdsIn_6 : decode cX8_holdsIn 6 = .ok (.irem, 1) := by decide +kernel
theorem dX8_holdsIn_7 : decode cX8_holdsIn 7 = .ok (.invokevirtual 143, 3) := by decide +kernel
theorem dX8_holdsIn_10 : decode cX8_holdsIn 10 = .ok (.ifCond .eq 20, 3) := by decide +kernel
theorem dX8_holdsIn_13 : decode cX8_holdsIn 13 = .ok (.aload_n 0, 1) := by decide +kernel
theorem dX8_holdsIn_14 : decode cX8_holdsIn 14 = .ok (.iload_n 1, 1) := by decide +kernel
theorem dX8_holdsIn_15 : decode cX8_holdsIn 15 = .ok (.iconst 1, 1) := by decide +kernel
theorem dX8_holdsIn_16 : decode cX8_holdsIn 16 = .ok (.iload_n 2, 1) := by decide +kernel
theorem dX8_holdsIn_17 : decode cX8_holdsIn 17 = .ok (.bipush 60, 2) := by decide +kernel
theorem dX8_holdsIn_19 : decode cX8_holdsIn 19 = .ok (.idiv, 1) := by decide +kernel
theorem dX8_holdsIn_20 : decode cX8_holdsIn 20 = .ok (.invokevirtual 143, 3) := by decide +kernel
theorem dX8_holdsIn_23 : decode cX8_holdsIn 23 = .ok (.ifCond .eq 7, 3) := by decide +kernel
theorem dX8_holdsIn_26 : decode cX8_holdsIn 26 = .ok (.iconst 1, 1) := by decide +kernel
theorem dX8_holdsIn_27 : decode cX8_holdsIn 27 = .ok (.goto 4, 3) := by decide +kernel
theorem dX8_holdsIn_30 : decode cX8_holdsIn 30 = .ok (.iconst 0, 1) := by decide +kernel
theorem dX8_holdsIn_31 : decode cX8_holdsIn 31 = .ok (.ireturn, 1) := by decide +kernel
theorem dX8_holdsAt_0 : decode cX8_holdsAt 0 = .ok (.aload_n 0, 1) := by decide +kernel
theorem dX8_holdsAt_1 : decode cX8_holdsAt 1 = .ok (.iload_n 1, 1) := by decide +kernel
theorem dX8_holdsAt_2 : decode cX8_holdsAt 2 = .ok (.iload_n 2, 1) := by decide +kernel
theorem dX8_holdsAt_3 : decode cX8_holdsAt 3 = .ok (.sipush 1440, 3) := by decide +kernel
theorem dX8_holdsAt_6 : decode cX8_holdsAt 6 = .ok (.irem, 1) := by decide +kernel
theorem dX8_holdsAt_7 : decode cX8_holdsAt 7 = .ok (.invokevirtual 150, 3) := by decide +kernel
theorem dX8_holdsAt_10 : decode cX8_holdsAt 10 = .ok (.ifCond .eq 20, 3) := by decide +kernel
theorem dX8_holdsAt_13 : decode cX8_holdsAt 13 = .ok (.aload_n 0, 1) := by decide +kernel
theorem dX8_holdsAt_14 : decode cX8_holdsAt 14 = .ok (.iload_n 1, 1) := by decide +kernel
theorem dX8_holdsAt_15 : decode cX8_holdsAt 15 = .ok (.iload_n 2, 1) := by decide +kernel
theorem dX8_holdsAt_16 : decode cX8_holdsAt 16 = .ok (.sipush 1440, 3) := by decide +kernel
theorem dX8_holdsAt_19 : decode cX8_holdsAt 19 = .ok (.idiv, 1) := by decide +kernel
theorem dX8_holdsAt_20 : decode cX8_holdsAt 20 = .ok (.invokevirtual 153, 3) := by decide +kernel
theorem dX8_holdsAt_23 : decode cX8_holdsAt 23 = .ok (.ifCond .eq 7, 3) := by decide +kernel
theorem dX8_holdsAt_26 : decode cX8_holdsAt 26 = .ok (.iconst 1, 1) := by decide +kernel
theorem dX8_holdsAt_27 : decode cX8_holdsAt 27 = .ok (.goto 4, 3) := by decide +kernel
theorem dX8_holdsAt_30 : decode cX8_holdsAt 30 = .ok (.iconst 0, 1) := by decide +kernel
theorem dX8_holdsAt_31 : decode cX8_holdsAt 31 = .ok (.ireturn, 1) := by decide +kernel
theorem dX8_isJob_0 : decode cX8_isJob 0 = .ok (.iload_n 1, 1) := by decide +kernel
theorem dX8_isJob_1 : decode cX8_isJob 1 = .ok (.ifCond .lt 15, 3) := by decide +kernel
theorem dX8_isJob_4 : decode cX8_isJob 4 = .ok (.iload_n 1, 1) := by decide +kernel
theorem dX8_isJob_5 : decode cX8_isJob 5 = .ok (.aload_n 0, 1) := by decide +kernel
theorem dX8_isJob_6 : decode cX8_isJob 6 = .ok (.getfield 98, 3) := by decide +kernel
theorem dX8_isJob_9 : decode cX8_isJob 9 = .ok (.if_icmp .ge 7, 3) := by decide +kernel
theorem dX8_isJob_12 : decode cX8_isJob 12 = .ok (.iconst 1, 1) := by decide +kernel
theorem dX8_isJob_13 : decode cX8_isJob 13 = .ok (.goto 4, 3) := by decide +kernel
theorem dX8_isJob_16 : decode cX8_isJob 16 = .ok (.iconst 0, 1) := by decide +kernel
theorem dX8_isJob_17 : decode cX8_isJob 17 = .ok (.ireturn, 1) := by decide +kernel
theorem dX8_isMinute_0 : decode cX8_isMinute 0 = .ok (.iload_n 0, 1) := by decide +kernel
theorem dX8_isMinute_1 : decode cX8_isMinute 1 = .ok (.ifCond .lt 13, 3) := by decide +kernel
theorem dX8_isMinute_4 : decode cX8_isMinute 4 = .ok (.iload_n 0, 1) := by decide +kernel
theorem dX8_isMinute_5 : decode cX8_isMinute 5 = .ok (.ldc 156, 2) := by decide +kernel
theorem dX8_isMinute_7 : decode cX8_isMinute 7 = .ok (.if_icmp .ge 7, 3) := by decide +kernel
theorem dX8_isMinute_10 : decode cX8_isMinute 10 = .ok (.iconst 1, 1) := by decide +kernel
theorem dX8_isMinute_11 : decode cX8_isMinute 11 = .ok (.goto 4, 3) := by decide +kernel
theorem dX8_isMinute_14 : decode cX8_isMinute 14 = .ok (.iconst 0, 1) := by decide +kernel
theorem dX8_isMinute_15 : decode cX8_isMinute 15 = .ok (.ireturn, 1) := by decide +kernel
theorem dX8_holds_0 : decode cX8_holds 0 = .ok (.aload_n 0, 1) := by decide +kernel
theorem dX8_holds_1 : decode cX8_holds 1 = .ok (.aload_n 0, 1) := by decide +kernel
theorem dX8_holds_2 : decode cX8_holds 2 = .ok (.iload_n 1, 1) := by decide +kernel
theorem dX8_holds_3 : decode cX8_holds 3 = .ok (.invokevirtual 157, 3) := by decide +kernel
theorem dX8_holds_6 : decode cX8_holds 6 = .ok (.ifCond .ne 7, 3) := by decide +kernel
theorem dX8_holds_9 : decode cX8_holds 9 = .ok (.iconst 1, 1) := by decide +kernel
theorem dX8_holds_10 : decode cX8_holds 10 = .ok (.goto 15, 3) := by decide +kernel
theorem dX8_holds_13 : decode cX8_holds 13 = .ok (.iload_n 2, 1) := by decide +kernel
theorem dX8_holds_14 : decode cX8_holds 14 = .ok (.invokestatic 160, 3) := by decide +kernel
theorem dX8_holds_17 : decode cX8_holds 17 = .ok (.ifCond .ne 7, 3) := by decide +kernel
theorem dX8_holds_20 : decode cX8_holds 20 = .ok (.iconst 2, 1) := by decide +kernel
theorem dX8_holds_21 : decode cX8_holds 21 = .ok (.goto 4, 3) := by decide +kernel
theorem dX8_holds_24 : decode cX8_holds 24 = .ok (.iconst 0, 1) := by decide +kernel
theorem dX8_holds_25 : decode cX8_holds 25 = .ok (.putfield 66, 3) := by decide +kernel
theorem dX8_holds_28 : decode cX8_holds 28 = .ok (.aload_n 0, 1) := by decide +kernel
theorem dX8_holds_29 : decode cX8_holds 29 = .ok (.getfield 66, 3) := by decide +kernel
theorem dX8_holds_32 : decode cX8_holds 32 = .ok (.ifCond .ne 16, 3) := by decide +kernel
theorem dX8_holds_35 : decode cX8_holds 35 = .ok (.aload_n 0, 1) := by decide +kernel
theorem dX8_holds_36 : decode cX8_holds 36 = .ok (.iload_n 1, 1) := by decide +kernel
theorem dX8_holds_37 : decode cX8_holds 37 = .ok (.iload_n 2, 1) := by decide +kernel
theorem dX8_holds_38 : decode cX8_holds 38 = .ok (.invokevirtual 163, 3) := by decide +kernel
theorem dX8_holds_41 : decode cX8_holds 41 = .ok (.ifCond .eq 7, 3) := by decide +kernel
theorem dX8_holds_44 : decode cX8_holds 44 = .ok (.iconst 1, 1) := by decide +kernel
theorem dX8_holds_45 : decode cX8_holds 45 = .ok (.goto 4, 3) := by decide +kernel
theorem dX8_holds_48 : decode cX8_holds 48 = .ok (.iconst 0, 1) := by decide +kernel
theorem dX8_holds_49 : decode cX8_holds 49 = .ok (.ireturn, 1) := by decide +kernel
theorem dX8_firstFrom_0 : decode cX8_firstFrom 0 = .ok (.iload_n 2, 1) := by decide +kernel
theorem dX8_firstFrom_1 : decode cX8_firstFrom 1 = .ok (.istore 4, 2) := by decide +kernel
theorem dX8_firstFrom_3 : decode cX8_firstFrom 3 = .ok (.iload 4, 2) := by decide +kernel
theorem dX8_firstFrom_5 : decode cX8_firstFrom 5 = .ok (.iload_n 3, 1) := by decide +kernel
theorem dX8_firstFrom_6 : decode cX8_firstFrom 6 = .ok (.if_icmp .ge 92, 3) := by decide +kernel
theorem dX8_firstFrom_9 : decode cX8_firstFrom 9 = .ok (.aload_n 0, 1) := by decide +kernel
theorem dX8_firstFrom_10 : decode cX8_firstFrom 10 = .ok (.iload_n 1, 1) := by decide +kernel
theorem dX8_firstFrom_11 : decode cX8_firstFrom 11 = .ok (.iload 4, 2) := by decide +kernel
theorem dX8_firstFrom_13 : decode cX8_firstFrom 13 = .ok (.sipush 1440, 3) := by decide +kernel
theorem dX8_firstFrom_16 : decode cX8_firstFrom 16 = .ok (.idiv, 1) := by decide +kernel
theorem dX8_firstFrom_17 : decode cX8_firstFrom 17 = .ok (.invokevirtual 153, 3) := by decide +kernel
theorem dX8_firstFrom_20 : decode cX8_firstFrom 20 = .ok (.ifCond .eq 60, 3) := by decide +kernel
theorem dX8_firstFrom_23 : decode cX8_firstFrom 23 = .ok (.iload 4, 2) := by decide +kernel
theorem dX8_firstFrom_25 : decode cX8_firstFrom 25 = .ok (.iload 4, 2) := by decide +kernel
theorem dX8_firstFrom_27 : decode cX8_firstFrom 27 = .ok (.sipush 1440, 3) := by decide +kernel
theorem dX8_firstFrom_30 : decode cX8_firstFrom 30 = .ok (.irem, 1) := by decide +kernel
theorem dX8_firstFrom_31 : decode cX8_firstFrom 31 = .ok (.isub, 1) := by decide +kernel
theorem dX8_firstFrom_32 : decode cX8_firstFrom 32 = .ok (.sipush 1440, 3) := by decide +kernel
theorem dX8_firstFrom_35 : decode cX8_firstFrom 35 = .ok (.iadd, 1) := by decide +kernel
theorem dX8_firstFrom_36 : decode cX8_firstFrom 36 = .ok (.istore 5, 2) := by decide +kernel
theorem dX8_firstFrom_38 : decode cX8_firstFrom 38 = .ok (.iload 4, 2) := by decide +kernel
theorem dX8_firstFrom_40 : decode cX8_firstFrom 40 = .ok (.iload 5, 2) := by decide +kernel
theorem dX8_firstFrom_42 : decode cX8_firstFrom 42 = .ok (.if_icmp .ge 35, 3) := by decide +kernel
theorem dX8_firstFrom_45 : decode cX8_firstFrom 45 = .ok (.iload 4, 2) := by decide +kernel
theorem dX8_firstFrom_47 : decode cX8_firstFrom 47 = .ok (.iload_n 3, 1) := by decide +kernel
theorem dX8_firstFrom_48 : decode cX8_firstFrom 48 = .ok (.if_icmp .ge 29, 3) := by decide +kernel
theorem dX8_firstFrom_51 : decode cX8_firstFrom 51 = .ok (.aload_n 0, 1) := by decide +kernel
theorem dX8_firstFrom_52 : decode cX8_firstFrom 52 = .ok (.iload_n 1, 1) := by decide +kernel
theorem dX8_firstFrom_53 : decode cX8_firstFrom 53 = .ok (.iload 4, 2) := by decide +kernel
theorem dX8_firstFrom_55 : decode cX8_firstFrom 55 = .ok (.sipush 1440, 3) := by decide +kernel
theorem dX8_firstFrom_58 : decode cX8_firstFrom 58 = .ok (.irem, 1) := by decide +kernel
theorem dX8_firstFrom_59 : decode cX8_firstFrom 59 = .ok (.invokevirtual 150, 3) := by decide +kernel
theorem dX8_firstFrom_62 : decode cX8_firstFrom 62 = .ok (.ifCond .eq 6, 3) := by decide +kernel
theorem dX8_firstFrom_65 : decode cX8_firstFrom 65 = .ok (.iload 4, 2) := by decide +kernel
theorem dX8_firstFrom_67 : decode cX8_firstFrom 67 = .ok (.ireturn, 1) := by decide +kernel
theorem dX8_firstFrom_68 : decode cX8_firstFrom 68 = .ok (.iload 4, 2) := by decide +kernel
theorem dX8_firstFrom_70 : decode cX8_firstFrom 70 = .ok (.iconst 1, 1) := by decide +kernel
theorem dX8_firstFrom_71 : decode cX8_firstFrom 71 = .ok (.iadd, 1) := by decide +kernel
theorem dX8_firstFrom_72 : decode cX8_firstFrom 72 = .ok (.istore 4, 2) := by decide +kernel
theorem dX8_firstFrom_74 : decode cX8_firstFrom 74 = .ok (.goto (-36), 3) := by decide +kernel
theorem dX8_firstFrom_77 : decode cX8_firstFrom 77 = .ok (.goto (-74), 3) := by decide +kernel
theorem dX8_firstFrom_80 : decode cX8_firstFrom 80 = .ok (.iload 4, 2) := by decide +kernel
theorem dX8_firstFrom_82 : decode cX8_firstFrom 82 = .ok (.iload 4, 2) := by decide +kernel
theorem dX8_firstFrom_84 : decode cX8_firstFrom 84 = .ok (.sipush 1440, 3) := by decide +kernel
theorem dX8_firstFrom_87 : decode cX8_firstFrom 87 = .ok (.irem, 1) := by decide +kernel
theorem dX8_firstFrom_88 : decode cX8_firstFrom 88 = .ok (.isub, 1) := by decide +kernel
theorem dX8_firstFrom_89 : decode cX8_firstFrom 89 = .ok (.sipush 1440, 3) := by decide +kernel
theorem dX8_firstFrom_92 : decode cX8_firstFrom 92 = .ok (.iadd, 1) := by decide +kernel
theorem dX8_firstFrom_93 : decode cX8_firstFrom 93 = .ok (.istore 4, 2) := by decide +kernel
theorem dX8_firstFrom_95 : decode cX8_firstFrom 95 = .ok (.goto (-92), 3) := by decide +kernel
theorem dX8_firstFrom_98 : decode cX8_firstFrom 98 = .ok (.iconst (-1), 1) := by decide +kernel
theorem dX8_firstFrom_99 : decode cX8_firstFrom 99 = .ok (.ireturn, 1) := by decide +kernel
theorem dX8_next_0 : decode cX8_next 0 = .ok (.aload_n 0, 1) := by decide +kernel
theorem dX8_next_1 : decode cX8_next 1 = .ok (.aload_n 0, 1) := by decide +kernel
theorem dX8_next_2 : decode cX8_next 2 = .ok (.iload_n 1, 1) := by decide +kernel
theorem dX8_next_3 : decode cX8_next 3 = .ok (.invokevirtual 157, 3) := by decide +kernel
theorem dX8_next_6 : decode cX8_next 6 = .ok (.ifCond .ne 7, 3) := by decide +kernel
theorem dX8_next_9 : decode cX8_next 9 = .ok (.iconst 1, 1) := by decide +kernel
theorem dX8_next_10 : decode cX8_next 10 = .ok (.goto 15, 3) := by decide +kernel
theorem dX8_next_13 : decode cX8_next 13 = .ok (.iload_n 2, 1) := by decide +kernel
theorem dX8_next_14 : decode cX8_next 14 = .ok (.invokestatic 160, 3) := by decide +kernel
theorem dX8_next_17 : decode cX8_next 17 = .ok (.ifCond .ne 7, 3) := by decide +kernel
theorem dX8_next_20 : decode cX8_next 20 = .ok (.iconst 2, 1) := by decide +kernel
theorem dX8_next_21 : decode cX8_next 21 = .ok (.goto 4, 3) := by decide +kernel
theorem dX8_next_24 : decode cX8_next 24 = .ok (.iconst 0, 1) := by decide +kernel
theorem dX8_next_25 : decode cX8_next 25 = .ok (.putfield 66, 3) := by decide +kernel
theorem dX8_next_28 : decode cX8_next 28 = .ok (.aload_n 0, 1) := by decide +kernel
theorem dX8_next_29 : decode cX8_next 29 = .ok (.getfield 66, 3) := by decide +kernel
theorem dX8_next_32 : decode cX8_next 32 = .ok (.ifCond .le 7, 3) := by decide +kernel
theorem dX8_next_35 : decode cX8_next 35 = .ok (.iconst 0, 1) := by decide +kernel
theorem dX8_next_36 : decode cX8_next 36 = .ok (.goto 13, 3) := by decide +kernel
theorem dX8_next_39 : decode cX8_next 39 = .ok (.aload_n 0, 1) := by decide +kernel
theorem dX8_next_40 : decode cX8_next 40 = .ok (.iload_n 1, 1) := by decide +kernel
theorem dX8_next_41 : decode cX8_next 41 = .ok (.iload_n 2, 1) := by decide +kernel
theorem dX8_next_42 : decode cX8_next 42 = .ok (.iconst 1, 1) := by decide +kernel
theorem dX8_next_43 : decode cX8_next 43 = .ok (.iadd, 1) := by decide +kernel
theorem dX8_next_44 : decode cX8_next 44 = .ok (.ldc 156, 2) := by decide +kernel
theorem dX8_next_46 : decode cX8_next 46 = .ok (.invokevirtual 166, 3) := by decide +kernel
theorem dX8_next_49 : decode cX8_next 49 = .ok (.ireturn, 1) := by decide +kernel
theorem dX8_part_0 : decode cX8_part 0 = .ok (.aload_n 0, 1) := by decide +kernel
theorem dX8_part_1 : decode cX8_part 1 = .ok (.iload_n 1, 1) := by decide +kernel
theorem dX8_part_2 : decode cX8_part 2 = .ok (.invokestatic 160, 3) := by decide +kernel
theorem dX8_part_5 : decode cX8_part 5 = .ok (.ifCond .eq 12, 3) := by decide +kernel
theorem dX8_part_8 : decode cX8_part 8 = .ok (.iload_n 2, 1) := by decide +kernel
theorem dX8_part_9 : decode cX8_part 9 = .ok (.ifCond .lt 8, 3) := by decide +kernel
theorem dX8_part_12 : decode cX8_part 12 = .ok (.iload_n 2, 1) := by decide +kernel
theorem dX8_part_13 : decode cX8_part 13 = .ok (.iconst 5, 1) := by decide +kernel
theorem dX8_part_14 : decode cX8_part 14 = .ok (.if_icmp .le 7, 3) := by decide +kernel
theorem dX8_part_17 : decode cX8_part 17 = .ok (.iconst 1, 1) := by decide +kernel
theorem dX8_part_18 : decode cX8_part 18 = .ok (.goto 4, 3) := by decide +kernel
theorem dX8_part_21 : decode cX8_part 21 = .ok (.iconst 0, 1) := by decide +kernel
theorem dX8_part_22 : decode cX8_part 22 = .ok (.putfield 66, 3) := by decide +kernel
theorem dX8_part_25 : decode cX8_part 25 = .ok (.aload_n 0, 1) := by decide +kernel
theorem dX8_part_26 : decode cX8_part 26 = .ok (.getfield 66, 3) := by decide +kernel
theorem dX8_part_29 : decode cX8_part 29 = .ok (.ifCond .le 5, 3) := by decide +kernel
theorem dX8_part_32 : decode cX8_part 32 = .ok (.iconst 0, 1) := by decide +kernel
theorem dX8_part_33 : decode cX8_part 33 = .ok (.ireturn, 1) := by decide +kernel
theorem dX8_part_34 : decode cX8_part 34 = .ok (.aload_n 0, 1) := by decide +kernel
theorem dX8_part_35 : decode cX8_part 35 = .ok (.iload_n 1, 1) := by decide +kernel
theorem dX8_part_36 : decode cX8_part 36 = .ok (.sipush 1440, 3) := by decide +kernel
theorem dX8_part_39 : decode cX8_part 39 = .ok (.idiv, 1) := by decide +kernel
theorem dX8_part_40 : decode cX8_part 40 = .ok (.invokevirtual 136, 3) := by decide +kernel
theorem dX8_part_43 : decode cX8_part 43 = .ok (.iload_n 2, 1) := by decide +kernel
theorem dX8_part_44 : decode cX8_part 44 = .ok (.tableswitch 64 0 4 #[36, 41, 46, 51, 59], 36) := by decide +kernel
theorem dX8_part_80 : decode cX8_part 80 = .ok (.aload_n 0, 1) := by decide +kernel
theorem dX8_part_81 : decode cX8_part 81 = .ok (.getfield 124, 3) := by decide +kernel
theorem dX8_part_84 : decode cX8_part 84 = .ok (.ireturn, 1) := by decide +kernel
theorem dX8_part_85 : decode cX8_part 85 = .ok (.aload_n 0, 1) := by decide +kernel
theorem dX8_part_86 : decode cX8_part 86 = .ok (.getfield 127, 3) := by decide +kernel
theorem dX8_part_89 : decode cX8_part 89 = .ok (.ireturn, 1) := by decide +kernel
theorem dX8_part_90 : decode cX8_part 90 = .ok (.aload_n 0, 1) := by decide +kernel
theorem dX8_part_91 : decode cX8_part 91 = .ok (.getfield 133, 3) := by decide +kernel
theorem dX8_part_94 : decode cX8_part 94 = .ok (.ireturn, 1) := by decide +kernel
theorem dX8_part_95 : decode cX8_part 95 = .ok (.iload_n 1, 1) := by decide +kernel
theorem dX8_part_96 : decode cX8_part 96 = .ok (.bipush 60, 2) := by decide +kernel
theorem dX8_part_98 : decode cX8_part 98 = .ok (.idiv, 1) := by decide +kernel
theorem dX8_part_99 : decode cX8_part 99 = .ok (.bipush 24, 2) := by decide +kernel
theorem dX8_part_101 : decode cX8_part 101 = .ok (.irem, 1) := by decide +kernel
theorem dX8_part_102 : decode cX8_part 102 = .ok (.ireturn, 1) := by decide +kernel
theorem dX8_part_103 : decode cX8_part 103 = .ok (.iload_n 1, 1) := by decide +kernel
theorem dX8_part_104 : decode cX8_part 104 = .ok (.bipush 60, 2) := by decide +kernel
theorem dX8_part_106 : decode cX8_part 106 = .ok (.irem, 1) := by decide +kernel
theorem dX8_part_107 : decode cX8_part 107 = .ok (.ireturn, 1) := by decide +kernel
theorem dX8_part_108 : decode cX8_part 108 = .ok (.iload_n 1, 1) := by decide +kernel
theorem dX8_part_109 : decode cX8_part 109 = .ok (.sipush 1440, 3) := by decide +kernel
theorem dX8_part_112 : decode cX8_part 112 = .ok (.idiv, 1) := by decide +kernel
theorem dX8_part_113 : decode cX8_part 113 = .ok (.invokestatic 140, 3) := by decide +kernel
theorem dX8_part_116 : decode cX8_part 116 = .ok (.ireturn, 1) := by decide +kernel
theorem dX8_note_0 : decode cX8_note 0 = .ok (.iconst 4, 1) := by decide +kernel
theorem dX8_note_1 : decode cX8_note 1 = .ok (.aload_n 0, 1) := by decide +kernel
theorem dX8_note_2 : decode cX8_note 2 = .ok (.getfield 170, 3) := by decide +kernel
theorem dX8_note_5 : decode cX8_note 5 = .ok (.bipush 64, 2) := by decide +kernel
theorem dX8_note_7 : decode cX8_note 7 = .ok (.irem, 1) := by decide +kernel
theorem dX8_note_8 : decode cX8_note 8 = .ok (.imul, 1) := by decide +kernel
theorem dX8_note_9 : decode cX8_note 9 = .ok (.istore 4, 2) := by decide +kernel
theorem dX8_note_11 : decode cX8_note 11 = .ok (.aload_n 0, 1) := by decide +kernel
theorem dX8_note_12 : decode cX8_note 12 = .ok (.getfield 63, 3) := by decide +kernel
theorem dX8_note_15 : decode cX8_note 15 = .ok (.iload 4, 2) := by decide +kernel
theorem dX8_note_17 : decode cX8_note 17 = .ok (.iload_n 1, 1) := by decide +kernel
theorem dX8_note_18 : decode cX8_note 18 = .ok (.iastore, 1) := by decide +kernel
theorem dX8_note_19 : decode cX8_note 19 = .ok (.aload_n 0, 1) := by decide +kernel
theorem dX8_note_20 : decode cX8_note 20 = .ok (.getfield 63, 3) := by decide +kernel
theorem dX8_note_23 : decode cX8_note 23 = .ok (.iload 4, 2) := by decide +kernel
theorem dX8_note_25 : decode cX8_note 25 = .ok (.iconst 1, 1) := by decide +kernel
theorem dX8_note_26 : decode cX8_note 26 = .ok (.iadd, 1) := by decide +kernel
theorem dX8_note_27 : decode cX8_note 27 = .ok (.aload_n 0, 1) := by decide +kernel
theorem dX8_note_28 : decode cX8_note 28 = .ok (.getfield 173, 3) := by decide +kernel
theorem dX8_note_31 : decode cX8_note 31 = .ok (.iastore, 1) := by decide +kernel
theorem dX8_note_32 : decode cX8_note 32 = .ok (.aload_n 0, 1) := by decide +kernel
theorem dX8_note_33 : decode cX8_note 33 = .ok (.getfield 63, 3) := by decide +kernel
theorem dX8_note_36 : decode cX8_note 36 = .ok (.iload 4, 2) := by decide +kernel
theorem dX8_note_38 : decode cX8_note 38 = .ok (.iconst 2, 1) := by decide +kernel
theorem dX8_note_39 : decode cX8_note 39 = .ok (.iadd, 1) := by decide +kernel
theorem dX8_note_40 : decode cX8_note 40 = .ok (.iload_n 2, 1) := by decide +kernel
theorem dX8_note_41 : decode cX8_note 41 = .ok (.iastore, 1) := by decide +kernel
theorem dX8_note_42 : decode cX8_note 42 = .ok (.aload_n 0, 1) := by decide +kernel
theorem dX8_note_43 : decode cX8_note 43 = .ok (.getfield 63, 3) := by decide +kernel
theorem dX8_note_46 : decode cX8_note 46 = .ok (.iload 4, 2) := by decide +kernel
theorem dX8_note_48 : decode cX8_note 48 = .ok (.iconst 3, 1) := by decide +kernel
theorem dX8_note_49 : decode cX8_note 49 = .ok (.iadd, 1) := by decide +kernel
theorem dX8_note_50 : decode cX8_note 50 = .ok (.iload_n 3, 1) := by decide +kernel
theorem dX8_note_51 : decode cX8_note 51 = .ok (.iastore, 1) := by decide +kernel
theorem dX8_note_52 : decode cX8_note 52 = .ok (.aload_n 0, 1) := by decide +kernel
theorem dX8_note_53 : decode cX8_note 53 = .ok (.aload_n 0, 1) := by decide +kernel
theorem dX8_note_54 : decode cX8_note 54 = .ok (.getfield 170, 3) := by decide +kernel
theorem dX8_note_57 : decode cX8_note 57 = .ok (.iconst 1, 1) := by decide +kernel
theorem dX8_note_58 : decode cX8_note 58 = .ok (.iadd, 1) := by decide +kernel
theorem dX8_note_59 : decode cX8_note 59 = .ok (.putfield 170, 3) := by decide +kernel
theorem dX8_note_62 : decode cX8_note 62 = .ok (.return_, 1) := by decide +kernel
theorem dX8_fire_0 : decode cX8_fire 0 = .ok (.aload_n 0, 1) := by decide +kernel
theorem dX8_fire_1 : decode cX8_fire 1 = .ok (.getfield 32, 3) := by decide +kernel
theorem dX8_fire_4 : decode cX8_fire 4 = .ok (.iload_n 1, 1) := by decide +kernel
theorem dX8_fire_5 : decode cX8_fire 5 = .ok (.baload, 1) := by decide +kernel
theorem dX8_fire_6 : decode cX8_fire 6 = .ok (.ifCond .eq 25, 3) := by decide +kernel
theorem dX8_fire_9 : decode cX8_fire 9 = .ok (.aload_n 0, 1) := by decide +kernel
theorem dX8_fire_10 : decode cX8_fire 10 = .ok (.getfield 39, 3) := by decide +kernel
theorem dX8_fire_13 : decode cX8_fire 13 = .ok (.iload_n 1, 1) := by decide +kernel
theorem dX8_fire_14 : decode cX8_fire 14 = .ok (.aload_n 0, 1) := by decide +kernel
theorem dX8_fire_15 : decode cX8_fire 15 = .ok (.getfield 39, 3) := by decide +kernel
theorem dX8_fire_18 : decode cX8_fire 18 = .ok (.iload_n 1, 1) := by decide +kernel
theorem dX8_fire_19 : decode cX8_fire 19 = .ok (.iaload, 1) := by decide +kernel
theorem dX8_fire_20 : decode cX8_fire 20 = .ok (.iconst 1, 1) := by decide +kernel
theorem dX8_fire_21 : decode cX8_fire 21 = .ok (.iadd, 1) := by decide +kernel
theorem dX8_fire_22 : decode cX8_fire 22 = .ok (.iastore, 1) := by decide +kernel
theorem dX8_fire_23 : decode cX8_fire 23 = .ok (.aload_n 0, 1) := by decide +kernel
theorem dX8_fire_24 : decode cX8_fire 24 = .ok (.iconst 2, 1) := by decide +kernel
theorem dX8_fire_25 : decode cX8_fire 25 = .ok (.iload_n 1, 1) := by decide +kernel
theorem dX8_fire_26 : decode cX8_fire 26 = .ok (.iconst (-1), 1) := by decide +kernel
theorem dX8_fire_27 : decode cX8_fire 27 = .ok (.invokevirtual 176, 3) := by decide +kernel
theorem dX8_fire_30 : decode cX8_fire 30 = .ok (.return_, 1) := by decide +kernel
theorem dX8_fire_31 : decode cX8_fire 31 = .ok (.aload_n 0, 1) := by decide +kernel
theorem dX8_fire_32 : decode cX8_fire 32 = .ok (.getfield 36, 3) := by decide +kernel
theorem dX8_fire_35 : decode cX8_fire 35 = .ok (.iload_n 1, 1) := by decide +kernel
theorem dX8_fire_36 : decode cX8_fire 36 = .ok (.aload_n 0, 1) := by decide +kernel
theorem dX8_fire_37 : decode cX8_fire 37 = .ok (.getfield 36, 3) := by decide +kernel
theorem dX8_fire_40 : decode cX8_fire 40 = .ok (.iload_n 1, 1) := by decide +kernel
theorem dX8_fire_41 : decode cX8_fire 41 = .ok (.iaload, 1) := by decide +kernel
theorem dX8_fire_42 : decode cX8_fire 42 = .ok (.iconst 1, 1) := by decide +kernel
theorem dX8_fire_43 : decode cX8_fire 43 = .ok (.iadd, 1) := by decide +kernel
theorem dX8_fire_44 : decode cX8_fire 44 = .ok (.iastore, 1) := by decide +kernel
theorem dX8_fire_45 : decode cX8_fire 45 = .ok (.aload_n 0, 1) := by decide +kernel
theorem dX8_fire_46 : decode cX8_fire 46 = .ok (.iconst 1, 1) := by decide +kernel
theorem dX8_fire_47 : decode cX8_fire 47 = .ok (.iload_n 1, 1) := by decide +kernel
theorem dX8_fire_48 : decode cX8_fire 48 = .ok (.iconst (-1), 1) := by decide +kernel
theorem dX8_fire_49 : decode cX8_fire 49 = .ok (.invokevirtual 176, 3) := by decide +kernel
theorem dX8_fire_52 : decode cX8_fire 52 = .ok (.bipush 6, 2) := by decide +kernel
theorem dX8_fire_54 : decode cX8_fire 54 = .ok (.iload_n 1, 1) := by decide +kernel
theorem dX8_fire_55 : decode cX8_fire 55 = .ok (.imul, 1) := by decide +kernel
theorem dX8_fire_56 : decode cX8_fire 56 = .ok (.istore_n 2, 1) := by decide +kernel
theorem dX8_fire_57 : decode cX8_fire 57 = .ok (.iload_n 2, 1) := by decide +kernel
theorem dX8_fire_58 : decode cX8_fire 58 = .ok (.bipush 6, 2) := by decide +kernel
theorem dX8_fire_60 : decode cX8_fire 60 = .ok (.iload_n 1, 1) := by decide +kernel
theorem dX8_fire_61 : decode cX8_fire 61 = .ok (.imul, 1) := by decide +kernel
theorem dX8_fire_62 : decode cX8_fire 62 = .ok (.aload_n 0, 1) := by decide +kernel
theorem dX8_fire_63 : decode cX8_fire 63 = .ok (.getfield 29, 3) := by decide +kernel
theorem dX8_fire_66 : decode cX8_fire 66 = .ok (.iload_n 1, 1) := by decide +kernel
theorem dX8_fire_67 : decode cX8_fire 67 = .ok (.iaload, 1) := by decide +kernel
theorem dX8_fire_68 : decode cX8_fire 68 = .ok (.iadd, 1) := by decide +kernel
theorem dX8_fire_69 : decode cX8_fire 69 = .ok (.if_icmp .ge 23, 3) := by decide +kernel
theorem dX8_fire_72 : decode cX8_fire 72 = .ok (.aload_n 0, 1) := by decide +kernel
theorem dX8_fire_73 : decode cX8_fire 73 = .ok (.getfield 54, 3) := by decide +kernel
theorem dX8_fire_76 : decode cX8_fire 76 = .ok (.iload_n 2, 1) := by decide +kernel
theorem dX8_fire_77 : decode cX8_fire 77 = .ok (.iconst 1, 1) := by decide +kernel
theorem dX8_fire_78 : decode cX8_fire 78 = .ok (.iastore, 1) := by decide +kernel
theorem dX8_fire_79 : decode cX8_fire 79 = .ok (.aload_n 0, 1) := by decide +kernel
theorem dX8_fire_80 : decode cX8_fire 80 = .ok (.getfield 57, 3) := by decide +kernel
theorem dX8_fire_83 : decode cX8_fire 83 = .ok (.iload_n 2, 1) := by decide +kernel
theorem dX8_fire_84 : decode cX8_fire 84 = .ok (.iconst 0, 1) := by decide +kernel
theorem dX8_fire_85 : decode cX8_fire 85 = .ok (.iastore, 1) := by decide +kernel
theorem dX8_fire_86 : decode cX8_fire 86 = .ok (.iinc 2 1, 3) := by decide +kernel
theorem dX8_fire_89 : decode cX8_fire 89 = .ok (.goto (-32), 3) := by decide +kernel
theorem dX8_fire_92 : decode cX8_fire 92 = .ok (.aload_n 0, 1) := by decide +kernel
theorem dX8_fire_93 : decode cX8_fire 93 = .ok (.getfield 32, 3) := by decide +kernel
theorem dX8_fire_96 : decode cX8_fire 96 = .ok (.iload_n 1, 1) := by decide +kernel
theorem dX8_fire_97 : decode cX8_fire 97 = .ok (.aload_n 0, 1) := by decide +kernel
theorem dX8_fire_98 : decode cX8_fire 98 = .ok (.getfield 29, 3) := by decide +kernel
theorem dX8_fire_101 : decode cX8_fire 101 = .ok (.iload_n 1, 1) := by decide +kernel
theorem dX8_fire_102 : decode cX8_fire 102 = .ok (.iaload, 1) := by decide +kernel
theorem dX8_fire_103 : decode cX8_fire 103 = .ok (.ifCond .le 7, 3) := by decide +kernel
theorem dX8_fire_106 : decode cX8_fire 106 = .ok (.iconst 1, 1) := by decide +kernel
theorem dX8_fire_107 : decode cX8_fire 107 = .ok (.goto 4, 3) := by decide +kernel
theorem dX8_fire_110 : decode cX8_fire 110 = .ok (.iconst 0, 1) := by decide +kernel
theorem dX8_fire_111 : decode cX8_fire 111 = .ok (.bastore, 1) := by decide +kernel
theorem dX8_fire_112 : decode cX8_fire 112 = .ok (.aload_n 0, 1) := by decide +kernel
theorem dX8_fire_113 : decode cX8_fire 113 = .ok (.getfield 32, 3) := by decide +kernel
theorem dX8_fire_116 : decode cX8_fire 116 = .ok (.iload_n 1, 1) := by decide +kernel
theorem dX8_fire_117 : decode cX8_fire 117 = .ok (.baload, 1) := by decide +kernel
theorem dX8_fire_118 : decode cX8_fire 118 = .ok (.ifCond .ne 11, 3) := by decide +kernel
theorem dX8_fire_121 : decode cX8_fire 121 = .ok (.aload_n 0, 1) := by decide +kernel
theorem dX8_fire_122 : decode cX8_fire 122 = .ok (.bipush 8, 2) := by decide +kernel
theorem dX8_fire_124 : decode cX8_fire 124 = .ok (.iload_n 1, 1) := by decide +kernel
theorem dX8_fire_125 : decode cX8_fire 125 = .ok (.iconst (-1), 1) := by decide +kernel
theorem dX8_fire_126 : decode cX8_fire 126 = .ok (.invokevirtual 176, 3) := by decide +kernel
theorem dX8_fire_129 : decode cX8_fire 129 = .ok (.return_, 1) := by decide +kernel
theorem dX8_runningTasks_0 : decode cX8_runningTasks 0 = .ok (.iconst 0, 1) := by decide +kernel
theorem dX8_runningTasks_1 : decode cX8_runningTasks 1 = .ok (.istore_n 1, 1) := by decide +kernel
theorem dX8_runningTasks_2 : decode cX8_runningTasks 2 = .ok (.iconst 0, 1) := by decide +kernel
theorem dX8_runningTasks_3 : decode cX8_runningTasks 3 = .ok (.istore_n 2, 1) := by decide +kernel
theorem dX8_runningTasks_4 : decode cX8_runningTasks 4 = .ok (.iload_n 2, 1) := by decide +kernel
theorem dX8_runningTasks_5 : decode cX8_runningTasks 5 = .ok (.bipush 36, 2) := by decide +kernel
theorem dX8_runningTasks_7 : decode cX8_runningTasks 7 = .ok (.if_icmp .ge 27, 3) := by decide +kernel
theorem dX8_runningTasks_10 : decode cX8_runningTasks 10 = .ok (.aload_n 0, 1) := by decide +kernel
theorem dX8_runningTasks_11 : decode cX8_runningTasks 11 = .ok (.getfield 54, 3) := by decide +kernel
theorem dX8_runningTasks_14 : decode cX8_runningTasks 14 = .ok (.iload_n 2, 1) := by decide +kernel
theorem dX8_runningTasks_15 : decode cX8_runningTasks 15 = .ok (.iaload, 1) := by decide +kernel
theorem dX8_runningTasks_16 : decode cX8_runningTasks 16 = .ok (.iconst 3, 1) := by decide +kernel
theorem dX8_runningTasks_17 : decode cX8_runningTasks 17 = .ok (.if_icmp .ne 9, 3) := by decide +kernel
theorem dX8_runningTasks_20 : decode cX8_runningTasks 20 = .ok (.iload_n 1, 1) := by decide +kernel
theorem dX8_runningTasks_21 : decode cX8_runningTasks 21 = .ok (.iconst 1, 1) := by decide +kernel
theorem dX8_runningTasks_22 : decode cX8_runningTasks 22 = .ok (.iadd, 1) := by decide +kernel
theorem dX8_runningTasks_23 : decode cX8_runningTasks 23 = .ok (.goto 4, 3) := by decide +kernel
theorem dX8_runningTasks_26 : decode cX8_runningTasks 26 = .ok (.iload_n 1, 1) := by decide +kernel
theorem dX8_runningTasks_27 : decode cX8_runningTasks 27 = .ok (.istore_n 1, 1) := by decide +kernel
theorem dX8_runningTasks_28 : decode cX8_runningTasks 28 = .ok (.iinc 2 1, 3) := by decide +kernel
theorem dX8_runningTasks_31 : decode cX8_runningTasks 31 = .ok (.goto (-27), 3) := by decide +kernel
theorem dX8_runningTasks_34 : decode cX8_runningTasks 34 = .ok (.iload_n 1, 1) := by decide +kernel
theorem dX8_runningTasks_35 : decode cX8_runningTasks 35 = .ok (.ireturn, 1) := by decide +kernel
theorem dX8_isReady_0 : decode cX8_isReady 0 = .ok (.bipush 6, 2) := by decide +kernel
theorem dX8_isReady_2 : decode cX8_isReady 2 = .ok (.iload_n 1, 1) := by decide +kernel
theorem dX8_isReady_3 : decode cX8_isReady 3 = .ok (.imul, 1) := by decide +kernel
theorem dX8_isReady_4 : decode cX8_isReady 4 = .ok (.iload_n 2, 1) := by decide +kernel
theorem dX8_isReady_5 : decode cX8_isReady 5 = .ok (.iadd, 1) := by decide +kernel
theorem dX8_isReady_6 : decode cX8_isReady 6 = .ok (.istore_n 3, 1) := by decide +kernel
theorem dX8_isReady_7 : decode cX8_isReady 7 = .ok (.aload_n 0, 1) := by decide +kernel
theorem dX8_isReady_8 : decode cX8_isReady 8 = .ok (.getfield 54, 3) := by decide +kernel
theorem dX8_isReady_11 : decode cX8_isReady 11 = .ok (.iload_n 3, 1) := by decide +kernel
theorem dX8_isReady_12 : decode cX8_isReady 12 = .ok (.iaload, 1) := by decide +kernel
theorem dX8_isReady_13 : decode cX8_isReady 13 = .ok (.iconst 1, 1) := by decide +kernel
theorem dX8_isReady_14 : decode cX8_isReady 14 = .ok (.if_icmp .eq 26, 3) := by decide +kernel
theorem dX8_isReady_17 : decode cX8_isReady 17 = .ok (.aload_n 0, 1) := by decide +kernel
theorem dX8_isReady_18 : decode cX8_isReady 18 = .ok (.getfield 54, 3) := by decide +kernel
theorem dX8_isReady_21 : decode cX8_isReady 21 = .ok (.iload_n 3, 1) := by decide +kernel
theorem dX8_isReady_22 : decode cX8_isReady 22 = .ok (.iaload, 1) := by decide +kernel
theorem dX8_isReady_23 : decode cX8_isReady 23 = .ok (.iconst 2, 1) := by decide +kernel
theorem dX8_isReady_24 : decode cX8_isReady 24 = .ok (.if_icmp .ne 20, 3) := by decide +kernel
theorem dX8_isReady_27 : decode cX8_isReady 27 = .ok (.aload_n 0, 1) := by decide +kernel
theorem dX8_isReady_28 : decode cX8_isReady 28 = .ok (.getfield 60, 3) := by decide +kernel
theorem dX8_isReady_31 : decode cX8_isReady 31 = .ok (.iload_n 3, 1) := by decide +kernel
theorem dX8_isReady_32 : decode cX8_isReady 32 = .ok (.iaload, 1) := by decide +kernel
theorem dX8_isReady_33 : decode cX8_isReady 33 = .ok (.aload_n 0, 1) := by decide +kernel
theorem dX8_isReady_34 : decode cX8_isReady 34 = .ok (.getfield 173, 3) := by decide +kernel
theorem dX8_isReady_37 : decode cX8_isReady 37 = .ok (.if_icmp .gt 7, 3) := by decide +kernel
theorem dX8_isReady_40 : decode cX8_isReady 40 = .ok (.iconst 1, 1) := by decide +kernel
theorem dX8_isReady_41 : decode cX8_isReady 41 = .ok (.goto 4, 3) := by decide +kernel
theorem dX8_isReady_44 : decode cX8_isReady 44 = .ok (.iconst 0, 1) := by decide +kernel
theorem dX8_isReady_45 : decode cX8_isReady 45 = .ok (.istore 4, 2) := by decide +kernel
theorem dX8_isReady_47 : decode cX8_isReady 47 = .ok (.iconst 0, 1) := by decide +kernel
theorem dX8_isReady_48 : decode cX8_isReady 48 = .ok (.istore 5, 2) := by decide +kernel
theorem dX8_isReady_50 : decode cX8_isReady 50 = .ok (.iload 5, 2) := by decide +kernel
theorem dX8_isReady_52 : decode cX8_isReady 52 = .ok (.iload_n 2, 1) := by decide +kernel
theorem dX8_isReady_53 : decode cX8_isReady 53 = .ok (.if_icmp .ge 51, 3) := by decide +kernel
theorem dX8_isReady_56 : decode cX8_isReady 56 = .ok (.iload 4, 2) := by decide +kernel
theorem dX8_isReady_58 : decode cX8_isReady 58 = .ok (.ifCond .eq 37, 3) := by decide +kernel
theorem dX8_isReady_61 : decode cX8_isReady 61 = .ok (.aload_n 0, 1) := by decide +kernel
theorem dX8_isReady_62 : decode cX8_isReady 62 = .ok (.getfield 45, 3) := by decide +kernel
theorem dX8_isReady_65 : decode cX8_isReady 65 = .ok (.iload_n 3, 1) := by decide +kernel
theorem dX8_isReady_66 : decode cX8_isReady 66 = .ok (.iaload, 1) := by decide +kernel
theorem dX8_isReady_67 : decode cX8_isReady 67 = .ok (.iload 5, 2) := by decide +kernel
theorem dX8_isReady_69 : decode cX8_isReady 69 = .ok (.ishr, 1) := by decide +kernel
theorem dX8_isReady_70 : decode cX8_isReady 70 = .ok (.iconst 1, 1) := by decide +kernel
theorem dX8_isReady_71 : decode cX8_isReady 71 = .ok (.iand, 1) := by decide +kernel
theorem dX8_isReady_72 : decode cX8_isReady 72 = .ok (.ifCond .eq 19, 3) := by decide +kernel
theorem dX8_isReady_75 : decode cX8_isReady 75 = .ok (.aload_n 0, 1) := by decide +kernel
theorem dX8_isReady_76 : decode cX8_isReady 76 = .ok (.getfield 54, 3) := by decide +kernel
theorem dX8_isReady_79 : decode cX8_isReady 79 = .ok (.bipush 6, 2) := by decide +kernel
theorem dX8_isReady_81 : decode cX8_isReady 81 = .ok (.iload_n 1, 1) := by decide +kernel
theorem dX8_isReady_82 : decode cX8_isReady 82 = .ok (.imul, 1) := by decide +kernel
theorem dX8_isReady_83 : decode cX8_isReady 83 = .ok (.iload 5, 2) := by decide +kernel
theorem dX8_isReady_85 : decode cX8_isReady 85 = .ok (.iadd, 1) := by decide +kernel
theorem dX8_isReady_86 : decode cX8_isReady 86 = .ok (.iaload, 1) := by decide +kernel
theorem dX8_isReady_87 : decode cX8_isReady 87 = .ok (.iconst 4, 1) := by decide +kernel
theorem dX8_isReady_88 : decode cX8_isReady 88 = .ok (.if_icmp .ne 7, 3) := by decide +kernel
theorem dX8_isReady_91 : decode cX8_isReady 91 = .ok (.iconst 1, 1) := by decide +kernel
theorem dX8_isReady_92 : decode cX8_isReady 92 = .ok (.goto 4, 3) := by decide +kernel
theorem dX8_isReady_95 : decode cX8_isReady 95 = .ok (.iconst 0, 1) := by decide +kernel
theorem dX8_isReady_96 : decode cX8_isReady 96 = .ok (.istore 4, 2) := by decide +kernel
theorem dX8_isReady_98 : decode cX8_isReady 98 = .ok (.iinc 5 1, 3) := by decide +kernel
theorem dX8_isReady_101 : decode cX8_isReady 101 = .ok (.goto (-51), 3) := by decide +kernel
theorem dX8_isReady_104 : decode cX8_isReady 104 = .ok (.iload 4, 2) := by decide +kernel
theorem dX8_isReady_106 : decode cX8_isReady 106 = .ok (.ireturn, 1) := by decide +kernel
theorem dX8_best_0 : decode cX8_best 0 = .ok (.iconst (-1), 1) := by decide +kernel
theorem dX8_best_1 : decode cX8_best 1 = .ok (.istore_n 1, 1) := by decide +kernel
theorem dX8_best_2 : decode cX8_best 2 = .ok (.iconst 0, 1) := by decide +kernel
theorem dX8_best_3 : decode cX8_best 3 = .ok (.istore_n 2, 1) := by decide +kernel
theorem dX8_best_4 : decode cX8_best 4 = .ok (.iload_n 2, 1) := by decide +kernel
theorem dX8_best_5 : decode cX8_best 5 = .ok (.aload_n 0, 1) := by decide +kernel
theorem dX8_best_6 : decode cX8_best 6 = .ok (.getfield 98, 3) := by decide +kernel
theorem dX8_best_9 : decode cX8_best 9 = .ok (.if_icmp .ge 81, 3) := by decide +kernel
theorem dX8_best_12 : decode cX8_best 12 = .ok (.iconst 0, 1) := by decide +kernel
theorem dX8_best_13 : decode cX8_best 13 = .ok (.istore_n 3, 1) := by decide +kernel
theorem dX8_best_14 : decode cX8_best 14 = .ok (.iload_n 3, 1) := by decide +kernel
theorem dX8_best_15 : decode cX8_best 15 = .ok (.aload_n 0, 1) := by decide +kernel
theorem dX8_best_16 : decode cX8_best 16 = .ok (.getfield 29, 3) := by decide +kernel
theorem dX8_best_19 : decode cX8_best 19 = .ok (.iload_n 2, 1) := by decide +kernel
theorem dX8_best_20 : decode cX8_best 20 = .ok (.iaload, 1) := by decide +kernel
theorem dX8_best_21 : decode cX8_best 21 = .ok (.if_icmp .ge 63, 3) := by decide +kernel
theorem dX8_best_24 : decode cX8_best 24 = .ok (.iload_n 1, 1) := by decide +kernel
theorem dX8_best_25 : decode cX8_best 25 = .ok (.ifCond .lt 21, 3) := by decide +kernel
theorem dX8_best_28 : decode cX8_best 28 = .ok (.aload_n 0, 1) := by decide +kernel
theorem dX8_best_29 : decode cX8_best 29 = .ok (.getfield 26, 3) := by decide +kernel
theorem dX8_best_32 : decode cX8_best 32 = .ok (.iload_n 2, 1) := by decide +kernel
theorem dX8_best_33 : decode cX8_best 33 = .ok (.iaload, 1) := by decide +kernel
theorem dX8_best_34 : decode cX8_best 34 = .ok (.aload_n 0, 1) := by decide +kernel
theorem dX8_best_35 : decode cX8_best 35 = .ok (.getfield 26, 3) := by decide +kernel
theorem dX8_best_38 : decode cX8_best 38 = .ok (.iload_n 1, 1) := by decide +kernel
theorem dX8_best_39 : decode cX8_best 39 = .ok (.bipush 6, 2) := by decide +kernel
theorem dX8_best_41 : decode cX8_best 41 = .ok (.idiv, 1) := by decide +kernel
theorem dX8_best_42 : decode cX8_best 42 = .ok (.iaload, 1) := by decide +kernel
theorem dX8_best_43 : decode cX8_best 43 = .ok (.if_icmp .le 7, 3) := by decide +kernel
theorem dX8_best_46 : decode cX8_best 46 = .ok (.iconst 1, 1) := by decide +kernel
theorem dX8_best_47 : decode cX8_best 47 = .ok (.goto 4, 3) := by decide +kernel
theorem dX8_best_50 : decode cX8_best 50 = .ok (.iconst 0, 1) := by decide +kernel
theorem dX8_best_51 : decode cX8_best 51 = .ok (.istore 4, 2) := by decide +kernel
theorem dX8_best_53 : decode cX8_best 53 = .ok (.iload 4, 2) := by decide +kernel
theorem dX8_best_55 : decode cX8_best 55 = .ok (.ifCond .eq 21, 3) := by decide +kernel
theorem dX8_best_58 : decode cX8_best 58 = .ok (.aload_n 0, 1) := by decide +kernel
theorem dX8_best_59 : decode cX8_best 59 = .ok (.iload_n 2, 1) := by decide +kernel
theorem dX8_best_60 : decode cX8_best 60 = .ok (.iload_n 3, 1) := by decide +kernel
theorem dX8_best_61 : decode cX8_best 61 = .ok (.invokevirtual 180, 3) := by decide +kernel
theorem dX8_best_64 : decode cX8_best 64 = .ok (.ifCond .eq 12, 3) := by decide +kernel
theorem dX8_best_67 : decode cX8_best 67 = .ok (.bipush 6, 2) := by decide +kernel
theorem dX8_best_69 : decode cX8_best 69 = .ok (.iload_n 2, 1) := by decide +kernel
theorem dX8_best_70 : decode cX8_best 70 = .ok (.imul, 1) := by decide +kernel
theorem dX8_best_71 : decode cX8_best 71 = .ok (.iload_n 3, 1) := by decide +kernel
theorem dX8_best_72 : decode cX8_best 72 = .ok (.iadd, 1) := by decide +kernel
theorem dX8_best_73 : decode cX8_best 73 = .ok (.goto 4, 3) := by decide +kernel
theorem dX8_best_76 : decode cX8_best 76 = .ok (.iload_n 1, 1) := by decide +kernel
theorem dX8_best_77 : decode cX8_best 77 = .ok (.istore_n 1, 1) := by decide +kernel
theorem dX8_best_78 : decode cX8_best 78 = .ok (.iinc 3 1, 3) := by decide +kernel
theorem dX8_best_81 : decode cX8_best 81 = .ok (.goto (-67), 3) := by decide +kernel
theorem dX8_best_84 : decode cX8_best 84 = .ok (.iinc 2 1, 3) := by decide +kernel
theorem dX8_best_87 : decode cX8_best 87 = .ok (.goto (-83), 3) := by decide +kernel
theorem dX8_best_90 : decode cX8_best 90 = .ok (.iload_n 1, 1) := by decide +kernel
theorem dX8_best_91 : decode cX8_best 91 = .ok (.ireturn, 1) := by decide +kernel
theorem dX8_start_0 : decode cX8_start 0 = .ok (.iconst 0, 1) := by decide +kernel
theorem dX8_start_1 : decode cX8_start 1 = .ok (.istore_n 1, 1) := by decide +kernel
theorem dX8_start_2 : decode cX8_start 2 = .ok (.aload_n 0, 1) := by decide +kernel
theorem dX8_start_3 : decode cX8_start 3 = .ok (.invokevirtual 183, 3) := by decide +kernel
theorem dX8_start_6 : decode cX8_start 6 = .ok (.istore_n 2, 1) := by decide +kernel
theorem dX8_start_7 : decode cX8_start 7 = .ok (.iload_n 2, 1) := by decide +kernel
theorem dX8_start_8 : decode cX8_start 8 = .ok (.ifCond .lt 46, 3) := by decide +kernel
theorem dX8_start_11 : decode cX8_start 11 = .ok (.aload_n 0, 1) := by decide +kernel
theorem dX8_start_12 : decode cX8_start 12 = .ok (.invokevirtual 186, 3) := by decide +kernel
theorem dX8_start_15 : decode cX8_start 15 = .ok (.aload_n 0, 1) := by decide +kernel
theorem dX8_start_16 : decode cX8_start 16 = .ok (.getfield 7, 3) := by decide +kernel
theorem dX8_start_19 : decode cX8_start 19 = .ok (.if_icmp .ge 35, 3) := by decide +kernel
theorem dX8_start_22 : decode cX8_start 22 = .ok (.aload_n 0, 1) := by decide +kernel
theorem dX8_start_23 : decode cX8_start 23 = .ok (.getfield 54, 3) := by decide +kernel
theorem dX8_start_26 : decode cX8_start 26 = .ok (.iload_n 2, 1) := by decide +kernel
theorem dX8_start_27 : decode cX8_start 27 = .ok (.iconst 3, 1) := by decide +kernel
theorem dX8_start_28 : decode cX8_start 28 = .ok (.iastore, 1) := by decide +kernel
theorem dX8_start_29 : decode cX8_start 29 = .ok (.aload_n 0, 1) := by decide +kernel
theorem dX8_start_30 : decode cX8_start 30 = .ok (.iconst 3, 1) := by decide +kernel
theorem dX8_start_31 : decode cX8_start 31 = .ok (.iload_n 2, 1) := by decide +kernel
theorem dX8_start_32 : decode cX8_start 32 = .ok (.bipush 6, 2) := by decide +kernel
theorem dX8_start_34 : decode cX8_start 34 = .ok (.idiv, 1) := by decide +kernel
theorem dX8_start_35 : decode cX8_start 35 = .ok (.iload_n 2, 1) := by decide +kernel
theorem dX8_start_36 : decode cX8_start 36 = .ok (.bipush 6, 2) := by decide +kernel
theorem dX8_start_38 : decode cX8_start 38 = .ok (.irem, 1) := by decide +kernel
theorem dX8_start_39 : decode cX8_start 39 = .ok (.invokevirtual 176, 3) := by decide +kernel
theorem dX8_start_42 : decode cX8_start 42 = .ok (.iload_n 1, 1) := by decide +kernel
theorem dX8_start_43 : decode cX8_start 43 = .ok (.iconst 1, 1) := by decide +kernel
theorem dX8_start_44 : decode cX8_start 44 = .ok (.iadd, 1) := by decide +kernel
theorem dX8_start_45 : decode cX8_start 45 = .ok (.istore_n 1, 1) := by decide +kernel
theorem dX8_start_46 : decode cX8_start 46 = .ok (.aload_n 0, 1) := by decide +kernel
theorem dX8_start_47 : decode cX8_start 47 = .ok (.invokevirtual 183, 3) := by decide +kernel
theorem dX8_start_50 : decode cX8_start 50 = .ok (.istore_n 2, 1) := by decide +kernel
theorem dX8_start_51 : decode cX8_start 51 = .ok (.goto (-44), 3) := by decide +kernel
theorem dX8_start_54 : decode cX8_start 54 = .ok (.iload_n 1, 1) := by decide +kernel
theorem dX8_start_55 : decode cX8_start 55 = .ok (.ireturn, 1) := by decide +kernel
theorem dX8_leaveOut_0 : decode cX8_leaveOut 0 = .ok (.iconst 1, 1) := by decide +kernel
theorem dX8_leaveOut_1 : decode cX8_leaveOut 1 = .ok (.iload_n 2, 1) := by decide +kernel
theorem dX8_leaveOut_2 : decode cX8_leaveOut 2 = .ok (.ishl, 1) := by decide +kernel
theorem dX8_leaveOut_3 : decode cX8_leaveOut 3 = .ok (.istore_n 3, 1) := by decide +kernel
theorem dX8_leaveOut_4 : decode cX8_leaveOut 4 = .ok (.iload_n 2, 1) := by decide +kernel
theorem dX8_leaveOut_5 : decode cX8_leaveOut 5 = .ok (.iconst 1, 1) := by decide +kernel
theorem dX8_leaveOut_6 : decode cX8_leaveOut 6 = .ok (.iadd, 1) := by decide +kernel
theorem dX8_leaveOut_7 : decode cX8_leaveOut 7 = .ok (.istore 4, 2) := by decide +kernel
theorem dX8_leaveOut_9 : decode cX8_leaveOut 9 = .ok (.iload 4, 2) := by decide +kernel
theorem dX8_leaveOut_11 : decode cX8_leaveOut 11 = .ok (.aload_n 0, 1) := by decide +kernel
theorem dX8_leaveOut_12 : decode cX8_leaveOut 12 = .ok (.getfield 29, 3) := by decide +kernel
theorem dX8_leaveOut_15 : decode cX8_leaveOut 15 = .ok (.iload_n 1, 1) := by decide +kernel
theorem dX8_leaveOut_16 : decode cX8_leaveOut 16 = .ok (.iaload, 1) := by decide +kernel
theorem dX8_leaveOut_17 : decode cX8_leaveOut 17 = .ok (.if_icmp .ge 73, 3) := by decide +kernel
theorem dX8_leaveOut_20 : decode cX8_leaveOut 20 = .ok (.aload_n 0, 1) := by decide +kernel
theorem dX8_leaveOut_21 : decode cX8_leaveOut 21 = .ok (.getfield 45, 3) := by decide +kernel
theorem dX8_leaveOut_24 : decode cX8_leaveOut 24 = .ok (.bipush 6, 2) := by decide +kernel
theorem dX8_leaveOut_26 : decode cX8_leaveOut 26 = .ok (.iload_n 1, 1) := by decide +kernel
theorem dX8_leaveOut_27 : decode cX8_leaveOut 27 = .ok (.imul, 1) := by decide +kernel
theorem dX8_leaveOut_28 : decode cX8_leaveOut 28 = .ok (.iload 4, 2) := by decide +kernel
theorem dX8_leaveOut_30 : decode cX8_leaveOut 30 = .ok (.iadd, 1) := by decide +kernel
theorem dX8_leaveOut_31 : decode cX8_leaveOut 31 = .ok (.iaload, 1) := by decide +kernel
theorem dX8_leaveOut_32 : decode cX8_leaveOut 32 = .ok (.iload_n 3, 1) := by decide +kernel
theorem dX8_leaveOut_33 : decode cX8_leaveOut 33 = .ok (.iand, 1) := by decide +kernel
theorem dX8_leaveOut_34 : decode cX8_leaveOut 34 = .ok (.ifCond .eq 50, 3) := by decide +kernel
theorem dX8_leaveOut_37 : decode cX8_leaveOut 37 = .ok (.iload_n 3, 1) := by decide +kernel
theorem dX8_leaveOut_38 : decode cX8_leaveOut 38 = .ok (.iconst 1, 1) := by decide +kernel
theorem dX8_leaveOut_39 : decode cX8_leaveOut 39 = .ok (.iload 4, 2) := by decide +kernel
theorem dX8_leaveOut_41 : decode cX8_leaveOut 41 = .ok (.ishl, 1) := by decide +kernel
theorem dX8_leaveOut_42 : decode cX8_leaveOut 42 = .ok (.ior, 1) := by decide +kernel
theorem dX8_leaveOut_43 : decode cX8_leaveOut 43 = .ok (.istore_n 3, 1) := by decide +kernel
theorem dX8_leaveOut_44 : decode cX8_leaveOut 44 = .ok (.aload_n 0, 1) := by decide +kernel
theorem dX8_leaveOut_45 : decode cX8_leaveOut 45 = .ok (.getfield 54, 3) := by decide +kernel
theorem dX8_leaveOut_48 : decode cX8_leaveOut 48 = .ok (.bipush 6, 2) := by decide +kernel
theorem dX8_leaveOut_50 : decode cX8_leaveOut 50 = .ok (.iload_n 1, 1) := by decide +kernel
theorem dX8_leaveOut_51 : decode cX8_leaveOut 51 = .ok (.imul, 1) := by decide +kernel
theorem dX8_leaveOut_52 : decode cX8_leaveOut 52 = .ok (.iload 4, 2) := by decide +kernel
theorem dX8_leaveOut_54 : decode cX8_leaveOut 54 = .ok (.iadd, 1) := by decide +kernel
theorem dX8_leaveOut_55 : decode cX8_leaveOut 55 = .ok (.iaload, 1) := by decide +kernel
theorem dX8_leaveOut_56 : decode cX8_leaveOut 56 = .ok (.bipush 6, 2) := by decide +kernel
theorem dX8_leaveOut_58 : decode cX8_leaveOut 58 = .ok (.if_icmp .eq 26, 3) := by decide +kernel
theorem dX8_leaveOut_61 : decode cX8_leaveOut 61 = .ok (.aload_n 0, 1) := by decide +kernel
theorem dX8_leaveOut_62 : decode cX8_leaveOut 62 = .ok (.getfield 54, 3) := by decide +kernel
theorem dX8_leaveOut_65 : decode cX8_leaveOut 65 = .ok (.bipush 6, 2) := by decide +kernel
theorem dX8_leaveOut_67 : decode cX8_leaveOut 67 = .ok (.iload_n 1, 1) := by decide +kernel
theorem dX8_leaveOut_68 : decode cX8_leaveOut 68 = .ok (.imul, 1) := by decide +kernel
theorem dX8_leaveOut_69 : decode cX8_leaveOut 69 = .ok (.iload 4, 2) := by decide +kernel
theorem dX8_leaveOut_71 : decode cX8_leaveOut 71 = .ok (.iadd, 1) := by decide +kernel
theorem dX8_leaveOut_72 : decode cX8_leaveOut 72 = .ok (.bipush 6, 2) := by decide +kernel
theorem dX8_leaveOut_74 : decode cX8_leaveOut 74 = .ok (.iastore, 1) := by decide +kernel
theorem dX8_leaveOut_75 : decode cX8_leaveOut 75 = .ok (.aload_n 0, 1) := by decide +kernel
theorem dX8_leaveOut_76 : decode cX8_leaveOut 76 = .ok (.bipush 7, 2) := by decide +kernel
theorem dX8_leaveOut_78 : decode cX8_leaveOut 78 = .ok (.iload_n 1, 1) := by decide +kernel
theorem dX8_leaveOut_79 : decode cX8_leaveOut 79 = .ok (.iload 4, 2) := by decide +kernel
theorem dX8_leaveOut_81 : decode cX8_leaveOut 81 = .ok (.invokevirtual 176, 3) := by decide +kernel
theorem dX8_leaveOut_84 : decode cX8_leaveOut 84 = .ok (.iinc 4 1, 3) := by decide +kernel
theorem dX8_leaveOut_87 : decode cX8_leaveOut 87 = .ok (.goto (-78), 3) := by decide +kernel
theorem dX8_leaveOut_90 : decode cX8_leaveOut 90 = .ok (.return_, 1) := by decide +kernel
theorem dX8_endTask_0 : decode cX8_endTask 0 = .ok (.bipush 6, 2) := by decide +kernel
theorem dX8_endTask_2 : decode cX8_endTask 2 = .ok (.iload_n 1, 1) := by decide +kernel
theorem dX8_endTask_3 : decode cX8_endTask 3 = .ok (.imul, 1) := by decide +kernel
theorem dX8_endTask_4 : decode cX8_endTask 4 = .ok (.iload_n 2, 1) := by decide +kernel
theorem dX8_endTask_5 : decode cX8_endTask 5 = .ok (.iadd, 1) := by decide +kernel
theorem dX8_endTask_6 : decode cX8_endTask 6 = .ok (.istore 4, 2) := by decide +kernel
theorem dX8_endTask_8 : decode cX8_endTask 8 = .ok (.iload_n 3, 1) := by decide +kernel
theorem dX8_endTask_9 : decode cX8_endTask 9 = .ok (.ifCond .eq 21, 3) := by decide +kernel
theorem dX8_endTask_12 : decode cX8_endTask 12 = .ok (.aload_n 0, 1) := by decide +kernel
theorem dX8_endTask_13 : decode cX8_endTask 13 = .ok (.getfield 54, 3) := by decide +kernel
theorem dX8_endTask_16 : decode cX8_endTask 16 = .ok (.iload 4, 2) := by decide +kernel
theorem dX8_endTask_18 : decode cX8_endTask 18 = .ok (.iconst 4, 1) := by decide +kernel
theorem dX8_endTask_19 : decode cX8_endTask 19 = .ok (.iastore, 1) := by decide +kernel
theorem dX8_endTask_20 : decode cX8_endTask 20 = .ok (.aload_n 0, 1) := by decide +kernel
theorem dX8_endTask_21 : decode cX8_endTask 21 = .ok (.iconst 4, 1) := by decide +kernel
theorem dX8_endTask_22 : decode cX8_endTask 22 = .ok (.iload_n 1, 1) := by decide +kernel
theorem dX8_endTask_23 : decode cX8_endTask 23 = .ok (.iload_n 2, 1) := by decide +kernel
theorem dX8_endTask_24 : decode cX8_endTask 24 = .ok (.invokevirtual 176, 3) := by decide +kernel
theorem dX8_endTask_27 : decode cX8_endTask 27 = .ok (.goto 117, 3) := by decide +kernel
theorem dX8_endTask_30 : decode cX8_endTask 30 = .ok (.aload_n 0, 1) := by decide +kernel
theorem dX8_endTask_31 : decode cX8_endTask 31 = .ok (.getfield 57, 3) := by decide +kernel
theorem dX8_endTask_34 : decode cX8_endTask 34 = .ok (.iload 4, 2) := by decide +kernel
theorem dX8_endTask_36 : decode cX8_endTask 36 = .ok (.aload_n 0, 1) := by decide +kernel
theorem dX8_endTask_37 : decode cX8_endTask 37 = .ok (.getfield 57, 3) := by decide +kernel
theorem dX8_endTask_40 : decode cX8_endTask 40 = .ok (.iload 4, 2) := by decide +kernel
theorem dX8_endTask_42 : decode cX8_endTask 42 = .ok (.iaload, 1) := by decide +kernel
theorem dX8_endTask_43 : decode cX8_endTask 43 = .ok (.iconst 1, 1) := by decide +kernel
theorem dX8_endTask_44 : decode cX8_endTask 44 = .ok (.iadd, 1) := by decide +kernel
theorem dX8_endTask_45 : decode cX8_endTask 45 = .ok (.iastore, 1) := by decide +kernel
theorem dX8_endTask_46 : decode cX8_endTask 46 = .ok (.aload_n 0, 1) := by decide +kernel
theorem dX8_endTask_47 : decode cX8_endTask 47 = .ok (.getfield 57, 3) := by decide +kernel
theorem dX8_endTask_50 : decode cX8_endTask 50 = .ok (.iload 4, 2) := by decide +kernel
theorem dX8_endTask_52 : decode cX8_endTask 52 = .ok (.iaload, 1) := by decide +kernel
theorem dX8_endTask_53 : decode cX8_endTask 53 = .ok (.aload_n 0, 1) := by decide +kernel
theorem dX8_endTask_54 : decode cX8_endTask 54 = .ok (.getfield 48, 3) := by decide +kernel
theorem dX8_endTask_57 : decode cX8_endTask 57 = .ok (.iload 4, 2) := by decide +kernel
theorem dX8_endTask_59 : decode cX8_endTask 59 = .ok (.iaload, 1) := by decide +kernel
theorem dX8_endTask_60 : decode cX8_endTask 60 = .ok (.if_icmp .ge 7, 3) := by decide +kernel
theorem dX8_endTask_63 : decode cX8_endTask 63 = .ok (.iconst 1, 1) := by decide +kernel
theorem dX8_endTask_64 : decode cX8_endTask 64 = .ok (.goto 4, 3) := by decide +kernel
theorem dX8_endTask_67 : decode cX8_endTask 67 = .ok (.iconst 0, 1) := by decide +kernel
theorem dX8_endTask_68 : decode cX8_endTask 68 = .ok (.istore 5, 2) := by decide +kernel
theorem dX8_endTask_70 : decode cX8_endTask 70 = .ok (.aload_n 0, 1) := by decide +kernel
theorem dX8_endTask_71 : decode cX8_endTask 71 = .ok (.getfield 54, 3) := by decide +kernel
theorem dX8_endTask_74 : decode cX8_endTask 74 = .ok (.iload 4, 2) := by decide +kernel
theorem dX8_endTask_76 : decode cX8_endTask 76 = .ok (.iload 5, 2) := by decide +kernel
theorem dX8_endTask_78 : decode cX8_endTask 78 = .ok (.ifCond .eq 7, 3) := by decide +kernel
theorem dX8_endTask_81 : decode cX8_endTask 81 = .ok (.iconst 2, 1) := by decide +kernel
theorem dX8_endTask_82 : decode cX8_endTask 82 = .ok (.goto 4, 3) := by decide +kernel
theorem dX8_endTask_85 : decode cX8_endTask 85 = .ok (.iconst 5, 1) := by decide +kernel
theorem dX8_endTask_86 : decode cX8_endTask 86 = .ok (.iastore, 1) := by decide +kernel
theorem dX8_endTask_87 : decode cX8_endTask 87 = .ok (.aload_n 0, 1) := by decide +kernel
theorem dX8_endTask_88 : decode cX8_endTask 88 = .ok (.getfield 60, 3) := by decide +kernel
theorem dX8_endTask_91 : decode cX8_endTask 91 = .ok (.iload 4, 2) := by decide +kernel
theorem dX8_endTask_93 : decode cX8_endTask 93 = .ok (.aload_n 0, 1) := by decide +kernel
theorem dX8_endTask_94 : decode cX8_endTask 94 = .ok (.getfield 173, 3) := by decide +kernel
theorem dX8_endTask_97 : decode cX8_endTask 97 = .ok (.aload_n 0, 1) := by decide +kernel
theorem dX8_endTask_98 : decode cX8_endTask 98 = .ok (.getfield 51, 3) := by decide +kernel
theorem dX8_endTask_101 : decode cX8_endTask 101 = .ok (.iload 4, 2) := by decide +kernel
theorem dX8_endTask_103 : decode cX8_endTask 103 = .ok (.iaload, 1) := by decide +kernel
theorem dX8_endTask_104 : decode cX8_endTask 104 = .ok (.aload_n 0, 1) := by decide +kernel
theorem dX8_endTask_105 : decode cX8_endTask 105 = .ok (.getfield 57, 3) := by decide +kernel
theorem dX8_endTask_108 : decode cX8_endTask 108 = .ok (.iload 4, 2) := by decide +kernel
theorem dX8_endTask_110 : decode cX8_endTask 110 = .ok (.iaload, 1) := by decide +kernel
theorem dX8_endTask_111 : decode cX8_endTask 111 = .ok (.iconst 1, 1) := by decide +kernel
theorem dX8_endTask_112 : decode cX8_endTask 112 = .ok (.isub, 1) := by decide +kernel
theorem dX8_endTask_113 : decode cX8_endTask 113 = .ok (.ishl, 1) := by decide +kernel
theorem dX8_endTask_114 : decode cX8_endTask 114 = .ok (.iadd, 1) := by decide +kernel
theorem dX8_endTask_115 : decode cX8_endTask 115 = .ok (.iastore, 1) := by decide +kernel
theorem dX8_endTask_116 : decode cX8_endTask 116 = .ok (.aload_n 0, 1) := by decide +kernel
theorem dX8_endTask_117 : decode cX8_endTask 117 = .ok (.iload 5, 2) := by decide +kernel
theorem dX8_endTask_119 : decode cX8_endTask 119 = .ok (.ifCond .eq 7, 3) := by decide +kernel
theorem dX8_endTask_122 : decode cX8_endTask 122 = .ok (.iconst 5, 1) := by decide +kernel
theorem dX8_endTask_123 : decode cX8_endTask 123 = .ok (.goto 5, 3) := by decide +kernel
theorem dX8_endTask_126 : decode cX8_endTask 126 = .ok (.bipush 6, 2) := by decide +kernel
theorem dX8_endTask_128 : decode cX8_endTask 128 = .ok (.iload_n 1, 1) := by decide +kernel
theorem dX8_endTask_129 : decode cX8_endTask 129 = .ok (.iload_n 2, 1) := by decide +kernel
theorem dX8_endTask_130 : decode cX8_endTask 130 = .ok (.invokevirtual 176, 3) := by decide +kernel
theorem dX8_endTask_133 : decode cX8_endTask 133 = .ok (.iload 5, 2) := by decide +kernel
theorem dX8_endTask_135 : decode cX8_endTask 135 = .ok (.ifCond .ne 9, 3) := by decide +kernel
theorem dX8_endTask_138 : decode cX8_endTask 138 = .ok (.aload_n 0, 1) := by decide +kernel
theorem dX8_endTask_139 : decode cX8_endTask 139 = .ok (.iload_n 1, 1) := by decide +kernel
theorem dX8_endTask_140 : decode cX8_endTask 140 = .ok (.iload_n 2, 1) := by decide +kernel
theorem dX8_endTask_141 : decode cX8_endTask 141 = .ok (.invokevirtual 189, 3) := by decide +kernel
theorem dX8_endTask_144 : decode cX8_endTask 144 = .ok (.iconst 1, 1) := by decide +kernel
theorem dX8_endTask_145 : decode cX8_endTask 145 = .ok (.istore 5, 2) := by decide +kernel
theorem dX8_endTask_147 : decode cX8_endTask 147 = .ok (.bipush 6, 2) := by decide +kernel
theorem dX8_endTask_149 : decode cX8_endTask 149 = .ok (.iload_n 1, 1) := by decide +kernel
theorem dX8_endTask_150 : decode cX8_endTask 150 = .ok (.imul, 1) := by decide +kernel
theorem dX8_endTask_151 : decode cX8_endTask 151 = .ok (.istore 6, 2) := by decide +kernel
theorem dX8_endTask_153 : decode cX8_endTask 153 = .ok (.iload 6, 2) := by decide +kernel
theorem dX8_endTask_155 : decode cX8_endTask 155 = .ok (.bipush 6, 2) := by decide +kernel
theorem dX8_endTask_157 : decode cX8_endTask 157 = .ok (.iload_n 1, 1) := by decide +kernel
theorem dX8_endTask_158 : decode cX8_endTask 158 = .ok (.imul, 1) := by decide +kernel
theorem dX8_endTask_159 : decode cX8_endTask 159 = .ok (.aload_n 0, 1) := by decide +kernel
theorem dX8_endTask_160 : decode cX8_endTask 160 = .ok (.getfield 29, 3) := by decide +kernel
theorem dX8_endTask_163 : decode cX8_endTask 163 = .ok (.iload_n 1, 1) := by decide +kernel
theorem dX8_endTask_164 : decode cX8_endTask 164 = .ok (.iaload, 1) := by decide +kernel
theorem dX8_endTask_165 : decode cX8_endTask 165 = .ok (.iadd, 1) := by decide +kernel
theorem dX8_endTask_166 : decode cX8_endTask 166 = .ok (.if_icmp .ge 32, 3) := by decide +kernel
theorem dX8_endTask_169 : decode cX8_endTask 169 = .ok (.iload 5, 2) := by decide +kernel
theorem dX8_endTask_171 : decode cX8_endTask 171 = .ok (.ifCond .eq 18, 3) := by decide +kernel
theorem dX8_endTask_174 : decode cX8_endTask 174 = .ok (.aload_n 0, 1) := by decide +kernel
theorem dX8_endTask_175 : decode cX8_endTask 175 = .ok (.getfield 54, 3) := by decide +kernel
theorem dX8_endTask_178 : decode cX8_endTask 178 = .ok (.iload 6, 2) := by decide +kernel
theorem dX8_endTask_180 : decode cX8_endTask 180 = .ok (.iaload, 1) := by decide +kernel
theorem dX8_endTask_181 : decode cX8_endTask 181 = .ok (.iconst 4, 1) := by decide +kernel
theorem dX8_endTask_182 : decode cX8_endTask 182 = .ok (.if_icmp .lt 7, 3) := by decide +kernel
theorem dX8_endTask_185 : decode cX8_endTask 185 = .ok (.iconst 1, 1) := by decide +kernel
theorem dX8_endTask_186 : decode cX8_endTask 186 = .ok (.goto 4, 3) := by decide +kernel
theorem dX8_endTask_189 : decode cX8_endTask 189 = .ok (.iconst 0, 1) := by decide +kernel
theorem dX8_endTask_190 : decode cX8_endTask 190 = .ok (.istore 5, 2) := by decide +kernel
theorem dX8_endTask_192 : decode cX8_endTask 192 = .ok (.iinc 6 1, 3) := by decide +kernel
theorem dX8_endTask_195 : decode cX8_endTask 195 = .ok (.goto (-42), 3) := by decide +kernel
theorem dX8_endTask_198 : decode cX8_endTask 198 = .ok (.iload 5, 2) := by decide +kernel
theorem dX8_endTask_200 : decode cX8_endTask 200 = .ok (.ifCond .eq 18, 3) := by decide +kernel
theorem dX8_endTask_203 : decode cX8_endTask 203 = .ok (.aload_n 0, 1) := by decide +kernel
theorem dX8_endTask_204 : decode cX8_endTask 204 = .ok (.getfield 32, 3) := by decide +kernel
theorem dX8_endTask_207 : decode cX8_endTask 207 = .ok (.iload_n 1, 1) := by decide +kernel
theorem dX8_endTask_208 : decode cX8_endTask 208 = .ok (.iconst 0, 1) := by decide +kernel
theorem dX8_endTask_209 : decode cX8_endTask 209 = .ok (.bastore, 1) := by decide +kernel
theorem dX8_endTask_210 : decode cX8_endTask 210 = .ok (.aload_n 0, 1) := by decide +kernel
theorem dX8_endTask_211 : decode cX8_endTask 211 = .ok (.bipush 8, 2) := by decide +kernel
theorem dX8_endTask_213 : decode cX8_endTask 213 = .ok (.iload_n 1, 1) := by decide +kernel
theorem dX8_endTask_214 : decode cX8_endTask 214 = .ok (.iconst (-1), 1) := by decide +kernel
theorem dX8_endTask_215 : decode cX8_endTask 215 = .ok (.invokevirtual 176, 3) := by decide +kernel
theorem dX8_endTask_218 : decode cX8_endTask 218 = .ok (.return_, 1) := by decide +kernel
theorem dX8_task_0 : decode cX8_task 0 = .ok (.aload_n 0, 1) := by decide +kernel
theorem dX8_task_1 : decode cX8_task 1 = .ok (.aload_n 0, 1) := by decide +kernel
theorem dX8_task_2 : decode cX8_task 2 = .ok (.iload_n 1, 1) := by decide +kernel
theorem dX8_task_3 : decode cX8_task 3 = .ok (.invokevirtual 157, 3) := by decide +kernel
theorem dX8_task_6 : decode cX8_task 6 = .ok (.ifCond .ne 7, 3) := by decide +kernel
theorem dX8_task_9 : decode cX8_task 9 = .ok (.iconst 1, 1) := by decide +kernel
theorem dX8_task_10 : decode cX8_task 10 = .ok (.goto 4, 3) := by decide +kernel
theorem dX8_task_13 : decode cX8_task 13 = .ok (.iconst 0, 1) := by decide +kernel
theorem dX8_task_14 : decode cX8_task 14 = .ok (.putfield 66, 3) := by decide +kernel
theorem dX8_task_17 : decode cX8_task 17 = .ok (.aload_n 0, 1) := by decide +kernel
theorem dX8_task_18 : decode cX8_task 18 = .ok (.getfield 66, 3) := by decide +kernel
theorem dX8_task_21 : decode cX8_task 21 = .ok (.ifCond .le 5, 3) := by decide +kernel
theorem dX8_task_24 : decode cX8_task 24 = .ok (.iconst 0, 1) := by decide +kernel
theorem dX8_task_25 : decode cX8_task 25 = .ok (.ireturn, 1) := by decide +kernel
theorem dX8_task_26 : decode cX8_task 26 = .ok (.iload_n 2, 1) := by decide +kernel
theorem dX8_task_27 : decode cX8_task 27 = .ok (.ifCond .lt 38, 3) := by decide +kernel
theorem dX8_task_30 : decode cX8_task 30 = .ok (.iload_n 2, 1) := by decide +kernel
theorem dX8_task_31 : decode cX8_task 31 = .ok (.iconst 1, 1) := by decide +kernel
theorem dX8_task_32 : decode cX8_task 32 = .ok (.aload_n 0, 1) := by decide +kernel
theorem dX8_task_33 : decode cX8_task 33 = .ok (.getfield 29, 3) := by decide +kernel
theorem dX8_task_36 : decode cX8_task 36 = .ok (.iload_n 1, 1) := by decide +kernel
theorem dX8_task_37 : decode cX8_task 37 = .ok (.iaload, 1) := by decide +kernel
theorem dX8_task_38 : decode cX8_task 38 = .ok (.ishl, 1) := by decide +kernel
theorem dX8_task_39 : decode cX8_task 39 = .ok (.if_icmp .ge 26, 3) := by decide +kernel
theorem dX8_task_42 : decode cX8_task 42 = .ok (.iload_n 3, 1) := by decide +kernel
theorem dX8_task_43 : decode cX8_task 43 = .ok (.iconst 1, 1) := by decide +kernel
theorem dX8_task_44 : decode cX8_task 44 = .ok (.if_icmp .lt 21, 3) := by decide +kernel
theorem dX8_task_47 : decode cX8_task 47 = .ok (.iload_n 3, 1) := by decide +kernel
theorem dX8_task_48 : decode cX8_task 48 = .ok (.iconst 4, 1) := by decide +kernel
theorem dX8_task_49 : decode cX8_task 49 = .ok (.if_icmp .gt 16, 3) := by decide +kernel
theorem dX8_task_52 : decode cX8_task 52 = .ok (.iload 4, 2) := by decide +kernel
theorem dX8_task_54 : decode cX8_task 54 = .ok (.ifCond .lt 11, 3) := by decide +kernel
theorem dX8_task_57 : decode cX8_task 57 = .ok (.iload 4, 2) := by decide +kernel
theorem dX8_task_59 : decode cX8_task 59 = .ok (.sipush 1000, 3) := by decide +kernel
theorem dX8_task_62 : decode cX8_task 62 = .ok (.if_icmp .le 7, 3) := by decide +kernel
theorem dX8_task_65 : decode cX8_task 65 = .ok (.iconst 1, 1) := by decide +kernel
theorem dX8_task_66 : decode cX8_task 66 = .ok (.goto 4, 3) := by decide +kernel
theorem dX8_task_69 : decode cX8_task 69 = .ok (.iconst 0, 1) := by decide +kernel
theorem dX8_task_70 : decode cX8_task 70 = .ok (.istore 5, 2) := by decide +kernel
theorem dX8_task_72 : decode cX8_task 72 = .ok (.aload_n 0, 1) := by decide +kernel
theorem dX8_task_73 : decode cX8_task 73 = .ok (.aload_n 0, 1) := by decide +kernel
theorem dX8_task_74 : decode cX8_task 74 = .ok (.getfield 29, 3) := by decide +kernel
theorem dX8_task_77 : decode cX8_task 77 = .ok (.iload_n 1, 1) := by decide +kernel
theorem dX8_task_78 : decode cX8_task 78 = .ok (.iaload, 1) := by decide +kernel
theorem dX8_task_79 : decode cX8_task 79 = .ok (.bipush 6, 2) := by decide +kernel
theorem dX8_task_81 : decode cX8_task 81 = .ok (.if_icmp .eq 12, 3) := by decide +kernel
theorem dX8_task_84 : decode cX8_task 84 = .ok (.aload_n 0, 1) := by decide +kernel
theorem dX8_task_85 : decode cX8_task 85 = .ok (.getfield 32, 3) := by decide +kernel
theorem dX8_task_88 : decode cX8_task 88 = .ok (.iload_n 1, 1) := by decide +kernel
theorem dX8_task_89 : decode cX8_task 89 = .ok (.baload, 1) := by decide +kernel
theorem dX8_task_90 : decode cX8_task 90 = .ok (.ifCond .eq 7, 3) := by decide +kernel
theorem dX8_task_93 : decode cX8_task 93 = .ok (.iconst 2, 1) := by decide +kernel
theorem dX8_task_94 : decode cX8_task 94 = .ok (.goto 13, 3) := by decide +kernel
theorem dX8_task_97 : decode cX8_task 97 = .ok (.iload 5, 2) := by decide +kernel
theorem dX8_task_99 : decode cX8_task 99 = .ok (.ifCond .eq 7, 3) := by decide +kernel
theorem dX8_task_102 : decode cX8_task 102 = .ok (.iconst 3, 1) := by decide +kernel
theorem dX8_task_103 : decode cX8_task 103 = .ok (.goto 4, 3) := by decide +kernel
theorem dX8_task_106 : decode cX8_task 106 = .ok (.iconst 0, 1) := by decide +kernel
theorem dX8_task_107 : decode cX8_task 107 = .ok (.putfield 66, 3) := by decide +kernel
theorem dX8_task_110 : decode cX8_task 110 = .ok (.aload_n 0, 1) := by decide +kernel
theorem dX8_task_111 : decode cX8_task 111 = .ok (.getfield 66, 3) := by decide +kernel
theorem dX8_task_114 : decode cX8_task 114 = .ok (.ifCond .le 5, 3) := by decide +kernel
theorem dX8_task_117 : decode cX8_task 117 = .ok (.iconst 0, 1) := by decide +kernel
theorem dX8_task_118 : decode cX8_task 118 = .ok (.ireturn, 1) := by decide +kernel
theorem dX8_task_119 : decode cX8_task 119 = .ok (.bipush 6, 2) := by decide +kernel
theorem dX8_task_121 : decode cX8_task 121 = .ok (.iload_n 1, 1) := by decide +kernel
theorem dX8_task_122 : decode cX8_task 122 = .ok (.imul, 1) := by decide +kernel
theorem dX8_task_123 : decode cX8_task 123 = .ok (.aload_n 0, 1) := by decide +kernel
theorem dX8_task_124 : decode cX8_task 124 = .ok (.getfield 29, 3) := by decide +kernel
theorem dX8_task_127 : decode cX8_task 127 = .ok (.iload_n 1, 1) := by decide +kernel
theorem dX8_task_128 : decode cX8_task 128 = .ok (.iaload, 1) := by decide +kernel
theorem dX8_task_129 : decode cX8_task 129 = .ok (.iadd, 1) := by decide +kernel
theorem dX8_task_130 : decode cX8_task 130 = .ok (.istore 6, 2) := by decide +kernel
theorem dX8_task_132 : decode cX8_task 132 = .ok (.aload_n 0, 1) := by decide +kernel
theorem dX8_task_133 : decode cX8_task 133 = .ok (.getfield 45, 3) := by decide +kernel
theorem dX8_task_136 : decode cX8_task 136 = .ok (.iload 6, 2) := by decide +kernel
theorem dX8_task_138 : decode cX8_task 138 = .ok (.iload_n 2, 1) := by decide +kernel
theorem dX8_task_139 : decode cX8_task 139 = .ok (.iastore, 1) := by decide +kernel
theorem dX8_task_140 : decode cX8_task 140 = .ok (.aload_n 0, 1) := by decide +kernel
theorem dX8_task_141 : decode cX8_task 141 = .ok (.getfield 48, 3) := by decide +kernel
theorem dX8_task_144 : decode cX8_task 144 = .ok (.iload 6, 2) := by decide +kernel
theorem dX8_task_146 : decode cX8_task 146 = .ok (.iload_n 3, 1) := by decide +kernel
theorem dX8_task_147 : decode cX8_task 147 = .ok (.iastore, 1) := by decide +kernel
theorem dX8_task_148 : decode cX8_task 148 = .ok (.aload_n 0, 1) := by decide +kernel
theorem dX8_task_149 : decode cX8_task 149 = .ok (.getfield 51, 3) := by decide +kernel
theorem dX8_task_152 : decode cX8_task 152 = .ok (.iload 6, 2) := by decide +kernel
theorem dX8_task_154 : decode cX8_task 154 = .ok (.iload 4, 2) := by decide +kernel
theorem dX8_task_156 : decode cX8_task 156 = .ok (.iastore, 1) := by decide +kernel
theorem dX8_task_157 : decode cX8_task 157 = .ok (.aload_n 0, 1) := by decide +kernel
theorem dX8_task_158 : decode cX8_task 158 = .ok (.getfield 54, 3) := by decide +kernel
theorem dX8_task_161 : decode cX8_task 161 = .ok (.iload 6, 2) := by decide +kernel
theorem dX8_task_163 : decode cX8_task 163 = .ok (.iconst 0, 1) := by decide +kernel
theorem dX8_task_164 : decode cX8_task 164 = .ok (.iastore, 1) := by decide +kernel
theorem dX8_task_165 : decode cX8_task 165 = .ok (.aload_n 0, 1) := by decide +kernel
theorem dX8_task_166 : decode cX8_task 166 = .ok (.getfield 29, 3) := by decide +kernel
theorem dX8_task_169 : decode cX8_task 169 = .ok (.iload_n 1, 1) := by decide +kernel
theorem dX8_task_170 : decode cX8_task 170 = .ok (.aload_n 0, 1) := by decide +kernel
theorem dX8_task_171 : decode cX8_task 171 = .ok (.getfield 29, 3) := by decide +kernel
theorem dX8_task_174 : decode cX8_task 174 = .ok (.iload_n 1, 1) := by decide +kernel
theorem dX8_task_175 : decode cX8_task 175 = .ok (.iaload, 1) := by decide +kernel
theorem dX8_task_176 : decode cX8_task 176 = .ok (.iconst 1, 1) := by decide +kernel
theorem dX8_task_177 : decode cX8_task 177 = .ok (.iadd, 1) := by decide +kernel
theorem dX8_task_178 : decode cX8_task 178 = .ok (.iastore, 1) := by decide +kernel
theorem dX8_task_179 : decode cX8_task 179 = .ok (.aload_n 0, 1) := by decide +kernel
theorem dX8_task_180 : decode cX8_task 180 = .ok (.getfield 29, 3) := by decide +kernel
theorem dX8_task_183 : decode cX8_task 183 = .ok (.iload_n 1, 1) := by decide +kernel
theorem dX8_task_184 : decode cX8_task 184 = .ok (.iaload, 1) := by decide +kernel
theorem dX8_task_185 : decode cX8_task 185 = .ok (.iconst 1, 1) := by decide +kernel
theorem dX8_task_186 : decode cX8_task 186 = .ok (.isub, 1) := by decide +kernel
theorem dX8_task_187 : decode cX8_task 187 = .ok (.ireturn, 1) := by decide +kernel
theorem dX8_slots_0 : decode cX8_slots 0 = .ok (.aload_n 0, 1) := by decide +kernel
theorem dX8_slots_1 : decode cX8_slots 1 = .ok (.iconst 0, 1) := by decide +kernel
theorem dX8_slots_2 : decode cX8_slots 2 = .ok (.putfield 66, 3) := by decide +kernel
theorem dX8_slots_5 : decode cX8_slots 5 = .ok (.iload_n 1, 1) := by decide +kernel
theorem dX8_slots_6 : decode cX8_slots 6 = .ok (.iconst 1, 1) := by decide +kernel
theorem dX8_slots_7 : decode cX8_slots 7 = .ok (.if_icmp .lt 9, 3) := by decide +kernel
theorem dX8_slots_10 : decode cX8_slots 10 = .ok (.iload_n 1, 1) := by decide +kernel
theorem dX8_slots_11 : decode cX8_slots 11 = .ok (.bipush 6, 2) := by decide +kernel
theorem dX8_slots_13 : decode cX8_slots 13 = .ok (.if_icmp .le 5, 3) := by decide +kernel
theorem dX8_slots_16 : decode cX8_slots 16 = .ok (.iconst 0, 1) := by decide +kernel
theorem dX8_slots_17 : decode cX8_slots 17 = .ok (.ireturn, 1) := by decide +kernel
theorem dX8_slots_18 : decode cX8_slots 18 = .ok (.aload_n 0, 1) := by decide +kernel
theorem dX8_slots_19 : decode cX8_slots 19 = .ok (.iload_n 1, 1) := by decide +kernel
theorem dX8_slots_20 : decode cX8_slots 20 = .ok (.putfield 7, 3) := by decide +kernel
theorem dX8_slots_23 : decode cX8_slots 23 = .ok (.iconst 1, 1) := by decide +kernel
theorem dX8_slots_24 : decode cX8_slots 24 = .ok (.ireturn, 1) := by decide +kernel
theorem dX8_pass_0 : decode cX8_pass 0 = .ok (.aload_n 0, 1) := by decide +kernel
theorem dX8_pass_1 : decode cX8_pass 1 = .ok (.iload_n 1, 1) := by decide +kernel
theorem dX8_pass_2 : decode cX8_pass 2 = .ok (.iconst 1, 1) := by decide +kernel
theorem dX8_pass_3 : decode cX8_pass 3 = .ok (.if_icmp .lt 10, 3) := by decide +kernel
theorem dX8_pass_6 : decode cX8_pass 6 = .ok (.iload_n 1, 1) := by decide +kernel
theorem dX8_pass_7 : decode cX8_pass 7 = .ok (.sipush 5000, 3) := by decide +kernel
theorem dX8_pass_10 : decode cX8_pass 10 = .ok (.if_icmp .le 7, 3) := by decide +kernel
theorem dX8_pass_13 : decode cX8_pass 13 = .ok (.iconst 1, 1) := by decide +kernel
theorem dX8_pass_14 : decode cX8_pass 14 = .ok (.goto 19, 3) := by decide +kernel
theorem dX8_pass_17 : decode cX8_pass 17 = .ok (.aload_n 0, 1) := by decide +kernel
theorem dX8_pass_18 : decode cX8_pass 18 = .ok (.getfield 173, 3) := by decide +kernel
theorem dX8_pass_21 : decode cX8_pass 21 = .ok (.iload_n 1, 1) := by decide +kernel
theorem dX8_pass_22 : decode cX8_pass 22 = .ok (.iadd, 1) := by decide +kernel
theorem dX8_pass_23 : decode cX8_pass 23 = .ok (.ldc 156, 2) := by decide +kernel
theorem dX8_pass_25 : decode cX8_pass 25 = .ok (.if_icmp .lt 7, 3) := by decide +kernel
theorem dX8_pass_28 : decode cX8_pass 28 = .ok (.iconst 2, 1) := by decide +kernel
theorem dX8_pass_29 : decode cX8_pass 29 = .ok (.goto 4, 3) := by decide +kernel
theorem dX8_pass_32 : decode cX8_pass 32 = .ok (.iconst 0, 1) := by decide +kernel
theorem dX8_pass_33 : decode cX8_pass 33 = .ok (.putfield 66, 3) := by decide +kernel
theorem dX8_pass_36 : decode cX8_pass 36 = .ok (.aload_n 0, 1) := by decide +kernel
theorem dX8_pass_37 : decode cX8_pass 37 = .ok (.getfield 66, 3) := by decide +kernel
theorem dX8_pass_40 : decode cX8_pass 40 = .ok (.ifCond .le 5, 3) := by decide +kernel
theorem dX8_pass_43 : decode cX8_pass 43 = .ok (.iconst 0, 1) := by decide +kernel
theorem dX8_pass_44 : decode cX8_pass 44 = .ok (.ireturn, 1) := by decide +kernel
theorem dX8_pass_45 : decode cX8_pass 45 = .ok (.aload_n 0, 1) := by decide +kernel
theorem dX8_pass_46 : decode cX8_pass 46 = .ok (.getfield 193, 3) := by decide +kernel
theorem dX8_pass_49 : decode cX8_pass 49 = .ok (.ifCond .eq 15, 3) := by decide +kernel
theorem dX8_pass_52 : decode cX8_pass 52 = .ok (.aload_n 0, 1) := by decide +kernel
theorem dX8_pass_53 : decode cX8_pass 53 = .ok (.aload_n 0, 1) := by decide +kernel
theorem dX8_pass_54 : decode cX8_pass 54 = .ok (.getfield 173, 3) := by decide +kernel
theorem dX8_pass_57 : decode cX8_pass 57 = .ok (.iload_n 1, 1) := by decide +kernel
theorem dX8_pass_58 : decode cX8_pass 58 = .ok (.iadd, 1) := by decide +kernel
theorem dX8_pass_59 : decode cX8_pass 59 = .ok (.putfield 173, 3) := by decide +kernel
theorem dX8_pass_62 : decode cX8_pass 62 = .ok (.iconst 0, 1) := by decide +kernel
theorem dX8_pass_63 : decode cX8_pass 63 = .ok (.ireturn, 1) := by decide +kernel
theorem dX8_pass_64 : decode cX8_pass 64 = .ok (.iconst 0, 1) := by decide +kernel
theorem dX8_pass_65 : decode cX8_pass 65 = .ok (.istore_n 2, 1) := by decide +kernel
theorem dX8_pass_66 : decode cX8_pass 66 = .ok (.iconst 0, 1) := by decide +kernel
theorem dX8_pass_67 : decode cX8_pass 67 = .ok (.istore_n 3, 1) := by decide +kernel
theorem dX8_pass_68 : decode cX8_pass 68 = .ok (.iload_n 3, 1) := by decide +kernel
theorem dX8_pass_69 : decode cX8_pass 69 = .ok (.iload_n 1, 1) := by decide +kernel
theorem dX8_pass_70 : decode cX8_pass 70 = .ok (.if_icmp .ge 63, 3) := by decide +kernel
theorem dX8_pass_73 : decode cX8_pass 73 = .ok (.aload_n 0, 1) := by decide +kernel
theorem dX8_pass_74 : decode cX8_pass 74 = .ok (.aload_n 0, 1) := by decide +kernel
theorem dX8_pass_75 : decode cX8_pass 75 = .ok (.getfield 173, 3) := by decide +kernel
theorem dX8_pass_78 : decode cX8_pass 78 = .ok (.iconst 1, 1) := by decide +kernel
theorem dX8_pass_79 : decode cX8_pass 79 = .ok (.iadd, 1) := by decide +kernel
theorem dX8_pass_80 : decode cX8_pass 80 = .ok (.putfield 173, 3) := by decide +kernel
theorem dX8_pass_83 : decode cX8_pass 83 = .ok (.iconst 0, 1) := by decide +kernel
theorem dX8_pass_84 : decode cX8_pass 84 = .ok (.istore 4, 2) := by decide +kernel
theorem dX8_pass_86 : decode cX8_pass 86 = .ok (.iload 4, 2) := by decide +kernel
theorem dX8_pass_88 : decode cX8_pass 88 = .ok (.aload_n 0, 1) := by decide +kernel
theorem dX8_pass_89 : decode cX8_pass 89 = .ok (.getfield 98, 3) := by decide +kernel
theorem dX8_pass_92 : decode cX8_pass 92 = .ok (.if_icmp .ge 28, 3) := by decide +kernel
theorem dX8_pass_95 : decode cX8_pass 95 = .ok (.aload_n 0, 1) := by decide +kernel
theorem dX8_pass_96 : decode cX8_pass 96 = .ok (.iload 4, 2) := by decide +kernel
theorem dX8_pass_98 : decode cX8_pass 98 = .ok (.aload_n 0, 1) := by decide +kernel
theorem dX8_pass_99 : decode cX8_pass 99 = .ok (.getfield 173, 3) := by decide +kernel
theorem dX8_pass_102 : decode cX8_pass 102 = .ok (.invokevirtual 163, 3) := by decide +kernel
theorem dX8_pass_105 : decode cX8_pass 105 = .ok (.ifCond .eq 9, 3) := by decide +kernel
theorem dX8_pass_108 : decode cX8_pass 108 = .ok (.aload_n 0, 1) := by decide +kernel
theorem dX8_pass_109 : decode cX8_pass 109 = .ok (.iload 4, 2) := by decide +kernel
theorem dX8_pass_111 : decode cX8_pass 111 = .ok (.invokevirtual 197, 3) := by decide +kernel
theorem dX8_pass_114 : decode cX8_pass 114 = .ok (.iinc 4 1, 3) := by decide +kernel
theorem dX8_pass_117 : decode cX8_pass 117 = .ok (.goto (-31), 3) := by decide +kernel
theorem dX8_pass_120 : decode cX8_pass 120 = .ok (.iload_n 2, 1) := by decide +kernel
theorem dX8_pass_121 : decode cX8_pass 121 = .ok (.aload_n 0, 1) := by decide +kernel
theorem dX8_pass_122 : decode cX8_pass 122 = .ok (.invokevirtual 200, 3) := by decide +kernel
theorem dX8_pass_125 : decode cX8_pass 125 = .ok (.iadd, 1) := by decide +kernel
theorem dX8_pass_126 : decode cX8_pass 126 = .ok (.istore_n 2, 1) := by decide +kernel
theorem dX8_pass_127 : decode cX8_pass 127 = .ok (.iinc 3 1, 3) := by decide +kernel
theorem dX8_pass_130 : decode cX8_pass 130 = .ok (.goto (-62), 3) := by decide +kernel
theorem dX8_pass_133 : decode cX8_pass 133 = .ok (.iload_n 2, 1) := by decide +kernel
theorem dX8_pass_134 : decode cX8_pass 134 = .ok (.ireturn, 1) := by decide +kernel
theorem dX8_isBusy_0 : decode cX8_isBusy 0 = .ok (.iconst 0, 1) := by decide +kernel
theorem dX8_isBusy_1 : decode cX8_isBusy 1 = .ok (.istore_n 1, 1) := by decide +kernel
theorem dX8_isBusy_2 : decode cX8_isBusy 2 = .ok (.iconst 0, 1) := by decide +kernel
theorem dX8_isBusy_3 : decode cX8_isBusy 3 = .ok (.istore_n 2, 1) := by decide +kernel
theorem dX8_isBusy_4 : decode cX8_isBusy 4 = .ok (.iload_n 2, 1) := by decide +kernel
theorem dX8_isBusy_5 : decode cX8_isBusy 5 = .ok (.aload_n 0, 1) := by decide +kernel
theorem dX8_isBusy_6 : decode cX8_isBusy 6 = .ok (.getfield 98, 3) := by decide +kernel
theorem dX8_isBusy_9 : decode cX8_isBusy 9 = .ok (.if_icmp .ge 28, 3) := by decide +kernel
theorem dX8_isBusy_12 : decode cX8_isBusy 12 = .ok (.iload_n 1, 1) := by decide +kernel
theorem dX8_isBusy_13 : decode cX8_isBusy 13 = .ok (.ifCond .ne 12, 3) := by decide +kernel
theorem dX8_isBusy_16 : decode cX8_isBusy 16 = .ok (.aload_n 0, 1) := by decide +kernel
theorem dX8_isBusy_17 : decode cX8_isBusy 17 = .ok (.getfield 32, 3) := by decide +kernel
theorem dX8_isBusy_20 : decode cX8_isBusy 20 = .ok (.iload_n 2, 1) := by decide +kernel
theorem dX8_isBusy_21 : decode cX8_isBusy 21 = .ok (.baload, 1) := by decide +kernel
theorem dX8_isBusy_22 : decode cX8_isBusy 22 = .ok (.ifCond .eq 7, 3) := by decide +kernel
theorem dX8_isBusy_25 : decode cX8_isBusy 25 = .ok (.iconst 1, 1) := by decide +kernel
theorem dX8_isBusy_26 : decode cX8_isBusy 26 = .ok (.goto 4, 3) := by decide +kernel
theorem dX8_isBusy_29 : decode cX8_isBusy 29 = .ok (.iconst 0, 1) := by decide +kernel
theorem dX8_isBusy_30 : decode cX8_isBusy 30 = .ok (.istore_n 1, 1) := by decide +kernel
theorem dX8_isBusy_31 : decode cX8_isBusy 31 = .ok (.iinc 2 1, 3) := by decide +kernel
theorem dX8_isBusy_34 : decode cX8_isBusy 34 = .ok (.goto (-30), 3) := by decide +kernel
theorem dX8_isBusy_37 : decode cX8_isBusy 37 = .ok (.iload_n 1, 1) := by decide +kernel
theorem dX8_isBusy_38 : decode cX8_isBusy 38 = .ok (.ireturn, 1) := by decide +kernel
theorem dX8_set_0 : decode cX8_set 0 = .ok (.aload_n 0, 1) := by decide +kernel
theorem dX8_set_1 : decode cX8_set 1 = .ok (.aload_n 0, 1) := by decide +kernel
theorem dX8_set_2 : decode cX8_set 2 = .ok (.invokevirtual 203, 3) := by decide +kernel
theorem dX8_set_5 : decode cX8_set 5 = .ok (.ifCond .ne 10, 3) := by decide +kernel
theorem dX8_set_8 : decode cX8_set 8 = .ok (.aload_n 0, 1) := by decide +kernel
theorem dX8_set_9 : decode cX8_set 9 = .ok (.getfield 193, 3) := by decide +kernel
theorem dX8_set_12 : decode cX8_set 12 = .ok (.ifCond .eq 7, 3) := by decide +kernel
theorem dX8_set_15 : decode cX8_set 15 = .ok (.iconst 1, 1) := by decide +kernel
theorem dX8_set_16 : decode cX8_set 16 = .ok (.goto 22, 3) := by decide +kernel
theorem dX8_set_19 : decode cX8_set 19 = .ok (.iload_n 1, 1) := by decide +kernel
theorem dX8_set_20 : decode cX8_set 20 = .ok (.aload_n 0, 1) := by decide +kernel
theorem dX8_set_21 : decode cX8_set 21 = .ok (.getfield 173, 3) := by decide +kernel
theorem dX8_set_24 : decode cX8_set 24 = .ok (.if_icmp .lt 9, 3) := by decide +kernel
theorem dX8_set_27 : decode cX8_set 27 = .ok (.iload_n 1, 1) := by decide +kernel
theorem dX8_set_28 : decode cX8_set 28 = .ok (.ldc 156, 2) := by decide +kernel
theorem dX8_set_30 : decode cX8_set 30 = .ok (.if_icmp .lt 7, 3) := by decide +kernel
theorem dX8_set_33 : decode cX8_set 33 = .ok (.iconst 2, 1) := by decide +kernel
theorem dX8_set_34 : decode cX8_set 34 = .ok (.goto 4, 3) := by decide +kernel
theorem dX8_set_37 : decode cX8_set 37 = .ok (.iconst 0, 1) := by decide +kernel
theorem dX8_set_38 : decode cX8_set 38 = .ok (.putfield 66, 3) := by decide +kernel
theorem dX8_set_41 : decode cX8_set 41 = .ok (.aload_n 0, 1) := by decide +kernel
theorem dX8_set_42 : decode cX8_set 42 = .ok (.aload_n 0, 1) := by decide +kernel
theorem dX8_set_43 : decode cX8_set 43 = .ok (.getfield 66, 3) := by decide +kernel
theorem dX8_set_46 : decode cX8_set 46 = .ok (.ifCond .ne 7, 3) := by decide +kernel
theorem dX8_set_49 : decode cX8_set 49 = .ok (.iload_n 1, 1) := by decide +kernel
theorem dX8_set_50 : decode cX8_set 50 = .ok (.goto 7, 3) := by decide +kernel
theorem dX8_set_53 : decode cX8_set 53 = .ok (.aload_n 0, 1) := by decide +kernel
theorem dX8_set_54 : decode cX8_set 54 = .ok (.getfield 173, 3) := by decide +kernel
theorem dX8_set_57 : decode cX8_set 57 = .ok (.putfield 173, 3) := by decide +kernel
theorem dX8_set_60 : decode cX8_set 60 = .ok (.return_, 1) := by decide +kernel
theorem dX8_isTask_0 : decode cX8_isTask 0 = .ok (.aload_n 0, 1) := by decide +kernel
theorem dX8_isTask_1 : decode cX8_isTask 1 = .ok (.iload_n 1, 1) := by decide +kernel
theorem dX8_isTask_2 : decode cX8_isTask 2 = .ok (.invokevirtual 157, 3) := by decide +kernel
theorem dX8_isTask_5 : decode cX8_isTask 5 = .ok (.ifCond .eq 21, 3) := by decide +kernel
theorem dX8_isTask_8 : decode cX8_isTask 8 = .ok (.iload_n 2, 1) := by decide +kernel
theorem dX8_isTask_9 : decode cX8_isTask 9 = .ok (.ifCond .lt 17, 3) := by decide +kernel
theorem dX8_isTask_12 : decode cX8_isTask 12 = .ok (.iload_n 2, 1) := by decide +kernel
theorem dX8_isTask_13 : decode cX8_isTask 13 = .ok (.aload_n 0, 1) := by decide +kernel
theorem dX8_isTask_14 : decode cX8_isTask 14 = .ok (.getfield 29, 3) := by decide +kernel
theorem dX8_isTask_17 : decode cX8_isTask 17 = .ok (.iload_n 1, 1) := by decide +kernel
theorem dX8_isTask_18 : decode cX8_isTask 18 = .ok (.iaload, 1) := by decide +kernel
theorem dX8_isTask_19 : decode cX8_isTask 19 = .ok (.if_icmp .ge 7, 3) := by decide +kernel
theorem dX8_isTask_22 : decode cX8_isTask 22 = .ok (.iconst 1, 1) := by decide +kernel
theorem dX8_isTask_23 : decode cX8_isTask 23 = .ok (.goto 4, 3) := by decide +kernel
theorem dX8_isTask_26 : decode cX8_isTask 26 = .ok (.iconst 0, 1) := by decide +kernel
theorem dX8_isTask_27 : decode cX8_isTask 27 = .ok (.ireturn, 1) := by decide +kernel
theorem dX8_end_0 : decode cX8_end 0 = .ok (.aload_n 0, 1) := by decide +kernel
theorem dX8_end_1 : decode cX8_end 1 = .ok (.aload_n 0, 1) := by decide +kernel
theorem dX8_end_2 : decode cX8_end 2 = .ok (.iload_n 1, 1) := by decide +kernel
theorem dX8_end_3 : decode cX8_end 3 = .ok (.iload_n 2, 1) := by decide +kernel
theorem dX8_end_4 : decode cX8_end 4 = .ok (.invokevirtual 207, 3) := by decide +kernel
theorem dX8_end_7 : decode cX8_end 7 = .ok (.ifCond .ne 7, 3) := by decide +kernel
theorem dX8_end_10 : decode cX8_end 10 = .ok (.iconst 1, 1) := by decide +kernel
theorem dX8_end_11 : decode cX8_end 11 = .ok (.goto 30, 3) := by decide +kernel
theorem dX8_end_14 : decode cX8_end 14 = .ok (.aload_n 0, 1) := by decide +kernel
theorem dX8_end_15 : decode cX8_end 15 = .ok (.getfield 54, 3) := by decide +kernel
theorem dX8_end_18 : decode cX8_end 18 = .ok (.bipush 6, 2) := by decide +kernel
theorem dX8_end_20 : decode cX8_end 20 = .ok (.iload_n 1, 1) := by decide +kernel
theorem dX8_end_21 : decode cX8_end 21 = .ok (.imul, 1) := by decide +kernel
theorem dX8_end_22 : decode cX8_end 22 = .ok (.iload_n 2, 1) := by decide +kernel
theorem dX8_end_23 : decode cX8_end 23 = .ok (.iadd, 1) := by decide +kernel
theorem dX8_end_24 : decode cX8_end 24 = .ok (.iaload, 1) := by decide +kernel
theorem dX8_end_25 : decode cX8_end 25 = .ok (.iconst 3, 1) := by decide +kernel
theorem dX8_end_26 : decode cX8_end 26 = .ok (.if_icmp .ne 10, 3) := by decide +kernel
theorem dX8_end_29 : decode cX8_end 29 = .ok (.aload_n 0, 1) := by decide +kernel
theorem dX8_end_30 : decode cX8_end 30 = .ok (.getfield 193, 3) := by decide +kernel
theorem dX8_end_33 : decode cX8_end 33 = .ok (.ifCond .eq 7, 3) := by decide +kernel
theorem dX8_end_36 : decode cX8_end 36 = .ok (.iconst 2, 1) := by decide +kernel
theorem dX8_end_37 : decode cX8_end 37 = .ok (.goto 4, 3) := by decide +kernel
theorem dX8_end_40 : decode cX8_end 40 = .ok (.iconst 0, 1) := by decide +kernel
theorem dX8_end_41 : decode cX8_end 41 = .ok (.putfield 66, 3) := by decide +kernel
theorem dX8_end_44 : decode cX8_end 44 = .ok (.aload_n 0, 1) := by decide +kernel
theorem dX8_end_45 : decode cX8_end 45 = .ok (.getfield 66, 3) := by decide +kernel
theorem dX8_end_48 : decode cX8_end 48 = .ok (.ifCond .le 5, 3) := by decide +kernel
theorem dX8_end_51 : decode cX8_end 51 = .ok (.iconst 0, 1) := by decide +kernel
theorem dX8_end_52 : decode cX8_end 52 = .ok (.ireturn, 1) := by decide +kernel
theorem dX8_end_53 : decode cX8_end 53 = .ok (.aload_n 0, 1) := by decide +kernel
theorem dX8_end_54 : decode cX8_end 54 = .ok (.iload_n 1, 1) := by decide +kernel
theorem dX8_end_55 : decode cX8_end 55 = .ok (.iload_n 2, 1) := by decide +kernel
theorem dX8_end_56 : decode cX8_end 56 = .ok (.iload_n 3, 1) := by decide +kernel
theorem dX8_end_57 : decode cX8_end 57 = .ok (.invokevirtual 210, 3) := by decide +kernel
theorem dX8_end_60 : decode cX8_end 60 = .ok (.aload_n 0, 1) := by decide +kernel
theorem dX8_end_61 : decode cX8_end 61 = .ok (.getfield 54, 3) := by decide +kernel
theorem dX8_end_64 : decode cX8_end 64 = .ok (.bipush 6, 2) := by decide +kernel
theorem dX8_end_66 : decode cX8_end 66 = .ok (.iload_n 1, 1) := by decide +kernel
theorem dX8_end_67 : decode cX8_end 67 = .ok (.imul, 1) := by decide +kernel
theorem dX8_end_68 : decode cX8_end 68 = .ok (.iload_n 2, 1) := by decide +kernel
theorem dX8_end_69 : decode cX8_end 69 = .ok (.iadd, 1) := by decide +kernel
theorem dX8_end_70 : decode cX8_end 70 = .ok (.iaload, 1) := by decide +kernel
theorem dX8_end_71 : decode cX8_end 71 = .ok (.ireturn, 1) := by decide +kernel
theorem dX8_comeUp_0 : decode cX8_comeUp 0 = .ok (.iconst 0, 1) := by decide +kernel
theorem dX8_comeUp_1 : decode cX8_comeUp 1 = .ok (.istore_n 1, 1) := by decide +kernel
theorem dX8_comeUp_2 : decode cX8_comeUp 2 = .ok (.iload_n 1, 1) := by decide +kernel
theorem dX8_comeUp_3 : decode cX8_comeUp 3 = .ok (.bipush 36, 2) := by decide +kernel
theorem dX8_comeUp_5 : decode cX8_comeUp 5 = .ok (.if_icmp .ge 32, 3) := by decide +kernel
theorem dX8_comeUp_8 : decode cX8_comeUp 8 = .ok (.aload_n 0, 1) := by decide +kernel
theorem dX8_comeUp_9 : decode cX8_comeUp 9 = .ok (.getfield 54, 3) := by decide +kernel
theorem dX8_comeUp_12 : decode cX8_comeUp 12 = .ok (.iload_n 1, 1) := by decide +kernel
theorem dX8_comeUp_13 : decode cX8_comeUp 13 = .ok (.iaload, 1) := by decide +kernel
theorem dX8_comeUp_14 : decode cX8_comeUp 14 = .ok (.iconst 3, 1) := by decide +kernel
theorem dX8_comeUp_15 : decode cX8_comeUp 15 = .ok (.if_icmp .ne 16, 3) := by decide +kernel
theorem dX8_comeUp_18 : decode cX8_comeUp 18 = .ok (.aload_n 0, 1) := by decide +kernel
theorem dX8_comeUp_19 : decode cX8_comeUp 19 = .ok (.iload_n 1, 1) := by decide +kernel
theorem dX8_comeUp_20 : decode cX8_comeUp 20 = .ok (.bipush 6, 2) := by decide +kernel
theorem dX8_comeUp_22 : decode cX8_comeUp 22 = .ok (.idiv, 1) := by decide +kernel
theorem dX8_comeUp_23 : decode cX8_comeUp 23 = .ok (.iload_n 1, 1) := by decide +kernel
theorem dX8_comeUp_24 : decode cX8_comeUp 24 = .ok (.bipush 6, 2) := by decide +kernel
theorem dX8_comeUp_26 : decode cX8_comeUp 26 = .ok (.irem, 1) := by decide +kernel
theorem dX8_comeUp_27 : decode cX8_comeUp 27 = .ok (.iconst 0, 1) := by decide +kernel
theorem dX8_comeUp_28 : decode cX8_comeUp 28 = .ok (.invokevirtual 210, 3) := by decide +kernel
theorem dX8_comeUp_31 : decode cX8_comeUp 31 = .ok (.iinc 1 1, 3) := by decide +kernel
theorem dX8_comeUp_34 : decode cX8_comeUp 34 = .ok (.goto (-32), 3) := by decide +kernel
theorem dX8_comeUp_37 : decode cX8_comeUp 37 = .ok (.iconst 0, 1) := by decide +kernel
theorem dX8_comeUp_38 : decode cX8_comeUp 38 = .ok (.istore_n 1, 1) := by decide +kernel
theorem dX8_comeUp_39 : decode cX8_comeUp 39 = .ok (.iload_n 1, 1) := by decide +kernel
theorem dX8_comeUp_40 : decode cX8_comeUp 40 = .ok (.aload_n 0, 1) := by decide +kernel
theorem dX8_comeUp_41 : decode cX8_comeUp 41 = .ok (.getfield 98, 3) := by decide +kernel
theorem dX8_comeUp_44 : decode cX8_comeUp 44 = .ok (.if_icmp .ge 40, 3) := by decide +kernel
theorem dX8_comeUp_47 : decode cX8_comeUp 47 = .ok (.aload_n 0, 1) := by decide +kernel
theorem dX8_comeUp_48 : decode cX8_comeUp 48 = .ok (.getfield 42, 3) := by decide +kernel
theorem dX8_comeUp_51 : decode cX8_comeUp 51 = .ok (.iload_n 1, 1) := by decide +kernel
theorem dX8_comeUp_52 : decode cX8_comeUp 52 = .ok (.aload_n 0, 1) := by decide +kernel
theorem dX8_comeUp_53 : decode cX8_comeUp 53 = .ok (.iload_n 1, 1) := by decide +kernel
theorem dX8_comeUp_54 : decode cX8_comeUp 54 = .ok (.aload_n 0, 1) := by decide +kernel
theorem dX8_comeUp_55 : decode cX8_comeUp 55 = .ok (.getfield 214, 3) := by decide +kernel
theorem dX8_comeUp_58 : decode cX8_comeUp 58 = .ok (.iconst 1, 1) := by decide +kernel
theorem dX8_comeUp_59 : decode cX8_comeUp 59 = .ok (.iadd, 1) := by decide +kernel
theorem dX8_comeUp_60 : decode cX8_comeUp 60 = .ok (.aload_n 0, 1) := by decide +kernel
theorem dX8_comeUp_61 : decode cX8_comeUp 61 = .ok (.getfield 173, 3) := by decide +kernel
theorem dX8_comeUp_64 : decode cX8_comeUp 64 = .ok (.iconst 1, 1) := by decide +kernel
theorem dX8_comeUp_65 : decode cX8_comeUp 65 = .ok (.iadd, 1) := by decide +kernel
theorem dX8_comeUp_66 : decode cX8_comeUp 66 = .ok (.invokevirtual 166, 3) := by decide +kernel
theorem dX8_comeUp_69 : decode cX8_comeUp 69 = .ok (.ifCond .lt 7, 3) := by decide +kernel
theorem dX8_comeUp_72 : decode cX8_comeUp 72 = .ok (.iconst 1, 1) := by decide +kernel
theorem dX8_comeUp_73 : decode cX8_comeUp 73 = .ok (.goto 4, 3) := by decide +kernel
theorem dX8_comeUp_76 : decode cX8_comeUp 76 = .ok (.iconst 0, 1) := by decide +kernel
theorem dX8_comeUp_77 : decode cX8_comeUp 77 = .ok (.bastore, 1) := by decide +kernel
theorem dX8_comeUp_78 : decode cX8_comeUp 78 = .ok (.iinc 1 1, 3) := by decide +kernel
theorem dX8_comeUp_81 : decode cX8_comeUp 81 = .ok (.goto (-42), 3) := by decide +kernel
theorem dX8_comeUp_84 : decode cX8_comeUp 84 = .ok (.iconst 0, 1) := by decide +kernel
theorem dX8_comeUp_85 : decode cX8_comeUp 85 = .ok (.istore_n 1, 1) := by decide +kernel
theorem dX8_comeUp_86 : decode cX8_comeUp 86 = .ok (.iload_n 1, 1) := by decide +kernel
theorem dX8_comeUp_87 : decode cX8_comeUp 87 = .ok (.aload_n 0, 1) := by decide +kernel
theorem dX8_comeUp_88 : decode cX8_comeUp 88 = .ok (.getfield 98, 3) := by decide +kernel
theorem dX8_comeUp_91 : decode cX8_comeUp 91 = .ok (.if_icmp .ge 23, 3) := by decide +kernel
theorem dX8_comeUp_94 : decode cX8_comeUp 94 = .ok (.aload_n 0, 1) := by decide +kernel
theorem dX8_comeUp_95 : decode cX8_comeUp 95 = .ok (.getfield 42, 3) := by decide +kernel
theorem dX8_comeUp_98 : decode cX8_comeUp 98 = .ok (.iload_n 1, 1) := by decide +kernel
theorem dX8_comeUp_99 : decode cX8_comeUp 99 = .ok (.baload, 1) := by decide +kernel
theorem dX8_comeUp_100 : decode cX8_comeUp 100 = .ok (.ifCond .eq 8, 3) := by decide +kernel
theorem dX8_comeUp_103 : decode cX8_comeUp 103 = .ok (.aload_n 0, 1) := by decide +kernel
theorem dX8_comeUp_104 : decode cX8_comeUp 104 = .ok (.iload_n 1, 1) := by decide +kernel
theorem dX8_comeUp_105 : decode cX8_comeUp 105 = .ok (.invokevirtual 197, 3) := by decide +kernel
theorem dX8_comeUp_108 : decode cX8_comeUp 108 = .ok (.iinc 1 1, 3) := by decide +kernel
theorem dX8_comeUp_111 : decode cX8_comeUp 111 = .ok (.goto (-25), 3) := by decide +kernel
theorem dX8_comeUp_114 : decode cX8_comeUp 114 = .ok (.aload_n 0, 1) := by decide +kernel
theorem dX8_comeUp_115 : decode cX8_comeUp 115 = .ok (.invokevirtual 200, 3) := by decide +kernel
theorem dX8_comeUp_118 : decode cX8_comeUp 118 = .ok (.ireturn, 1) := by decide +kernel
theorem dX8_down_0 : decode cX8_down 0 = .ok (.aload_n 0, 1) := by decide +kernel
theorem dX8_down_1 : decode cX8_down 1 = .ok (.iload_n 1, 1) := by decide +kernel
theorem dX8_down_2 : decode cX8_down 2 = .ok (.aload_n 0, 1) := by decide +kernel
theorem dX8_down_3 : decode cX8_down 3 = .ok (.getfield 193, 3) := by decide +kernel
theorem dX8_down_6 : decode cX8_down 6 = .ok (.if_icmp .ne 7, 3) := by decide +kernel
theorem dX8_down_9 : decode cX8_down 9 = .ok (.iconst 1, 1) := by decide +kernel
theorem dX8_down_10 : decode cX8_down 10 = .ok (.goto 4, 3) := by decide +kernel
theorem dX8_down_13 : decode cX8_down 13 = .ok (.iconst 0, 1) := by decide +kernel
theorem dX8_down_14 : decode cX8_down 14 = .ok (.putfield 66, 3) := by decide +kernel
theorem dX8_down_17 : decode cX8_down 17 = .ok (.aload_n 0, 1) := by decide +kernel
theorem dX8_down_18 : decode cX8_down 18 = .ok (.getfield 66, 3) := by decide +kernel
theorem dX8_down_21 : decode cX8_down 21 = .ok (.ifCond .le 5, 3) := by decide +kernel
theorem dX8_down_24 : decode cX8_down 24 = .ok (.iconst 0, 1) := by decide +kernel
theorem dX8_down_25 : decode cX8_down 25 = .ok (.ireturn, 1) := by decide +kernel
theorem dX8_down_26 : decode cX8_down 26 = .ok (.aload_n 0, 1) := by decide +kernel
theorem dX8_down_27 : decode cX8_down 27 = .ok (.iload_n 1, 1) := by decide +kernel
theorem dX8_down_28 : decode cX8_down 28 = .ok (.putfield 193, 3) := by decide +kernel
theorem dX8_down_31 : decode cX8_down 31 = .ok (.aload_n 0, 1) := by decide +kernel
theorem dX8_down_32 : decode cX8_down 32 = .ok (.iload_n 1, 1) := by decide +kernel
theorem dX8_down_33 : decode cX8_down 33 = .ok (.ifCond .eq 10, 3) := by decide +kernel
theorem dX8_down_36 : decode cX8_down 36 = .ok (.aload_n 0, 1) := by decide +kernel
theorem dX8_down_37 : decode cX8_down 37 = .ok (.getfield 173, 3) := by decide +kernel
theorem dX8_down_40 : decode cX8_down 40 = .ok (.goto 7, 3) := by decide +kernel
theorem dX8_down_43 : decode cX8_down 43 = .ok (.aload_n 0, 1) := by decide +kernel
theorem dX8_down_44 : decode cX8_down 44 = .ok (.getfield 214, 3) := by decide +kernel
theorem dX8_down_47 : decode cX8_down 47 = .ok (.putfield 214, 3) := by decide +kernel
theorem dX8_down_50 : decode cX8_down 50 = .ok (.iload_n 1, 1) := by decide +kernel
theorem dX8_down_51 : decode cX8_down 51 = .ok (.ifCond .eq 7, 3) := by decide +kernel
theorem dX8_down_54 : decode cX8_down 54 = .ok (.iconst 0, 1) := by decide +kernel
theorem dX8_down_55 : decode cX8_down 55 = .ok (.goto 7, 3) := by decide +kernel
theorem dX8_down_58 : decode cX8_down 58 = .ok (.aload_n 0, 1) := by decide +kernel
theorem dX8_down_59 : decode cX8_down 59 = .ok (.invokevirtual 217, 3) := by decide +kernel
theorem dX8_down_62 : decode cX8_down 62 = .ok (.ireturn, 1) := by decide +kernel
theorem dX8_now_0 : decode cX8_now 0 = .ok (.aload_n 0, 1) := by decide +kernel
theorem dX8_now_1 : decode cX8_now 1 = .ok (.iconst 0, 1) := by decide +kernel
theorem dX8_now_2 : decode cX8_now 2 = .ok (.putfield 66, 3) := by decide +kernel
theorem dX8_now_5 : decode cX8_now 5 = .ok (.aload_n 0, 1) := by decide +kernel
theorem dX8_now_6 : decode cX8_now 6 = .ok (.getfield 173, 3) := by decide +kernel
theorem dX8_now_9 : decode cX8_now 9 = .ok (.ireturn, 1) := by decide +kernel
theorem dX8_state_0 : decode cX8_state 0 = .ok (.aload_n 0, 1) := by decide +kernel
theorem dX8_state_1 : decode cX8_state 1 = .ok (.iconst 0, 1) := by decide +kernel
theorem dX8_state_2 : decode cX8_state 2 = .ok (.putfield 66, 3) := by decide +kernel
theorem dX8_state_5 : decode cX8_state 5 = .ok (.aload_n 0, 1) := by decide +kernel
theorem dX8_state_6 : decode cX8_state 6 = .ok (.iload_n 1, 1) := by decide +kernel
theorem dX8_state_7 : decode cX8_state 7 = .ok (.iload_n 2, 1) := by decide +kernel
theorem dX8_state_8 : decode cX8_state 8 = .ok (.invokevirtual 207, 3) := by decide +kernel
theorem dX8_state_11 : decode cX8_state 11 = .ok (.ifCond .eq 17, 3) := by decide +kernel
theorem dX8_state_14 : decode cX8_state 14 = .ok (.aload_n 0, 1) := by decide +kernel
theorem dX8_state_15 : decode cX8_state 15 = .ok (.getfield 54, 3) := by decide +kernel
theorem dX8_state_18 : decode cX8_state 18 = .ok (.bipush 6, 2) := by decide +kernel
theorem dX8_state_20 : decode cX8_state 20 = .ok (.iload_n 1, 1) := by decide +kernel
theorem dX8_state_21 : decode cX8_state 21 = .ok (.imul, 1) := by decide +kernel
theorem dX8_state_22 : decode cX8_state 22 = .ok (.iload_n 2, 1) := by decide +kernel
theorem dX8_state_23 : decode cX8_state 23 = .ok (.iadd, 1) := by decide +kernel
theorem dX8_state_24 : decode cX8_state 24 = .ok (.iaload, 1) := by decide +kernel
theorem dX8_state_25 : decode cX8_state 25 = .ok (.goto 4, 3) := by decide +kernel
theorem dX8_state_28 : decode cX8_state 28 = .ok (.iconst (-1), 1) := by decide +kernel
theorem dX8_state_29 : decode cX8_state 29 = .ok (.ireturn, 1) := by decide +kernel
theorem dX8_count_0 : decode cX8_count 0 = .ok (.aload_n 0, 1) := by decide +kernel
theorem dX8_count_1 : decode cX8_count 1 = .ok (.iconst 0, 1) := by decide +kernel
theorem dX8_count_2 : decode cX8_count 2 = .ok (.putfield 66, 3) := by decide +kernel
theorem dX8_count_5 : decode cX8_count 5 = .ok (.iload_n 2, 1) := by decide +kernel
theorem dX8_count_6 : decode cX8_count 6 = .ok (.iconst 4, 1) := by decide +kernel
theorem dX8_count_7 : decode cX8_count 7 = .ok (.if_icmp .ne 8, 3) := by decide +kernel
theorem dX8_count_10 : decode cX8_count 10 = .ok (.aload_n 0, 1) := by decide +kernel
theorem dX8_count_11 : decode cX8_count 11 = .ok (.invokevirtual 186, 3) := by decide +kernel
theorem dX8_count_14 : decode cX8_count 14 = .ok (.ireturn, 1) := by decide +kernel
theorem dX8_count_15 : decode cX8_count 15 = .ok (.aload_n 0, 1) := by decide +kernel
theorem dX8_count_16 : decode cX8_count 16 = .ok (.iload_n 1, 1) := by decide +kernel
theorem dX8_count_17 : decode cX8_count 17 = .ok (.invokevirtual 157, 3) := by decide +kernel
theorem dX8_count_20 : decode cX8_count 20 = .ok (.ifCond .eq 12, 3) := by decide +kernel
theorem dX8_count_23 : decode cX8_count 23 = .ok (.iload_n 2, 1) := by decide +kernel
theorem dX8_count_24 : decode cX8_count 24 = .ok (.ifCond .lt 8, 3) := by decide +kernel
theorem dX8_count_27 : decode cX8_count 27 = .ok (.iload_n 2, 1) := by decide +kernel
theorem dX8_count_28 : decode cX8_count 28 = .ok (.iconst 3, 1) := by decide +kernel
theorem dX8_count_29 : decode cX8_count 29 = .ok (.if_icmp .le 5, 3) := by decide +kernel
theorem dX8_count_32 : decode cX8_count 32 = .ok (.iconst (-1), 1) := by decide +kernel
theorem dX8_count_33 : decode cX8_count 33 = .ok (.ireturn, 1) := by decide +kernel
theorem dX8_count_34 : decode cX8_count 34 = .ok (.iload_n 2, 1) := by decide +kernel
theorem dX8_count_35 : decode cX8_count 35 = .ok (.ifCond .ne 12, 3) := by decide +kernel
theorem dX8_count_38 : decode cX8_count 38 = .ok (.aload_n 0, 1) := by decide +kernel
theorem dX8_count_39 : decode cX8_count 39 = .ok (.getfield 36, 3) := by decide +kernel
theorem dX8_count_42 : decode cX8_count 42 = .ok (.iload_n 1, 1) := by decide +kernel
theorem dX8_count_43 : decode cX8_count 43 = .ok (.iaload, 1) := by decide +kernel
theorem dX8_count_44 : decode cX8_count 44 = .ok (.goto 45, 3) := by decide +kernel
theorem dX8_count_47 : decode cX8_count 47 = .ok (.iload_n 2, 1) := by decide +kernel
theorem dX8_count_48 : decode cX8_count 48 = .ok (.iconst 1, 1) := by decide +kernel
theorem dX8_count_49 : decode cX8_count 49 = .ok (.if_icmp .ne 12, 3) := by decide +kernel
theorem dX8_count_52 : decode cX8_count 52 = .ok (.aload_n 0, 1) := by decide +kernel
theorem dX8_count_53 : decode cX8_count 53 = .ok (.getfield 39, 3) := by decide +kernel
theorem dX8_count_56 : decode cX8_count 56 = .ok (.iload_n 1, 1) := by decide +kernel
theorem dX8_count_57 : decode cX8_count 57 = .ok (.iaload, 1) := by decide +kernel
theorem dX8_count_58 : decode cX8_count 58 = .ok (.goto 31, 3) := by decide +kernel
theorem dX8_count_61 : decode cX8_count 61 = .ok (.iload_n 2, 1) := by decide +kernel
theorem dX8_count_62 : decode cX8_count 62 = .ok (.iconst 2, 1) := by decide +kernel
theorem dX8_count_63 : decode cX8_count 63 = .ok (.if_icmp .ne 20, 3) := by decide +kernel
theorem dX8_count_66 : decode cX8_count 66 = .ok (.aload_n 0, 1) := by decide +kernel
theorem dX8_count_67 : decode cX8_count 67 = .ok (.getfield 32, 3) := by decide +kernel
theorem dX8_count_70 : decode cX8_count 70 = .ok (.iload_n 1, 1) := by decide +kernel
theorem dX8_count_71 : decode cX8_count 71 = .ok (.baload, 1) := by decide +kernel
theorem dX8_count_72 : decode cX8_count 72 = .ok (.ifCond .eq 7, 3) := by decide +kernel
theorem dX8_count_75 : decode cX8_count 75 = .ok (.iconst 1, 1) := by decide +kernel
theorem dX8_count_76 : decode cX8_count 76 = .ok (.goto 13, 3) := by decide +kernel
theorem dX8_count_79 : decode cX8_count 79 = .ok (.iconst 0, 1) := by decide +kernel
theorem dX8_count_80 : decode cX8_count 80 = .ok (.goto 9, 3) := by decide +kernel
theorem dX8_count_83 : decode cX8_count 83 = .ok (.aload_n 0, 1) := by decide +kernel
theorem dX8_count_84 : decode cX8_count 84 = .ok (.getfield 29, 3) := by decide +kernel
theorem dX8_count_87 : decode cX8_count 87 = .ok (.iload_n 1, 1) := by decide +kernel
theorem dX8_count_88 : decode cX8_count 88 = .ok (.iaload, 1) := by decide +kernel
theorem dX8_count_89 : decode cX8_count 89 = .ok (.ireturn, 1) := by decide +kernel
theorem dX8_entries_0 : decode cX8_entries 0 = .ok (.aload_n 0, 1) := by decide +kernel
theorem dX8_entries_1 : decode cX8_entries 1 = .ok (.iconst 0, 1) := by decide +kernel
theorem dX8_entries_2 : decode cX8_entries 2 = .ok (.putfield 66, 3) := by decide +kernel
theorem dX8_entries_5 : decode cX8_entries 5 = .ok (.aload_n 0, 1) := by decide +kernel
theorem dX8_entries_6 : decode cX8_entries 6 = .ok (.getfield 170, 3) := by decide +kernel
theorem dX8_entries_9 : decode cX8_entries 9 = .ok (.ireturn, 1) := by decide +kernel
theorem dX8_entry_0 : decode cX8_entry 0 = .ok (.aload_n 0, 1) := by decide +kernel
theorem dX8_entry_1 : decode cX8_entry 1 = .ok (.iload_n 1, 1) := by decide +kernel
theorem dX8_entry_2 : decode cX8_entry 2 = .ok (.ifCond .lt 26, 3) := by decide +kernel
theorem dX8_entry_5 : decode cX8_entry 5 = .ok (.iload_n 1, 1) := by decide +kernel
theorem dX8_entry_6 : decode cX8_entry 6 = .ok (.bipush 63, 2) := by decide +kernel
theorem dX8_entry_8 : decode cX8_entry 8 = .ok (.if_icmp .gt 20, 3) := by decide +kernel
theorem dX8_entry_11 : decode cX8_entry 11 = .ok (.iload_n 1, 1) := by decide +kernel
theorem dX8_entry_12 : decode cX8_entry 12 = .ok (.aload_n 0, 1) := by decide +kernel
theorem dX8_entry_13 : decode cX8_entry 13 = .ok (.getfield 170, 3) := by decide +kernel
theorem dX8_entry_16 : decode cX8_entry 16 = .ok (.if_icmp .ge 12, 3) := by decide +kernel
theorem dX8_entry_19 : decode cX8_entry 19 = .ok (.iload_n 2, 1) := by decide +kernel
theorem dX8_entry_20 : decode cX8_entry 20 = .ok (.ifCond .lt 8, 3) := by decide +kernel
theorem dX8_entry_23 : decode cX8_entry 23 = .ok (.iload_n 2, 1) := by decide +kernel
theorem dX8_entry_24 : decode cX8_entry 24 = .ok (.iconst 3, 1) := by decide +kernel
theorem dX8_entry_25 : decode cX8_entry 25 = .ok (.if_icmp .le 7, 3) := by decide +kernel
theorem dX8_entry_28 : decode cX8_entry 28 = .ok (.iconst 1, 1) := by decide +kernel
theorem dX8_entry_29 : decode cX8_entry 29 = .ok (.goto 4, 3) := by decide +kernel
theorem dX8_entry_32 : decode cX8_entry 32 = .ok (.iconst 0, 1) := by decide +kernel
theorem dX8_entry_33 : decode cX8_entry 33 = .ok (.putfield 66, 3) := by decide +kernel
theorem dX8_entry_36 : decode cX8_entry 36 = .ok (.aload_n 0, 1) := by decide +kernel
theorem dX8_entry_37 : decode cX8_entry 37 = .ok (.getfield 66, 3) := by decide +kernel
theorem dX8_entry_40 : decode cX8_entry 40 = .ok (.ifCond .le 7, 3) := by decide +kernel
theorem dX8_entry_43 : decode cX8_entry 43 = .ok (.iconst 0, 1) := by decide +kernel
theorem dX8_entry_44 : decode cX8_entry 44 = .ok (.goto 23, 3) := by decide +kernel
theorem dX8_entry_47 : decode cX8_entry 47 = .ok (.aload_n 0, 1) := by decide +kernel
theorem dX8_entry_48 : decode cX8_entry 48 = .ok (.getfield 63, 3) := by decide +kernel
theorem dX8_entry_51 : decode cX8_entry 51 = .ok (.iconst 4, 1) := by decide +kernel
theorem dX8_entry_52 : decode cX8_entry 52 = .ok (.aload_n 0, 1) := by decide +kernel
theorem dX8_entry_53 : decode cX8_entry 53 = .ok (.getfield 170, 3) := by decide +kernel
theorem dX8_entry_56 : decode cX8_entry 56 = .ok (.iconst 1, 1) := by decide +kernel
theorem dX8_entry_57 : decode cX8_entry 57 = .ok (.isub, 1) := by decide +kernel
theorem dX8_entry_58 : decode cX8_entry 58 = .ok (.iload_n 1, 1) := by decide +kernel
theorem dX8_entry_59 : decode cX8_entry 59 = .ok (.isub, 1) := by decide +kernel
theorem dX8_entry_60 : decode cX8_entry 60 = .ok (.bipush 64, 2) := by decide +kernel
theorem dX8_entry_62 : decode cX8_entry 62 = .ok (.irem, 1) := by decide +kernel
theorem dX8_entry_63 : decode cX8_entry 63 = .ok (.imul, 1) := by decide +kernel
theorem dX8_entry_64 : decode cX8_entry 64 = .ok (.iload_n 2, 1) := by decide +kernel
theorem dX8_entry_65 : decode cX8_entry 65 = .ok (.iadd, 1) := by decide +kernel
theorem dX8_entry_66 : decode cX8_entry 66 = .ok (.iaload, 1) := by decide +kernel
theorem dX8_entry_67 : decode cX8_entry 67 = .ok (.ireturn, 1) := by decide +kernel
