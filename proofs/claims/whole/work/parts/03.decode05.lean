theorem d_M_settle_94 : decode b_M_settle 94 = .ok (.iload_n 2, 1) := by decide +kernel
theorem d_M_settle_95 : decode b_M_settle 95 = .ok (.iaload, 1) := by decide +kernel
theorem d_M_settle_96 : decode b_M_settle 96 = .ok (.ifCond .lt 31, 3) := by decide +kernel
theorem d_M_settle_99 : decode b_M_settle 99 = .ok (.aload_n 0, 1) := by decide +kernel
theorem d_M_settle_100 : decode b_M_settle 100 = .ok (.getfield 42, 3) := by decide +kernel
theorem d_M_settle_103 : decode b_M_settle 103 = .ok (.aload_n 0, 1) := by decide +kernel
theorem d_M_settle_104 : decode b_M_settle 104 = .ok (.getfield 45, 3) := by decide +kernel
theorem d_M_settle_107 : decode b_M_settle 107 = .ok (.iload_n 2, 1) := by decide +kernel
theorem d_M_settle_108 : decode b_M_settle 108 = .ok (.iaload, 1) := by decide +kernel
theorem d_M_settle_109 : decode b_M_settle 109 = .ok (.baload, 1) := by decide +kernel
theorem d_M_settle_110 : decode b_M_settle 110 = .ok (.ifCond .ne 17, 3) := by decide +kernel
theorem d_M_settle_113 : decode b_M_settle 113 = .ok (.aload_n 0, 1) := by decide +kernel
theorem d_M_settle_114 : decode b_M_settle 114 = .ok (.aload_n 0, 1) := by decide +kernel
theorem d_M_settle_115 : decode b_M_settle 115 = .ok (.getfield 45, 3) := by decide +kernel
theorem d_M_settle_118 : decode b_M_settle 118 = .ok (.iload_n 2, 1) := by decide +kernel
theorem d_M_settle_119 : decode b_M_settle 119 = .ok (.iaload, 1) := by decide +kernel
theorem d_M_settle_120 : decode b_M_settle 120 = .ok (.iconst (-1), 1) := by decide +kernel
theorem d_M_settle_121 : decode b_M_settle 121 = .ok (.invokevirtual 93, 3) := by decide +kernel
theorem d_M_settle_124 : decode b_M_settle 124 = .ok (.goto 9, 3) := by decide +kernel
theorem d_M_settle_127 : decode b_M_settle 127 = .ok (.aload_n 0, 1) := by decide +kernel
theorem d_M_settle_128 : decode b_M_settle 128 = .ok (.getfield 45, 3) := by decide +kernel
theorem d_M_settle_131 : decode b_M_settle 131 = .ok (.iload_n 2, 1) := by decide +kernel
theorem d_M_settle_132 : decode b_M_settle 132 = .ok (.iaload, 1) := by decide +kernel
theorem d_M_settle_133 : decode b_M_settle 133 = .ok (.iastore, 1) := by decide +kernel
theorem d_M_settle_134 : decode b_M_settle 134 = .ok (.iinc 2 1, 3) := by decide +kernel
theorem d_M_settle_137 : decode b_M_settle 137 = .ok (.goto (-64), 3) := by decide +kernel
theorem d_M_settle_140 : decode b_M_settle 140 = .ok (.aload_n 0, 1) := by decide +kernel
theorem d_M_settle_141 : decode b_M_settle 141 = .ok (.aload_n 0, 1) := by decide +kernel
theorem d_M_settle_142 : decode b_M_settle 142 = .ok (.getfield 77, 3) := by decide +kernel
theorem d_M_settle_145 : decode b_M_settle 145 = .ok (.ifCond .ne 27, 3) := by decide +kernel
theorem d_M_settle_148 : decode b_M_settle 148 = .ok (.aload_n 0, 1) := by decide +kernel
theorem d_M_settle_149 : decode b_M_settle 149 = .ok (.getfield 42, 3) := by decide +kernel
theorem d_M_settle_152 : decode b_M_settle 152 = .ok (.aload_n 0, 1) := by decide +kernel
theorem d_M_settle_153 : decode b_M_settle 153 = .ok (.getfield 65, 3) := by decide +kernel
theorem d_M_settle_156 : decode b_M_settle 156 = .ok (.baload, 1) := by decide +kernel
theorem d_M_settle_157 : decode b_M_settle 157 = .ok (.ifCond .ne 15, 3) := by decide +kernel
theorem d_M_settle_160 : decode b_M_settle 160 = .ok (.aload_n 0, 1) := by decide +kernel
theorem d_M_settle_161 : decode b_M_settle 161 = .ok (.aload_n 0, 1) := by decide +kernel
theorem d_M_settle_162 : decode b_M_settle 162 = .ok (.getfield 65, 3) := by decide +kernel
theorem d_M_settle_165 : decode b_M_settle 165 = .ok (.iconst (-1), 1) := by decide +kernel
theorem d_M_settle_166 : decode b_M_settle 166 = .ok (.invokevirtual 93, 3) := by decide +kernel
theorem d_M_settle_169 : decode b_M_settle 169 = .ok (.goto 7, 3) := by decide +kernel
theorem d_M_settle_172 : decode b_M_settle 172 = .ok (.aload_n 0, 1) := by decide +kernel
theorem d_M_settle_173 : decode b_M_settle 173 = .ok (.getfield 65, 3) := by decide +kernel
theorem d_M_settle_176 : decode b_M_settle 176 = .ok (.putfield 65, 3) := by decide +kernel
theorem d_M_settle_179 : decode b_M_settle 179 = .ok (.return_, 1) := by decide +kernel
theorem d_M_loose_0 : decode b_M_loose 0 = .ok (.iconst 1, 1) := by decide +kernel
theorem d_M_loose_1 : decode b_M_loose 1 = .ok (.istore_n 1, 1) := by decide +kernel
theorem d_M_loose_2 : decode b_M_loose 2 = .ok (.iload_n 1, 1) := by decide +kernel
theorem d_M_loose_3 : decode b_M_loose 3 = .ok (.aload_n 0, 1) := by decide +kernel
theorem d_M_loose_4 : decode b_M_loose 4 = .ok (.getfield 51, 3) := by decide +kernel
theorem d_M_loose_7 : decode b_M_loose 7 = .ok (.if_icmp .ge 34, 3) := by decide +kernel
theorem d_M_loose_10 : decode b_M_loose 10 = .ok (.aload_n 0, 1) := by decide +kernel
theorem d_M_loose_11 : decode b_M_loose 11 = .ok (.getfield 42, 3) := by decide +kernel
theorem d_M_loose_14 : decode b_M_loose 14 = .ok (.iload_n 1, 1) := by decide +kernel
theorem d_M_loose_15 : decode b_M_loose 15 = .ok (.baload, 1) := by decide +kernel
theorem d_M_loose_16 : decode b_M_loose 16 = .ok (.ifCond .eq 19, 3) := by decide +kernel
theorem d_M_loose_19 : decode b_M_loose 19 = .ok (.aload_n 0, 1) := by decide +kernel
theorem d_M_loose_20 : decode b_M_loose 20 = .ok (.getfield 42, 3) := by decide +kernel
theorem d_M_loose_23 : decode b_M_loose 23 = .ok (.aload_n 0, 1) := by decide +kernel
theorem d_M_loose_24 : decode b_M_loose 24 = .ok (.getfield 13, 3) := by decide +kernel
theorem d_M_loose_27 : decode b_M_loose 27 = .ok (.iload_n 1, 1) := by decide +kernel
theorem d_M_loose_28 : decode b_M_loose 28 = .ok (.iaload, 1) := by decide +kernel
theorem d_M_loose_29 : decode b_M_loose 29 = .ok (.baload, 1) := by decide +kernel
theorem d_M_loose_30 : decode b_M_loose 30 = .ok (.ifCond .ne 5, 3) := by decide +kernel
theorem d_M_loose_33 : decode b_M_loose 33 = .ok (.iload_n 1, 1) := by decide +kernel
theorem d_M_loose_34 : decode b_M_loose 34 = .ok (.ireturn, 1) := by decide +kernel
theorem d_M_loose_35 : decode b_M_loose 35 = .ok (.iinc 1 1, 3) := by decide +kernel
theorem d_M_loose_38 : decode b_M_loose 38 = .ok (.goto (-36), 3) := by decide +kernel
theorem d_M_loose_41 : decode b_M_loose 41 = .ok (.iconst (-1), 1) := by decide +kernel
theorem d_M_loose_42 : decode b_M_loose 42 = .ok (.ireturn, 1) := by decide +kernel
theorem d_M_place_0 : decode b_M_place 0 = .ok (.iload_n 1, 1) := by decide +kernel
theorem d_M_place_1 : decode b_M_place 1 = .ok (.istore_n 3, 1) := by decide +kernel
theorem d_M_place_2 : decode b_M_place 2 = .ok (.iconst 0, 1) := by decide +kernel
theorem d_M_place_3 : decode b_M_place 3 = .ok (.istore 4, 2) := by decide +kernel
theorem d_M_place_5 : decode b_M_place 5 = .ok (.iload 4, 2) := by decide +kernel
theorem d_M_place_7 : decode b_M_place 7 = .ok (.sipush 400, 3) := by decide +kernel
theorem d_M_place_10 : decode b_M_place 10 = .ok (.if_icmp .ge 70, 3) := by decide +kernel
theorem d_M_place_13 : decode b_M_place 13 = .ok (.aload_n 0, 1) := by decide +kernel
theorem d_M_place_14 : decode b_M_place 14 = .ok (.getfield 42, 3) := by decide +kernel
theorem d_M_place_17 : decode b_M_place 17 = .ok (.iload_n 3, 1) := by decide +kernel
theorem d_M_place_18 : decode b_M_place 18 = .ok (.baload, 1) := by decide +kernel
theorem d_M_place_19 : decode b_M_place 19 = .ok (.ifCond .eq 5, 3) := by decide +kernel
theorem d_M_place_22 : decode b_M_place 22 = .ok (.iload_n 3, 1) := by decide +kernel
theorem d_M_place_23 : decode b_M_place 23 = .ok (.ireturn, 1) := by decide +kernel
theorem d_M_place_24 : decode b_M_place 24 = .ok (.aload_n 0, 1) := by decide +kernel
theorem d_M_place_25 : decode b_M_place 25 = .ok (.iload_n 3, 1) := by decide +kernel
theorem d_M_place_26 : decode b_M_place 26 = .ok (.iload_n 2, 1) := by decide +kernel
theorem d_M_place_27 : decode b_M_place 27 = .ok (.invokevirtual 85, 3) := by decide +kernel
theorem d_M_place_30 : decode b_M_place 30 = .ok (.istore 5, 2) := by decide +kernel
theorem d_M_place_32 : decode b_M_place 32 = .ok (.aload_n 0, 1) := by decide +kernel
theorem d_M_place_33 : decode b_M_place 33 = .ok (.getfield 48, 3) := by decide +kernel
theorem d_M_place_36 : decode b_M_place 36 = .ok (.iload_n 3, 1) := by decide +kernel
theorem d_M_place_37 : decode b_M_place 37 = .ok (.iaload, 1) := by decide +kernel
theorem d_M_place_38 : decode b_M_place 38 = .ok (.ifCond .ge 11, 3) := by decide +kernel
theorem d_M_place_41 : decode b_M_place 41 = .ok (.iload 5, 2) := by decide +kernel
theorem d_M_place_43 : decode b_M_place 43 = .ok (.ifCond .lt 6, 3) := by decide +kernel
theorem d_M_place_46 : decode b_M_place 46 = .ok (.iload 5, 2) := by decide +kernel
theorem d_M_place_48 : decode b_M_place 48 = .ok (.ireturn, 1) := by decide +kernel
theorem d_M_place_49 : decode b_M_place 49 = .ok (.aload_n 0, 1) := by decide +kernel
theorem d_M_place_50 : decode b_M_place 50 = .ok (.getfield 48, 3) := by decide +kernel
theorem d_M_place_53 : decode b_M_place 53 = .ok (.iload_n 3, 1) := by decide +kernel
theorem d_M_place_54 : decode b_M_place 54 = .ok (.iaload, 1) := by decide +kernel
theorem d_M_place_55 : decode b_M_place 55 = .ok (.ifCond .lt 12, 3) := by decide +kernel
theorem d_M_place_58 : decode b_M_place 58 = .ok (.aload_n 0, 1) := by decide +kernel
theorem d_M_place_59 : decode b_M_place 59 = .ok (.getfield 48, 3) := by decide +kernel
theorem d_M_place_62 : decode b_M_place 62 = .ok (.iload_n 3, 1) := by decide +kernel
theorem d_M_place_63 : decode b_M_place 63 = .ok (.iaload, 1) := by decide +kernel
theorem d_M_place_64 : decode b_M_place 64 = .ok (.goto 9, 3) := by decide +kernel
theorem d_M_place_67 : decode b_M_place 67 = .ok (.aload_n 0, 1) := by decide +kernel
theorem d_M_place_68 : decode b_M_place 68 = .ok (.getfield 13, 3) := by decide +kernel
theorem d_M_place_71 : decode b_M_place 71 = .ok (.iload_n 3, 1) := by decide +kernel
theorem d_M_place_72 : decode b_M_place 72 = .ok (.iaload, 1) := by decide +kernel
theorem d_M_place_73 : decode b_M_place 73 = .ok (.istore_n 3, 1) := by decide +kernel
theorem d_M_place_74 : decode b_M_place 74 = .ok (.iinc 4 1, 3) := by decide +kernel
theorem d_M_place_77 : decode b_M_place 77 = .ok (.goto (-72), 3) := by decide +kernel
theorem d_M_place_80 : decode b_M_place 80 = .ok (.iconst 0, 1) := by decide +kernel
theorem d_M_place_81 : decode b_M_place 81 = .ok (.ireturn, 1) := by decide +kernel
theorem d_M_sameChange_0 : decode b_M_sameChange 0 = .ok (.iconst (-1), 1) := by decide +kernel
theorem d_M_sameChange_1 : decode b_M_sameChange 1 = .ok (.istore_n 3, 1) := by decide +kernel
theorem d_M_sameChange_2 : decode b_M_sameChange 2 = .ok (.iconst 0, 1) := by decide +kernel
theorem d_M_sameChange_3 : decode b_M_sameChange 3 = .ok (.istore 4, 2) := by decide +kernel
theorem d_M_sameChange_5 : decode b_M_sameChange 5 = .ok (.iload 4, 2) := by decide +kernel
theorem d_M_sameChange_7 : decode b_M_sameChange 7 = .ok (.aload_n 0, 1) := by decide +kernel
theorem d_M_sameChange_8 : decode b_M_sameChange 8 = .ok (.getfield 51, 3) := by decide +kernel
theorem d_M_sameChange_11 : decode b_M_sameChange 11 = .ok (.if_icmp .ge 56, 3) := by decide +kernel
theorem d_M_sameChange_14 : decode b_M_sameChange 14 = .ok (.aload_n 0, 1) := by decide +kernel
theorem d_M_sameChange_15 : decode b_M_sameChange 15 = .ok (.getfield 42, 3) := by decide +kernel
theorem d_M_sameChange_18 : decode b_M_sameChange 18 = .ok (.iload 4, 2) := by decide +kernel
theorem d_M_sameChange_20 : decode b_M_sameChange 20 = .ok (.baload, 1) := by decide +kernel
theorem d_M_sameChange_21 : decode b_M_sameChange 21 = .ok (.ifCond .eq 38, 3) := by decide +kernel
theorem d_M_sameChange_24 : decode b_M_sameChange 24 = .ok (.aload_n 0, 1) := by decide +kernel
theorem d_M_sameChange_25 : decode b_M_sameChange 25 = .ok (.getfield 7, 3) := by decide +kernel
theorem d_M_sameChange_28 : decode b_M_sameChange 28 = .ok (.iload 4, 2) := by decide +kernel
theorem d_M_sameChange_30 : decode b_M_sameChange 30 = .ok (.iaload, 1) := by decide +kernel
theorem d_M_sameChange_31 : decode b_M_sameChange 31 = .ok (.aload_n 0, 1) := by decide +kernel
theorem d_M_sameChange_32 : decode b_M_sameChange 32 = .ok (.getfield 7, 3) := by decide +kernel
theorem d_M_sameChange_35 : decode b_M_sameChange 35 = .ok (.iload_n 1, 1) := by decide +kernel
theorem d_M_sameChange_36 : decode b_M_sameChange 36 = .ok (.iaload, 1) := by decide +kernel
theorem d_M_sameChange_37 : decode b_M_sameChange 37 = .ok (.if_icmp .ne 22, 3) := by decide +kernel
theorem d_M_sameChange_40 : decode b_M_sameChange 40 = .ok (.iload_n 2, 1) := by decide +kernel
theorem d_M_sameChange_41 : decode b_M_sameChange 41 = .ok (.ifCond .lt 13, 3) := by decide +kernel
theorem d_M_sameChange_44 : decode b_M_sameChange 44 = .ok (.aload_n 0, 1) := by decide +kernel
theorem d_M_sameChange_45 : decode b_M_sameChange 45 = .ok (.iload 4, 2) := by decide +kernel
theorem d_M_sameChange_47 : decode b_M_sameChange 47 = .ok (.iload_n 2, 1) := by decide +kernel
theorem d_M_sameChange_48 : decode b_M_sameChange 48 = .ok (.invokevirtual 81, 3) := by decide +kernel
theorem d_M_sameChange_51 : decode b_M_sameChange 51 = .ok (.ifCond .ne 8, 3) := by decide +kernel
theorem d_M_sameChange_54 : decode b_M_sameChange 54 = .ok (.iload 4, 2) := by decide +kernel
theorem d_M_sameChange_56 : decode b_M_sameChange 56 = .ok (.goto 4, 3) := by decide +kernel
theorem d_M_sameChange_59 : decode b_M_sameChange 59 = .ok (.iload_n 3, 1) := by decide +kernel
theorem d_M_sameChange_60 : decode b_M_sameChange 60 = .ok (.istore_n 3, 1) := by decide +kernel
theorem d_M_sameChange_61 : decode b_M_sameChange 61 = .ok (.iinc 4 1, 3) := by decide +kernel
theorem d_M_sameChange_64 : decode b_M_sameChange 64 = .ok (.goto (-59), 3) := by decide +kernel
theorem d_M_sameChange_67 : decode b_M_sameChange 67 = .ok (.iload_n 3, 1) := by decide +kernel
theorem d_M_sameChange_68 : decode b_M_sameChange 68 = .ok (.ireturn, 1) := by decide +kernel
theorem d_M_comesOf_0 : decode b_M_comesOf 0 = .ok (.iload_n 1, 1) := by decide +kernel
theorem d_M_comesOf_1 : decode b_M_comesOf 1 = .ok (.istore_n 3, 1) := by decide +kernel
theorem d_M_comesOf_2 : decode b_M_comesOf 2 = .ok (.iload_n 3, 1) := by decide +kernel
theorem d_M_comesOf_3 : decode b_M_comesOf 3 = .ok (.iload_n 2, 1) := by decide +kernel
theorem d_M_comesOf_4 : decode b_M_comesOf 4 = .ok (.if_icmp .le 13, 3) := by decide +kernel
theorem d_M_comesOf_7 : decode b_M_comesOf 7 = .ok (.aload_n 0, 1) := by decide +kernel
theorem d_M_comesOf_8 : decode b_M_comesOf 8 = .ok (.getfield 13, 3) := by decide +kernel
theorem d_M_comesOf_11 : decode b_M_comesOf 11 = .ok (.iload_n 3, 1) := by decide +kernel
theorem d_M_comesOf_12 : decode b_M_comesOf 12 = .ok (.iaload, 1) := by decide +kernel
theorem d_M_comesOf_13 : decode b_M_comesOf 13 = .ok (.istore_n 3, 1) := by decide +kernel
theorem d_M_comesOf_14 : decode b_M_comesOf 14 = .ok (.goto (-12), 3) := by decide +kernel
theorem d_M_comesOf_17 : decode b_M_comesOf 17 = .ok (.iload_n 3, 1) := by decide +kernel
theorem d_M_comesOf_18 : decode b_M_comesOf 18 = .ok (.iload_n 2, 1) := by decide +kernel
theorem d_M_comesOf_19 : decode b_M_comesOf 19 = .ok (.if_icmp .ne 7, 3) := by decide +kernel
theorem d_M_comesOf_22 : decode b_M_comesOf 22 = .ok (.iconst 1, 1) := by decide +kernel
theorem d_M_comesOf_23 : decode b_M_comesOf 23 = .ok (.goto 4, 3) := by decide +kernel
theorem d_M_comesOf_26 : decode b_M_comesOf 26 = .ok (.iconst 0, 1) := by decide +kernel
theorem d_M_comesOf_27 : decode b_M_comesOf 27 = .ok (.ireturn, 1) := by decide +kernel
theorem d_M_mix_0 : decode b_M_mix 0 = .ok (.iconst 0, 1) := by decide +kernel
theorem d_M_mix_1 : decode b_M_mix 1 = .ok (.istore 5, 2) := by decide +kernel
theorem d_M_mix_3 : decode b_M_mix 3 = .ok (.iload 5, 2) := by decide +kernel
theorem d_M_mix_5 : decode b_M_mix 5 = .ok (.iconst 4, 1) := by decide +kernel
theorem d_M_mix_6 : decode b_M_mix 6 = .ok (.if_icmp .ge 144, 3) := by decide +kernel
theorem d_M_mix_9 : decode b_M_mix 9 = .ok (.iconst 0, 1) := by decide +kernel
theorem d_M_mix_10 : decode b_M_mix 10 = .ok (.istore 6, 2) := by decide +kernel
theorem d_M_mix_12 : decode b_M_mix 12 = .ok (.iconst 0, 1) := by decide +kernel
theorem d_M_mix_13 : decode b_M_mix 13 = .ok (.istore 7, 2) := by decide +kernel
theorem d_M_mix_15 : decode b_M_mix 15 = .ok (.iconst 0, 1) := by decide +kernel
theorem d_M_mix_16 : decode b_M_mix 16 = .ok (.istore 8, 2) := by decide +kernel
theorem d_M_mix_18 : decode b_M_mix 18 = .ok (.iload 8, 2) := by decide +kernel
theorem d_M_mix_20 : decode b_M_mix 20 = .ok (.bipush 8, 2) := by decide +kernel
theorem d_M_mix_22 : decode b_M_mix 22 = .ok (.if_icmp .ge 107, 3) := by decide +kernel
theorem d_M_mix_25 : decode b_M_mix 25 = .ok (.bipush 8, 2) := by decide +kernel
theorem d_M_mix_27 : decode b_M_mix 27 = .ok (.iload 5, 2) := by decide +kernel
theorem d_M_mix_29 : decode b_M_mix 29 = .ok (.imul, 1) := by decide +kernel
theorem d_M_mix_30 : decode b_M_mix 30 = .ok (.iload 8, 2) := by decide +kernel
theorem d_M_mix_32 : decode b_M_mix 32 = .ok (.iadd, 1) := by decide +kernel
theorem d_M_mix_33 : decode b_M_mix 33 = .ok (.istore 9, 2) := by decide +kernel
theorem d_M_mix_35 : decode b_M_mix 35 = .ok (.aload_n 0, 1) := by decide +kernel
theorem d_M_mix_36 : decode b_M_mix 36 = .ok (.getfield 16, 3) := by decide +kernel
theorem d_M_mix_39 : decode b_M_mix 39 = .ok (.bipush 32, 2) := by decide +kernel
theorem d_M_mix_41 : decode b_M_mix 41 = .ok (.iload_n 2, 1) := by decide +kernel
theorem d_M_mix_42 : decode b_M_mix 42 = .ok (.imul, 1) := by decide +kernel
theorem d_M_mix_43 : decode b_M_mix 43 = .ok (.iload 9, 2) := by decide +kernel
theorem d_M_mix_45 : decode b_M_mix 45 = .ok (.iadd, 1) := by decide +kernel
theorem d_M_mix_46 : decode b_M_mix 46 = .ok (.laload, 1) := by decide +kernel
theorem d_M_mix_47 : decode b_M_mix 47 = .ok (.aload_n 0, 1) := by decide +kernel
theorem d_M_mix_48 : decode b_M_mix 48 = .ok (.getfield 16, 3) := by decide +kernel
theorem d_M_mix_51 : decode b_M_mix 51 = .ok (.bipush 32, 2) := by decide +kernel
theorem d_M_mix_53 : decode b_M_mix 53 = .ok (.iload_n 3, 1) := by decide +kernel
theorem d_M_mix_54 : decode b_M_mix 54 = .ok (.imul, 1) := by decide +kernel
theorem d_M_mix_55 : decode b_M_mix 55 = .ok (.iload 9, 2) := by decide +kernel
theorem d_M_mix_57 : decode b_M_mix 57 = .ok (.iadd, 1) := by decide +kernel
theorem d_M_mix_58 : decode b_M_mix 58 = .ok (.laload, 1) := by decide +kernel
theorem d_M_mix_59 : decode b_M_mix 59 = .ok (.ladd, 1) := by decide +kernel
theorem d_M_mix_60 : decode b_M_mix 60 = .ok (.aload_n 0, 1) := by decide +kernel
theorem d_M_mix_61 : decode b_M_mix 61 = .ok (.getfield 16, 3) := by decide +kernel
theorem d_M_mix_64 : decode b_M_mix 64 = .ok (.bipush 32, 2) := by decide +kernel
theorem d_M_mix_66 : decode b_M_mix 66 = .ok (.iload 4, 2) := by decide +kernel
theorem d_M_mix_68 : decode b_M_mix 68 = .ok (.imul, 1) := by decide +kernel
theorem d_M_mix_69 : decode b_M_mix 69 = .ok (.iload 9, 2) := by decide +kernel
theorem d_M_mix_71 : decode b_M_mix 71 = .ok (.iadd, 1) := by decide +kernel
theorem d_M_mix_72 : decode b_M_mix 72 = .ok (.laload, 1) := by decide +kernel
theorem d_M_mix_73 : decode b_M_mix 73 = .ok (.lsub, 1) := by decide +kernel
theorem d_M_mix_74 : decode b_M_mix 74 = .ok (.lstore 10, 2) := by decide +kernel
theorem d_M_mix_76 : decode b_M_mix 76 = .ok (.aload_n 0, 1) := by decide +kernel
theorem d_M_mix_77 : decode b_M_mix 77 = .ok (.getfield 16, 3) := by decide +kernel
theorem d_M_mix_80 : decode b_M_mix 80 = .ok (.bipush 32, 2) := by decide +kernel
theorem d_M_mix_82 : decode b_M_mix 82 = .ok (.iload_n 1, 1) := by decide +kernel
theorem d_M_mix_83 : decode b_M_mix 83 = .ok (.imul, 1) := by decide +kernel
theorem d_M_mix_84 : decode b_M_mix 84 = .ok (.iload 9, 2) := by decide +kernel
theorem d_M_mix_86 : decode b_M_mix 86 = .ok (.iadd, 1) := by decide +kernel
theorem d_M_mix_87 : decode b_M_mix 87 = .ok (.lload 10, 2) := by decide +kernel
theorem d_M_mix_89 : decode b_M_mix 89 = .ok (.lastore, 1) := by decide +kernel
theorem d_M_mix_90 : decode b_M_mix 90 = .ok (.iload 6, 2) := by decide +kernel
theorem d_M_mix_92 : decode b_M_mix 92 = .ok (.lload 10, 2) := by decide +kernel
theorem d_M_mix_94 : decode b_M_mix 94 = .ok (.lconst 0, 1) := by decide +kernel
theorem d_M_mix_95 : decode b_M_mix 95 = .ok (.lcmp, 1) := by decide +kernel
theorem d_M_mix_96 : decode b_M_mix 96 = .ok (.ifCond .eq 7, 3) := by decide +kernel
theorem d_M_mix_99 : decode b_M_mix 99 = .ok (.iconst 1, 1) := by decide +kernel
theorem d_M_mix_100 : decode b_M_mix 100 = .ok (.goto 4, 3) := by decide +kernel
theorem d_M_mix_103 : decode b_M_mix 103 = .ok (.iconst 0, 1) := by decide +kernel
theorem d_M_mix_104 : decode b_M_mix 104 = .ok (.iadd, 1) := by decide +kernel
theorem d_M_mix_105 : decode b_M_mix 105 = .ok (.istore 6, 2) := by decide +kernel
theorem d_M_mix_107 : decode b_M_mix 107 = .ok (.lload 10, 2) := by decide +kernel
theorem d_M_mix_109 : decode b_M_mix 109 = .ok (.lconst 0, 1) := by decide +kernel
theorem d_M_mix_110 : decode b_M_mix 110 = .ok (.lcmp, 1) := by decide +kernel
theorem d_M_mix_111 : decode b_M_mix 111 = .ok (.ifCond .le 8, 3) := by decide +kernel
theorem d_M_mix_114 : decode b_M_mix 114 = .ok (.iload 8, 2) := by decide +kernel
theorem d_M_mix_116 : decode b_M_mix 116 = .ok (.goto 5, 3) := by decide +kernel
theorem d_M_mix_119 : decode b_M_mix 119 = .ok (.iload 7, 2) := by decide +kernel
theorem d_M_mix_121 : decode b_M_mix 121 = .ok (.istore 7, 2) := by decide +kernel
theorem d_M_mix_123 : decode b_M_mix 123 = .ok (.iinc 8 1, 3) := by decide +kernel
theorem d_M_mix_126 : decode b_M_mix 126 = .ok (.goto (-108), 3) := by decide +kernel
theorem d_M_mix_129 : decode b_M_mix 129 = .ok (.iload 6, 2) := by decide +kernel
theorem d_M_mix_131 : decode b_M_mix 131 = .ok (.iconst 2, 1) := by decide +kernel
theorem d_M_mix_132 : decode b_M_mix 132 = .ok (.if_icmp .ne 12, 3) := by decide +kernel
theorem d_M_mix_135 : decode b_M_mix 135 = .ok (.aload_n 0, 1) := by decide +kernel
theorem d_M_mix_136 : decode b_M_mix 136 = .ok (.iload_n 1, 1) := by decide +kernel
theorem d_M_mix_137 : decode b_M_mix 137 = .ok (.iload 5, 2) := by decide +kernel
theorem d_M_mix_139 : decode b_M_mix 139 = .ok (.iload 7, 2) := by decide +kernel
theorem d_M_mix_141 : decode b_M_mix 141 = .ok (.invokevirtual 61, 3) := by decide +kernel
theorem d_M_mix_144 : decode b_M_mix 144 = .ok (.iinc 5 1, 3) := by decide +kernel
theorem d_M_mix_147 : decode b_M_mix 147 = .ok (.goto (-144), 3) := by decide +kernel
theorem d_M_mix_150 : decode b_M_mix 150 = .ok (.return_, 1) := by decide +kernel
theorem d_M_rebase_0 : decode b_M_rebase 0 = .ok (.iload_n 1, 1) := by decide +kernel
theorem d_M_rebase_1 : decode b_M_rebase 1 = .ok (.ifCond .eq 36, 3) := by decide +kernel
theorem d_M_rebase_4 : decode b_M_rebase 4 = .ok (.aload_n 0, 1) := by decide +kernel
theorem d_M_rebase_5 : decode b_M_rebase 5 = .ok (.aload_n 0, 1) := by decide +kernel
theorem d_M_rebase_6 : decode b_M_rebase 6 = .ok (.invokevirtual 107, 3) := by decide +kernel
theorem d_M_rebase_9 : decode b_M_rebase 9 = .ok (.iload_n 1, 1) := by decide +kernel
theorem d_M_rebase_10 : decode b_M_rebase 10 = .ok (.invokevirtual 113, 3) := by decide +kernel
theorem d_M_rebase_13 : decode b_M_rebase 13 = .ok (.ifCond .eq 24, 3) := by decide +kernel
theorem d_M_rebase_16 : decode b_M_rebase 16 = .ok (.aload_n 0, 1) := by decide +kernel
theorem d_M_rebase_17 : decode b_M_rebase 17 = .ok (.aload_n 0, 1) := by decide +kernel
theorem d_M_rebase_18 : decode b_M_rebase 18 = .ok (.invokevirtual 107, 3) := by decide +kernel
theorem d_M_rebase_21 : decode b_M_rebase 21 = .ok (.iload_n 2, 1) := by decide +kernel
theorem d_M_rebase_22 : decode b_M_rebase 22 = .ok (.invokevirtual 113, 3) := by decide +kernel
theorem d_M_rebase_25 : decode b_M_rebase 25 = .ok (.ifCond .eq 12, 3) := by decide +kernel
theorem d_M_rebase_28 : decode b_M_rebase 28 = .ok (.aload_n 0, 1) := by decide +kernel
theorem d_M_rebase_29 : decode b_M_rebase 29 = .ok (.iload_n 2, 1) := by decide +kernel
theorem d_M_rebase_30 : decode b_M_rebase 30 = .ok (.iload_n 1, 1) := by decide +kernel
theorem d_M_rebase_31 : decode b_M_rebase 31 = .ok (.invokevirtual 81, 3) := by decide +kernel
theorem d_M_rebase_34 : decode b_M_rebase 34 = .ok (.ifCond .eq 5, 3) := by decide +kernel
theorem d_M_rebase_37 : decode b_M_rebase 37 = .ok (.iconst (-1), 1) := by decide +kernel
theorem d_M_rebase_38 : decode b_M_rebase 38 = .ok (.ireturn, 1) := by decide +kernel
theorem d_M_rebase_39 : decode b_M_rebase 39 = .ok (.aload_n 0, 1) := by decide +kernel
theorem d_M_rebase_40 : decode b_M_rebase 40 = .ok (.getfield 13, 3) := by decide +kernel
theorem d_M_rebase_43 : decode b_M_rebase 43 = .ok (.iload_n 1, 1) := by decide +kernel
theorem d_M_rebase_44 : decode b_M_rebase 44 = .ok (.iaload, 1) := by decide +kernel
theorem d_M_rebase_45 : decode b_M_rebase 45 = .ok (.iload_n 2, 1) := by decide +kernel
theorem d_M_rebase_46 : decode b_M_rebase 46 = .ok (.if_icmp .ne 6, 3) := by decide +kernel
theorem d_M_rebase_49 : decode b_M_rebase 49 = .ok (.bipush (-2), 2) := by decide +kernel
theorem d_M_rebase_51 : decode b_M_rebase 51 = .ok (.ireturn, 1) := by decide +kernel
theorem d_M_rebase_52 : decode b_M_rebase 52 = .ok (.aload_n 0, 1) := by decide +kernel
theorem d_M_rebase_53 : decode b_M_rebase 53 = .ok (.aload_n 0, 1) := by decide +kernel
theorem d_M_rebase_54 : decode b_M_rebase 54 = .ok (.invokevirtual 107, 3) := by decide +kernel
theorem d_M_rebase_57 : decode b_M_rebase 57 = .ok (.invokevirtual 116, 3) := by decide +kernel
theorem d_M_rebase_60 : decode b_M_rebase 60 = .ok (.aload_n 0, 1) := by decide +kernel
theorem d_M_rebase_61 : decode b_M_rebase 61 = .ok (.aload_n 0, 1) := by decide +kernel
theorem d_M_rebase_62 : decode b_M_rebase 62 = .ok (.getfield 7, 3) := by decide +kernel
theorem d_M_rebase_65 : decode b_M_rebase 65 = .ok (.iload_n 1, 1) := by decide +kernel
theorem d_M_rebase_66 : decode b_M_rebase 66 = .ok (.iaload, 1) := by decide +kernel
theorem d_M_rebase_67 : decode b_M_rebase 67 = .ok (.iload_n 2, 1) := by decide +kernel
theorem d_M_rebase_68 : decode b_M_rebase 68 = .ok (.invokevirtual 96, 3) := by decide +kernel
theorem d_M_rebase_71 : decode b_M_rebase 71 = .ok (.istore_n 3, 1) := by decide +kernel
theorem d_M_rebase_72 : decode b_M_rebase 72 = .ok (.iload_n 3, 1) := by decide +kernel
theorem d_M_rebase_73 : decode b_M_rebase 73 = .ok (.ifCond .lt 26, 3) := by decide +kernel
theorem d_M_rebase_76 : decode b_M_rebase 76 = .ok (.aload_n 0, 1) := by decide +kernel
theorem d_M_rebase_77 : decode b_M_rebase 77 = .ok (.iload_n 3, 1) := by decide +kernel
theorem d_M_rebase_78 : decode b_M_rebase 78 = .ok (.iload_n 1, 1) := by decide +kernel
theorem d_M_rebase_79 : decode b_M_rebase 79 = .ok (.iload_n 2, 1) := by decide +kernel
theorem d_M_rebase_80 : decode b_M_rebase 80 = .ok (.aload_n 0, 1) := by decide +kernel
theorem d_M_rebase_81 : decode b_M_rebase 81 = .ok (.getfield 13, 3) := by decide +kernel
theorem d_M_rebase_84 : decode b_M_rebase 84 = .ok (.iload_n 1, 1) := by decide +kernel
theorem d_M_rebase_85 : decode b_M_rebase 85 = .ok (.iaload, 1) := by decide +kernel
theorem d_M_rebase_86 : decode b_M_rebase 86 = .ok (.invokevirtual 99, 3) := by decide +kernel
theorem d_M_rebase_89 : decode b_M_rebase 89 = .ok (.aload_n 0, 1) := by decide +kernel
theorem d_M_rebase_90 : decode b_M_rebase 90 = .ok (.iload_n 1, 1) := by decide +kernel
theorem d_M_rebase_91 : decode b_M_rebase 91 = .ok (.iload_n 3, 1) := by decide +kernel
theorem d_M_rebase_92 : decode b_M_rebase 92 = .ok (.invokevirtual 103, 3) := by decide +kernel
theorem d_M_rebase_95 : decode b_M_rebase 95 = .ok (.aload_n 0, 1) := by decide +kernel
theorem d_M_rebase_96 : decode b_M_rebase 96 = .ok (.invokevirtual 130, 3) := by decide +kernel
theorem d_M_rebase_99 : decode b_M_rebase 99 = .ok (.aload_n 0, 1) := by decide +kernel
theorem d_M_rebase_100 : decode b_M_rebase 100 = .ok (.invokevirtual 123, 3) := by decide +kernel
theorem d_M_rebase_103 : decode b_M_rebase 103 = .ok (.ireturn, 1) := by decide +kernel
theorem d_M_abandon_0 : decode b_M_abandon 0 = .ok (.iload_n 1, 1) := by decide +kernel
theorem d_M_abandon_1 : decode b_M_abandon 1 = .ok (.ifCond .eq 15, 3) := by decide +kernel
theorem d_M_abandon_4 : decode b_M_abandon 4 = .ok (.aload_n 0, 1) := by decide +kernel
theorem d_M_abandon_5 : decode b_M_abandon 5 = .ok (.aload_n 0, 1) := by decide +kernel
theorem d_M_abandon_6 : decode b_M_abandon 6 = .ok (.invokevirtual 107, 3) := by decide +kernel
theorem d_M_abandon_9 : decode b_M_abandon 9 = .ok (.iload_n 1, 1) := by decide +kernel
theorem d_M_abandon_10 : decode b_M_abandon 10 = .ok (.invokevirtual 113, 3) := by decide +kernel
theorem d_M_abandon_13 : decode b_M_abandon 13 = .ok (.ifCond .ne 5, 3) := by decide +kernel
theorem d_M_abandon_16 : decode b_M_abandon 16 = .ok (.iconst (-1), 1) := by decide +kernel
theorem d_M_abandon_17 : decode b_M_abandon 17 = .ok (.ireturn, 1) := by decide +kernel
theorem d_M_abandon_18 : decode b_M_abandon 18 = .ok (.aload_n 0, 1) := by decide +kernel
theorem d_M_abandon_19 : decode b_M_abandon 19 = .ok (.aload_n 0, 1) := by decide +kernel
theorem d_M_abandon_20 : decode b_M_abandon 20 = .ok (.invokevirtual 107, 3) := by decide +kernel
theorem d_M_abandon_23 : decode b_M_abandon 23 = .ok (.invokevirtual 116, 3) := by decide +kernel
theorem d_M_abandon_26 : decode b_M_abandon 26 = .ok (.aload_n 0, 1) := by decide +kernel
theorem d_M_abandon_27 : decode b_M_abandon 27 = .ok (.iload_n 1, 1) := by decide +kernel
theorem d_M_abandon_28 : decode b_M_abandon 28 = .ok (.aload_n 0, 1) := by decide +kernel
theorem d_M_abandon_29 : decode b_M_abandon 29 = .ok (.getfield 13, 3) := by decide +kernel
theorem d_M_abandon_32 : decode b_M_abandon 32 = .ok (.iload_n 1, 1) := by decide +kernel
theorem d_M_abandon_33 : decode b_M_abandon 33 = .ok (.iaload, 1) := by decide +kernel
theorem d_M_abandon_34 : decode b_M_abandon 34 = .ok (.invokevirtual 103, 3) := by decide +kernel
theorem d_M_abandon_37 : decode b_M_abandon 37 = .ok (.aload_n 0, 1) := by decide +kernel
theorem d_M_abandon_38 : decode b_M_abandon 38 = .ok (.invokevirtual 130, 3) := by decide +kernel
theorem d_M_abandon_41 : decode b_M_abandon 41 = .ok (.aload_n 0, 1) := by decide +kernel
theorem d_M_abandon_42 : decode b_M_abandon 42 = .ok (.invokevirtual 123, 3) := by decide +kernel
theorem d_M_abandon_45 : decode b_M_abandon 45 = .ok (.ireturn, 1) := by decide +kernel
theorem d_M_squash_0 : decode b_M_squash 0 = .ok (.iload_n 1, 1) := by decide +kernel
theorem d_M_squash_1 : decode b_M_squash 1 = .ok (.ifCond .eq 24, 3) := by decide +kernel
theorem d_M_squash_4 : decode b_M_squash 4 = .ok (.aload_n 0, 1) := by decide +kernel
theorem d_M_squash_5 : decode b_M_squash 5 = .ok (.aload_n 0, 1) := by decide +kernel
theorem d_M_squash_6 : decode b_M_squash 6 = .ok (.invokevirtual 107, 3) := by decide +kernel
theorem d_M_squash_9 : decode b_M_squash 9 = .ok (.iload_n 1, 1) := by decide +kernel
theorem d_M_squash_10 : decode b_M_squash 10 = .ok (.invokevirtual 113, 3) := by decide +kernel
theorem d_M_squash_13 : decode b_M_squash 13 = .ok (.ifCond .eq 12, 3) := by decide +kernel
theorem d_M_squash_16 : decode b_M_squash 16 = .ok (.aload_n 0, 1) := by decide +kernel
theorem d_M_squash_17 : decode b_M_squash 17 = .ok (.getfield 13, 3) := by decide +kernel
theorem d_M_squash_20 : decode b_M_squash 20 = .ok (.iload_n 1, 1) := by decide +kernel
theorem d_M_squash_21 : decode b_M_squash 21 = .ok (.iaload, 1) := by decide +kernel
theorem d_M_squash_22 : decode b_M_squash 22 = .ok (.ifCond .ne 5, 3) := by decide +kernel
theorem d_M_squash_25 : decode b_M_squash 25 = .ok (.iconst (-1), 1) := by decide +kernel
theorem d_M_squash_26 : decode b_M_squash 26 = .ok (.ireturn, 1) := by decide +kernel
theorem d_M_squash_27 : decode b_M_squash 27 = .ok (.aload_n 0, 1) := by decide +kernel
theorem d_M_squash_28 : decode b_M_squash 28 = .ok (.getfield 13, 3) := by decide +kernel
theorem d_M_squash_31 : decode b_M_squash 31 = .ok (.iload_n 1, 1) := by decide +kernel
theorem d_M_squash_32 : decode b_M_squash 32 = .ok (.iaload, 1) := by decide +kernel
theorem d_M_squash_33 : decode b_M_squash 33 = .ok (.istore_n 2, 1) := by decide +kernel
theorem d_M_squash_34 : decode b_M_squash 34 = .ok (.aload_n 0, 1) := by decide +kernel
theorem d_M_squash_35 : decode b_M_squash 35 = .ok (.aload_n 0, 1) := by decide +kernel
theorem d_M_squash_36 : decode b_M_squash 36 = .ok (.invokevirtual 107, 3) := by decide +kernel
theorem d_M_squash_39 : decode b_M_squash 39 = .ok (.invokevirtual 116, 3) := by decide +kernel
theorem d_M_squash_42 : decode b_M_squash 42 = .ok (.aload_n 0, 1) := by decide +kernel
theorem d_M_squash_43 : decode b_M_squash 43 = .ok (.aload_n 0, 1) := by decide +kernel
theorem d_M_squash_44 : decode b_M_squash 44 = .ok (.getfield 7, 3) := by decide +kernel
theorem d_M_squash_47 : decode b_M_squash 47 = .ok (.iload_n 2, 1) := by decide +kernel
theorem d_M_squash_48 : decode b_M_squash 48 = .ok (.iaload, 1) := by decide +kernel
theorem d_M_squash_49 : decode b_M_squash 49 = .ok (.aload_n 0, 1) := by decide +kernel
theorem d_M_squash_50 : decode b_M_squash 50 = .ok (.getfield 13, 3) := by decide +kernel
theorem d_M_squash_53 : decode b_M_squash 53 = .ok (.iload_n 2, 1) := by decide +kernel
theorem d_M_squash_54 : decode b_M_squash 54 = .ok (.iaload, 1) := by decide +kernel
theorem d_M_squash_55 : decode b_M_squash 55 = .ok (.invokevirtual 96, 3) := by decide +kernel
theorem d_M_squash_58 : decode b_M_squash 58 = .ok (.istore_n 3, 1) := by decide +kernel
theorem d_M_squash_59 : decode b_M_squash 59 = .ok (.iload_n 3, 1) := by decide +kernel
theorem d_M_squash_60 : decode b_M_squash 60 = .ok (.ifCond .lt 25, 3) := by decide +kernel
theorem d_M_squash_63 : decode b_M_squash 63 = .ok (.aload_n 0, 1) := by decide +kernel
theorem d_M_squash_64 : decode b_M_squash 64 = .ok (.iload_n 3, 1) := by decide +kernel
theorem d_M_squash_65 : decode b_M_squash 65 = .ok (.iload_n 1, 1) := by decide +kernel
theorem d_M_squash_66 : decode b_M_squash 66 = .ok (.invokevirtual 120, 3) := by decide +kernel
theorem d_M_squash_69 : decode b_M_squash 69 = .ok (.aload_n 0, 1) := by decide +kernel
theorem d_M_squash_70 : decode b_M_squash 70 = .ok (.iload_n 1, 1) := by decide +kernel
theorem d_M_squash_71 : decode b_M_squash 71 = .ok (.iload_n 3, 1) := by decide +kernel
theorem d_M_squash_72 : decode b_M_squash 72 = .ok (.invokevirtual 103, 3) := by decide +kernel
theorem d_M_squash_75 : decode b_M_squash 75 = .ok (.aload_n 0, 1) := by decide +kernel
theorem d_M_squash_76 : decode b_M_squash 76 = .ok (.iload_n 2, 1) := by decide +kernel
theorem d_M_squash_77 : decode b_M_squash 77 = .ok (.iload_n 3, 1) := by decide +kernel
theorem d_M_squash_78 : decode b_M_squash 78 = .ok (.invokevirtual 103, 3) := by decide +kernel
theorem d_M_squash_81 : decode b_M_squash 81 = .ok (.aload_n 0, 1) := by decide +kernel
theorem d_M_squash_82 : decode b_M_squash 82 = .ok (.invokevirtual 130, 3) := by decide +kernel
theorem d_M_squash_85 : decode b_M_squash 85 = .ok (.aload_n 0, 1) := by decide +kernel
theorem d_M_squash_86 : decode b_M_squash 86 = .ok (.invokevirtual 123, 3) := by decide +kernel
theorem d_M_squash_89 : decode b_M_squash 89 = .ok (.ireturn, 1) := by decide +kernel
theorem d_M_edit_0 : decode b_M_edit 0 = .ok (.aload_n 0, 1) := by decide +kernel
theorem d_M_edit_1 : decode b_M_edit 1 = .ok (.aload_n 0, 1) := by decide +kernel
theorem d_M_edit_2 : decode b_M_edit 2 = .ok (.invokevirtual 107, 3) := by decide +kernel
theorem d_M_edit_5 : decode b_M_edit 5 = .ok (.iload_n 1, 1) := by decide +kernel
theorem d_M_edit_6 : decode b_M_edit 6 = .ok (.invokevirtual 113, 3) := by decide +kernel
theorem d_M_edit_9 : decode b_M_edit 9 = .ok (.ifCond .ne 5, 3) := by decide +kernel
theorem d_M_edit_12 : decode b_M_edit 12 = .ok (.iconst (-1), 1) := by decide +kernel
theorem d_M_edit_13 : decode b_M_edit 13 = .ok (.ireturn, 1) := by decide +kernel
theorem d_M_edit_14 : decode b_M_edit 14 = .ok (.aload_n 0, 1) := by decide +kernel
theorem d_M_edit_15 : decode b_M_edit 15 = .ok (.getfield 36, 3) := by decide +kernel
theorem d_M_edit_18 : decode b_M_edit 18 = .ok (.aload_n 0, 1) := by decide +kernel
theorem d_M_edit_19 : decode b_M_edit 19 = .ok (.invokevirtual 107, 3) := by decide +kernel
theorem d_M_edit_22 : decode b_M_edit 22 = .ok (.iaload, 1) := by decide +kernel
theorem d_M_edit_23 : decode b_M_edit 23 = .ok (.iload_n 1, 1) := by decide +kernel
theorem d_M_edit_24 : decode b_M_edit 24 = .ok (.if_icmp .ne 6, 3) := by decide +kernel
theorem d_M_edit_27 : decode b_M_edit 27 = .ok (.bipush (-2), 2) := by decide +kernel
theorem d_M_edit_29 : decode b_M_edit 29 = .ok (.ireturn, 1) := by decide +kernel
theorem d_M_edit_30 : decode b_M_edit 30 = .ok (.aload_n 0, 1) := by decide +kernel
theorem d_M_edit_31 : decode b_M_edit 31 = .ok (.aload_n 0, 1) := by decide +kernel
theorem d_M_edit_32 : decode b_M_edit 32 = .ok (.invokevirtual 107, 3) := by decide +kernel
theorem d_M_edit_35 : decode b_M_edit 35 = .ok (.invokevirtual 116, 3) := by decide +kernel
theorem d_M_edit_38 : decode b_M_edit 38 = .ok (.aload_n 0, 1) := by decide +kernel
theorem d_M_edit_39 : decode b_M_edit 39 = .ok (.iload_n 1, 1) := by decide +kernel
theorem d_M_edit_40 : decode b_M_edit 40 = .ok (.putfield 65, 3) := by decide +kernel
theorem d_M_edit_43 : decode b_M_edit 43 = .ok (.aload_n 0, 1) := by decide +kernel
theorem d_M_edit_44 : decode b_M_edit 44 = .ok (.invokevirtual 123, 3) := by decide +kernel
theorem d_M_edit_47 : decode b_M_edit 47 = .ok (.ireturn, 1) := by decide +kernel
theorem d_M_mark_0 : decode b_M_mark 0 = .ok (.iload_n 1, 1) := by decide +kernel
theorem d_M_mark_1 : decode b_M_mark 1 = .ok (.ifCond .lt 25, 3) := by decide +kernel
theorem d_M_mark_4 : decode b_M_mark 4 = .ok (.iload_n 1, 1) := by decide +kernel
theorem d_M_mark_5 : decode b_M_mark 5 = .ok (.iconst 2, 1) := by decide +kernel
theorem d_M_mark_6 : decode b_M_mark 6 = .ok (.if_icmp .gt 20, 3) := by decide +kernel
theorem d_M_mark_9 : decode b_M_mark 9 = .ok (.iload_n 2, 1) := by decide +kernel
theorem d_M_mark_10 : decode b_M_mark 10 = .ok (.iconst (-1), 1) := by decide +kernel
theorem d_M_mark_11 : decode b_M_mark 11 = .ok (.if_icmp .eq 17, 3) := by decide +kernel
theorem d_M_mark_14 : decode b_M_mark 14 = .ok (.aload_n 0, 1) := by decide +kernel
theorem d_M_mark_15 : decode b_M_mark 15 = .ok (.aload_n 0, 1) := by decide +kernel
theorem d_M_mark_16 : decode b_M_mark 16 = .ok (.invokevirtual 107, 3) := by decide +kernel
theorem d_M_mark_19 : decode b_M_mark 19 = .ok (.iload_n 2, 1) := by decide +kernel
theorem d_M_mark_20 : decode b_M_mark 20 = .ok (.invokevirtual 113, 3) := by decide +kernel
theorem d_M_mark_23 : decode b_M_mark 23 = .ok (.ifCond .ne 5, 3) := by decide +kernel
theorem d_M_mark_26 : decode b_M_mark 26 = .ok (.iconst (-1), 1) := by decide +kernel
theorem d_M_mark_27 : decode b_M_mark 27 = .ok (.ireturn, 1) := by decide +kernel
theorem d_M_mark_28 : decode b_M_mark 28 = .ok (.aload_n 0, 1) := by decide +kernel
theorem d_M_mark_29 : decode b_M_mark 29 = .ok (.getfield 33, 3) := by decide +kernel
theorem d_M_mark_32 : decode b_M_mark 32 = .ok (.iconst 3, 1) := by decide +kernel
theorem d_M_mark_33 : decode b_M_mark 33 = .ok (.aload_n 0, 1) := by decide +kernel
theorem d_M_mark_34 : decode b_M_mark 34 = .ok (.invokevirtual 107, 3) := by decide +kernel
theorem d_M_mark_37 : decode b_M_mark 37 = .ok (.imul, 1) := by decide +kernel
