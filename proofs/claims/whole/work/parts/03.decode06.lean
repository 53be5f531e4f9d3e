theorem d_M_mark_38 : decode b_M_mark 38 = .ok (.iload_n 1, 1) := by decide +kernel
theorem d_M_mark_39 : decode b_M_mark 39 = .ok (.iadd, 1) := by decide +kernel
theorem d_M_mark_40 : decode b_M_mark 40 = .ok (.iaload, 1) := by decide +kernel
theorem d_M_mark_41 : decode b_M_mark 41 = .ok (.iload_n 2, 1) := by decide +kernel
theorem d_M_mark_42 : decode b_M_mark 42 = .ok (.if_icmp .ne 6, 3) := by decide +kernel
theorem d_M_mark_45 : decode b_M_mark 45 = .ok (.bipush (-2), 2) := by decide +kernel
theorem d_M_mark_47 : decode b_M_mark 47 = .ok (.ireturn, 1) := by decide +kernel
theorem d_M_mark_48 : decode b_M_mark 48 = .ok (.aload_n 0, 1) := by decide +kernel
theorem d_M_mark_49 : decode b_M_mark 49 = .ok (.aload_n 0, 1) := by decide +kernel
theorem d_M_mark_50 : decode b_M_mark 50 = .ok (.invokevirtual 107, 3) := by decide +kernel
theorem d_M_mark_53 : decode b_M_mark 53 = .ok (.invokevirtual 116, 3) := by decide +kernel
theorem d_M_mark_56 : decode b_M_mark 56 = .ok (.aload_n 0, 1) := by decide +kernel
theorem d_M_mark_57 : decode b_M_mark 57 = .ok (.getfield 45, 3) := by decide +kernel
theorem d_M_mark_60 : decode b_M_mark 60 = .ok (.iload_n 1, 1) := by decide +kernel
theorem d_M_mark_61 : decode b_M_mark 61 = .ok (.iload_n 2, 1) := by decide +kernel
theorem d_M_mark_62 : decode b_M_mark 62 = .ok (.iastore, 1) := by decide +kernel
theorem d_M_mark_63 : decode b_M_mark 63 = .ok (.aload_n 0, 1) := by decide +kernel
theorem d_M_mark_64 : decode b_M_mark 64 = .ok (.invokevirtual 123, 3) := by decide +kernel
theorem d_M_mark_67 : decode b_M_mark 67 = .ok (.ireturn, 1) := by decide +kernel
theorem d_M_undo_0 : decode b_M_undo 0 = .ok (.aload_n 0, 1) := by decide +kernel
theorem d_M_undo_1 : decode b_M_undo 1 = .ok (.invokevirtual 107, 3) := by decide +kernel
theorem d_M_undo_4 : decode b_M_undo 4 = .ok (.istore_n 1, 1) := by decide +kernel
theorem d_M_undo_5 : decode b_M_undo 5 = .ok (.iload_n 1, 1) := by decide +kernel
theorem d_M_undo_6 : decode b_M_undo 6 = .ok (.ifCond .eq 12, 3) := by decide +kernel
theorem d_M_undo_9 : decode b_M_undo 9 = .ok (.aload_n 0, 1) := by decide +kernel
theorem d_M_undo_10 : decode b_M_undo 10 = .ok (.getfield 26, 3) := by decide +kernel
theorem d_M_undo_13 : decode b_M_undo 13 = .ok (.iload_n 1, 1) := by decide +kernel
theorem d_M_undo_14 : decode b_M_undo 14 = .ok (.baload, 1) := by decide +kernel
theorem d_M_undo_15 : decode b_M_undo 15 = .ok (.ifCond .eq 5, 3) := by decide +kernel
theorem d_M_undo_18 : decode b_M_undo 18 = .ok (.iconst (-1), 1) := by decide +kernel
theorem d_M_undo_19 : decode b_M_undo 19 = .ok (.ireturn, 1) := by decide +kernel
theorem d_M_undo_20 : decode b_M_undo 20 = .ok (.aload_n 0, 1) := by decide +kernel
theorem d_M_undo_21 : decode b_M_undo 21 = .ok (.aload_n 0, 1) := by decide +kernel
theorem d_M_undo_22 : decode b_M_undo 22 = .ok (.getfield 20, 3) := by decide +kernel
theorem d_M_undo_25 : decode b_M_undo 25 = .ok (.iload_n 1, 1) := by decide +kernel
theorem d_M_undo_26 : decode b_M_undo 26 = .ok (.iaload, 1) := by decide +kernel
theorem d_M_undo_27 : decode b_M_undo 27 = .ok (.invokevirtual 116, 3) := by decide +kernel
theorem d_M_undo_30 : decode b_M_undo 30 = .ok (.aload_n 0, 1) := by decide +kernel
theorem d_M_undo_31 : decode b_M_undo 31 = .ok (.invokevirtual 123, 3) := by decide +kernel
theorem d_M_undo_34 : decode b_M_undo 34 = .ok (.ireturn, 1) := by decide +kernel
theorem d_M_restore_0 : decode b_M_restore 0 = .ok (.iload_n 1, 1) := by decide +kernel
theorem d_M_restore_1 : decode b_M_restore 1 = .ok (.ifCond .lt 11, 3) := by decide +kernel
theorem d_M_restore_4 : decode b_M_restore 4 = .ok (.iload_n 1, 1) := by decide +kernel
theorem d_M_restore_5 : decode b_M_restore 5 = .ok (.aload_n 0, 1) := by decide +kernel
theorem d_M_restore_6 : decode b_M_restore 6 = .ok (.getfield 55, 3) := by decide +kernel
theorem d_M_restore_9 : decode b_M_restore 9 = .ok (.if_icmp .lt 5, 3) := by decide +kernel
theorem d_M_restore_12 : decode b_M_restore 12 = .ok (.iconst (-1), 1) := by decide +kernel
theorem d_M_restore_13 : decode b_M_restore 13 = .ok (.ireturn, 1) := by decide +kernel
theorem d_M_restore_14 : decode b_M_restore 14 = .ok (.aload_n 0, 1) := by decide +kernel
theorem d_M_restore_15 : decode b_M_restore 15 = .ok (.iload_n 1, 1) := by decide +kernel
theorem d_M_restore_16 : decode b_M_restore 16 = .ok (.invokevirtual 116, 3) := by decide +kernel
theorem d_M_restore_19 : decode b_M_restore 19 = .ok (.aload_n 0, 1) := by decide +kernel
theorem d_M_restore_20 : decode b_M_restore 20 = .ok (.invokevirtual 123, 3) := by decide +kernel
theorem d_M_restore_23 : decode b_M_restore 23 = .ok (.ireturn, 1) := by decide +kernel
theorem d_M_fork_0 : decode b_M_fork 0 = .ok (.aload_n 0, 1) := by decide +kernel
theorem d_M_fork_1 : decode b_M_fork 1 = .ok (.getfield 133, 3) := by decide +kernel
theorem d_M_fork_4 : decode b_M_fork 4 = .ok (.ifCond .ne 15, 3) := by decide +kernel
theorem d_M_fork_7 : decode b_M_fork 7 = .ok (.iload_n 1, 1) := by decide +kernel
theorem d_M_fork_8 : decode b_M_fork 8 = .ok (.ifCond .lt 11, 3) := by decide +kernel
theorem d_M_fork_11 : decode b_M_fork 11 = .ok (.iload_n 1, 1) := by decide +kernel
theorem d_M_fork_12 : decode b_M_fork 12 = .ok (.aload_n 0, 1) := by decide +kernel
theorem d_M_fork_13 : decode b_M_fork 13 = .ok (.getfield 55, 3) := by decide +kernel
theorem d_M_fork_16 : decode b_M_fork 16 = .ok (.if_icmp .lt 5, 3) := by decide +kernel
theorem d_M_fork_19 : decode b_M_fork 19 = .ok (.iconst 0, 1) := by decide +kernel
theorem d_M_fork_20 : decode b_M_fork 20 = .ok (.ireturn, 1) := by decide +kernel
theorem d_M_fork_21 : decode b_M_fork 21 = .ok (.aload_n 0, 1) := by decide +kernel
theorem d_M_fork_22 : decode b_M_fork 22 = .ok (.iconst 1, 1) := by decide +kernel
theorem d_M_fork_23 : decode b_M_fork 23 = .ok (.putfield 133, 3) := by decide +kernel
theorem d_M_fork_26 : decode b_M_fork 26 = .ok (.aload_n 0, 1) := by decide +kernel
theorem d_M_fork_27 : decode b_M_fork 27 = .ok (.iload_n 1, 1) := by decide +kernel
theorem d_M_fork_28 : decode b_M_fork 28 = .ok (.putfield 136, 3) := by decide +kernel
theorem d_M_fork_31 : decode b_M_fork 31 = .ok (.aload_n 0, 1) := by decide +kernel
theorem d_M_fork_32 : decode b_M_fork 32 = .ok (.getfield 39, 3) := by decide +kernel
theorem d_M_fork_35 : decode b_M_fork 35 = .ok (.iconst 1, 1) := by decide +kernel
theorem d_M_fork_36 : decode b_M_fork 36 = .ok (.iload_n 1, 1) := by decide +kernel
theorem d_M_fork_37 : decode b_M_fork 37 = .ok (.iastore, 1) := by decide +kernel
theorem d_M_fork_38 : decode b_M_fork 38 = .ok (.aload_n 0, 1) := by decide +kernel
theorem d_M_fork_39 : decode b_M_fork 39 = .ok (.iconst 1, 1) := by decide +kernel
theorem d_M_fork_40 : decode b_M_fork 40 = .ok (.putfield 58, 3) := by decide +kernel
theorem d_M_fork_43 : decode b_M_fork 43 = .ok (.iconst 1, 1) := by decide +kernel
theorem d_M_fork_44 : decode b_M_fork 44 = .ok (.ireturn, 1) := by decide +kernel
theorem d_M_choose_0 : decode b_M_choose 0 = .ok (.iload_n 1, 1) := by decide +kernel
theorem d_M_choose_1 : decode b_M_choose 1 = .ok (.ifCond .eq 17, 3) := by decide +kernel
theorem d_M_choose_4 : decode b_M_choose 4 = .ok (.iload_n 1, 1) := by decide +kernel
theorem d_M_choose_5 : decode b_M_choose 5 = .ok (.iconst 1, 1) := by decide +kernel
theorem d_M_choose_6 : decode b_M_choose 6 = .ok (.if_icmp .ne 10, 3) := by decide +kernel
theorem d_M_choose_9 : decode b_M_choose 9 = .ok (.aload_n 0, 1) := by decide +kernel
theorem d_M_choose_10 : decode b_M_choose 10 = .ok (.getfield 133, 3) := by decide +kernel
theorem d_M_choose_13 : decode b_M_choose 13 = .ok (.ifCond .ne 5, 3) := by decide +kernel
theorem d_M_choose_16 : decode b_M_choose 16 = .ok (.iconst 0, 1) := by decide +kernel
theorem d_M_choose_17 : decode b_M_choose 17 = .ok (.ireturn, 1) := by decide +kernel
theorem d_M_choose_18 : decode b_M_choose 18 = .ok (.aload_n 0, 1) := by decide +kernel
theorem d_M_choose_19 : decode b_M_choose 19 = .ok (.iload_n 1, 1) := by decide +kernel
theorem d_M_choose_20 : decode b_M_choose 20 = .ok (.putfield 58, 3) := by decide +kernel
theorem d_M_choose_23 : decode b_M_choose 23 = .ok (.iconst 1, 1) := by decide +kernel
theorem d_M_choose_24 : decode b_M_choose 24 = .ok (.ireturn, 1) := by decide +kernel
theorem d_M_join_0 : decode b_M_join 0 = .ok (.aload_n 0, 1) := by decide +kernel
theorem d_M_join_1 : decode b_M_join 1 = .ok (.getfield 133, 3) := by decide +kernel
theorem d_M_join_4 : decode b_M_join 4 = .ok (.ifCond .ne 5, 3) := by decide +kernel
theorem d_M_join_7 : decode b_M_join 7 = .ok (.iconst (-1), 1) := by decide +kernel
theorem d_M_join_8 : decode b_M_join 8 = .ok (.ireturn, 1) := by decide +kernel
theorem d_M_join_9 : decode b_M_join 9 = .ok (.aload_n 0, 1) := by decide +kernel
theorem d_M_join_10 : decode b_M_join 10 = .ok (.getfield 39, 3) := by decide +kernel
theorem d_M_join_13 : decode b_M_join 13 = .ok (.iconst 0, 1) := by decide +kernel
theorem d_M_join_14 : decode b_M_join 14 = .ok (.iaload, 1) := by decide +kernel
theorem d_M_join_15 : decode b_M_join 15 = .ok (.istore_n 1, 1) := by decide +kernel
theorem d_M_join_16 : decode b_M_join 16 = .ok (.aload_n 0, 1) := by decide +kernel
theorem d_M_join_17 : decode b_M_join 17 = .ok (.getfield 39, 3) := by decide +kernel
theorem d_M_join_20 : decode b_M_join 20 = .ok (.iconst 1, 1) := by decide +kernel
theorem d_M_join_21 : decode b_M_join 21 = .ok (.iaload, 1) := by decide +kernel
theorem d_M_join_22 : decode b_M_join 22 = .ok (.istore_n 2, 1) := by decide +kernel
theorem d_M_join_23 : decode b_M_join 23 = .ok (.aload_n 0, 1) := by decide +kernel
theorem d_M_join_24 : decode b_M_join 24 = .ok (.iload_n 1, 1) := by decide +kernel
theorem d_M_join_25 : decode b_M_join 25 = .ok (.invokevirtual 116, 3) := by decide +kernel
theorem d_M_join_28 : decode b_M_join 28 = .ok (.iconst 0, 1) := by decide +kernel
theorem d_M_join_29 : decode b_M_join 29 = .ok (.istore_n 3, 1) := by decide +kernel
theorem d_M_join_30 : decode b_M_join 30 = .ok (.iload_n 3, 1) := by decide +kernel
theorem d_M_join_31 : decode b_M_join 31 = .ok (.bipush 60, 2) := by decide +kernel
theorem d_M_join_33 : decode b_M_join 33 = .ok (.if_icmp .ge 87, 3) := by decide +kernel
theorem d_M_join_36 : decode b_M_join 36 = .ok (.aload_n 0, 1) := by decide +kernel
theorem d_M_join_37 : decode b_M_join 37 = .ok (.getfield 30, 3) := by decide +kernel
theorem d_M_join_40 : decode b_M_join 40 = .ok (.bipush 60, 2) := by decide +kernel
theorem d_M_join_42 : decode b_M_join 42 = .ok (.aload_n 0, 1) := by decide +kernel
theorem d_M_join_43 : decode b_M_join 43 = .ok (.getfield 136, 3) := by decide +kernel
theorem d_M_join_46 : decode b_M_join 46 = .ok (.imul, 1) := by decide +kernel
theorem d_M_join_47 : decode b_M_join 47 = .ok (.iload_n 3, 1) := by decide +kernel
theorem d_M_join_48 : decode b_M_join 48 = .ok (.iadd, 1) := by decide +kernel
theorem d_M_join_49 : decode b_M_join 49 = .ok (.baload, 1) := by decide +kernel
theorem d_M_join_50 : decode b_M_join 50 = .ok (.istore 4, 2) := by decide +kernel
theorem d_M_join_52 : decode b_M_join 52 = .ok (.aload_n 0, 1) := by decide +kernel
theorem d_M_join_53 : decode b_M_join 53 = .ok (.getfield 30, 3) := by decide +kernel
theorem d_M_join_56 : decode b_M_join 56 = .ok (.bipush 60, 2) := by decide +kernel
theorem d_M_join_58 : decode b_M_join 58 = .ok (.iload_n 1, 1) := by decide +kernel
theorem d_M_join_59 : decode b_M_join 59 = .ok (.imul, 1) := by decide +kernel
theorem d_M_join_60 : decode b_M_join 60 = .ok (.iload_n 3, 1) := by decide +kernel
theorem d_M_join_61 : decode b_M_join 61 = .ok (.iadd, 1) := by decide +kernel
theorem d_M_join_62 : decode b_M_join 62 = .ok (.baload, 1) := by decide +kernel
theorem d_M_join_63 : decode b_M_join 63 = .ok (.istore 5, 2) := by decide +kernel
theorem d_M_join_65 : decode b_M_join 65 = .ok (.aload_n 0, 1) := by decide +kernel
theorem d_M_join_66 : decode b_M_join 66 = .ok (.getfield 30, 3) := by decide +kernel
theorem d_M_join_69 : decode b_M_join 69 = .ok (.bipush 60, 2) := by decide +kernel
theorem d_M_join_71 : decode b_M_join 71 = .ok (.iload_n 2, 1) := by decide +kernel
theorem d_M_join_72 : decode b_M_join 72 = .ok (.imul, 1) := by decide +kernel
theorem d_M_join_73 : decode b_M_join 73 = .ok (.iload_n 3, 1) := by decide +kernel
theorem d_M_join_74 : decode b_M_join 74 = .ok (.iadd, 1) := by decide +kernel
theorem d_M_join_75 : decode b_M_join 75 = .ok (.baload, 1) := by decide +kernel
theorem d_M_join_76 : decode b_M_join 76 = .ok (.istore 6, 2) := by decide +kernel
theorem d_M_join_78 : decode b_M_join 78 = .ok (.aload_n 0, 1) := by decide +kernel
theorem d_M_join_79 : decode b_M_join 79 = .ok (.getfield 42, 3) := by decide +kernel
theorem d_M_join_82 : decode b_M_join 82 = .ok (.iload_n 3, 1) := by decide +kernel
theorem d_M_join_83 : decode b_M_join 83 = .ok (.iload 5, 2) := by decide +kernel
theorem d_M_join_85 : decode b_M_join 85 = .ok (.ifCond .eq 8, 3) := by decide +kernel
theorem d_M_join_88 : decode b_M_join 88 = .ok (.iload 6, 2) := by decide +kernel
theorem d_M_join_90 : decode b_M_join 90 = .ok (.ifCond .ne 18, 3) := by decide +kernel
theorem d_M_join_93 : decode b_M_join 93 = .ok (.iload 5, 2) := by decide +kernel
theorem d_M_join_95 : decode b_M_join 95 = .ok (.ifCond .ne 8, 3) := by decide +kernel
theorem d_M_join_98 : decode b_M_join 98 = .ok (.iload 6, 2) := by decide +kernel
theorem d_M_join_100 : decode b_M_join 100 = .ok (.ifCond .eq 12, 3) := by decide +kernel
theorem d_M_join_103 : decode b_M_join 103 = .ok (.iload 4, 2) := by decide +kernel
theorem d_M_join_105 : decode b_M_join 105 = .ok (.ifCond .ne 7, 3) := by decide +kernel
theorem d_M_join_108 : decode b_M_join 108 = .ok (.iconst 1, 1) := by decide +kernel
theorem d_M_join_109 : decode b_M_join 109 = .ok (.goto 4, 3) := by decide +kernel
theorem d_M_join_112 : decode b_M_join 112 = .ok (.iconst 0, 1) := by decide +kernel
theorem d_M_join_113 : decode b_M_join 113 = .ok (.bastore, 1) := by decide +kernel
theorem d_M_join_114 : decode b_M_join 114 = .ok (.iinc 3 1, 3) := by decide +kernel
theorem d_M_join_117 : decode b_M_join 117 = .ok (.goto (-87), 3) := by decide +kernel
theorem d_M_join_120 : decode b_M_join 120 = .ok (.iconst 0, 1) := by decide +kernel
theorem d_M_join_121 : decode b_M_join 121 = .ok (.istore_n 3, 1) := by decide +kernel
theorem d_M_join_122 : decode b_M_join 122 = .ok (.iload_n 3, 1) := by decide +kernel
theorem d_M_join_123 : decode b_M_join 123 = .ok (.iconst 3, 1) := by decide +kernel
theorem d_M_join_124 : decode b_M_join 124 = .ok (.if_icmp .ge 51, 3) := by decide +kernel
theorem d_M_join_127 : decode b_M_join 127 = .ok (.aload_n 0, 1) := by decide +kernel
theorem d_M_join_128 : decode b_M_join 128 = .ok (.getfield 45, 3) := by decide +kernel
theorem d_M_join_131 : decode b_M_join 131 = .ok (.iload_n 3, 1) := by decide +kernel
theorem d_M_join_132 : decode b_M_join 132 = .ok (.aload_n 0, 1) := by decide +kernel
theorem d_M_join_133 : decode b_M_join 133 = .ok (.getfield 33, 3) := by decide +kernel
theorem d_M_join_136 : decode b_M_join 136 = .ok (.iconst 3, 1) := by decide +kernel
theorem d_M_join_137 : decode b_M_join 137 = .ok (.aload_n 0, 1) := by decide +kernel
theorem d_M_join_138 : decode b_M_join 138 = .ok (.getfield 136, 3) := by decide +kernel
theorem d_M_join_141 : decode b_M_join 141 = .ok (.imul, 1) := by decide +kernel
theorem d_M_join_142 : decode b_M_join 142 = .ok (.iload_n 3, 1) := by decide +kernel
theorem d_M_join_143 : decode b_M_join 143 = .ok (.iadd, 1) := by decide +kernel
theorem d_M_join_144 : decode b_M_join 144 = .ok (.iaload, 1) := by decide +kernel
theorem d_M_join_145 : decode b_M_join 145 = .ok (.aload_n 0, 1) := by decide +kernel
theorem d_M_join_146 : decode b_M_join 146 = .ok (.getfield 33, 3) := by decide +kernel
theorem d_M_join_149 : decode b_M_join 149 = .ok (.iconst 3, 1) := by decide +kernel
theorem d_M_join_150 : decode b_M_join 150 = .ok (.iload_n 1, 1) := by decide +kernel
theorem d_M_join_151 : decode b_M_join 151 = .ok (.imul, 1) := by decide +kernel
theorem d_M_join_152 : decode b_M_join 152 = .ok (.iload_n 3, 1) := by decide +kernel
theorem d_M_join_153 : decode b_M_join 153 = .ok (.iadd, 1) := by decide +kernel
theorem d_M_join_154 : decode b_M_join 154 = .ok (.iaload, 1) := by decide +kernel
theorem d_M_join_155 : decode b_M_join 155 = .ok (.aload_n 0, 1) := by decide +kernel
theorem d_M_join_156 : decode b_M_join 156 = .ok (.getfield 33, 3) := by decide +kernel
theorem d_M_join_159 : decode b_M_join 159 = .ok (.iconst 3, 1) := by decide +kernel
theorem d_M_join_160 : decode b_M_join 160 = .ok (.iload_n 2, 1) := by decide +kernel
theorem d_M_join_161 : decode b_M_join 161 = .ok (.imul, 1) := by decide +kernel
theorem d_M_join_162 : decode b_M_join 162 = .ok (.iload_n 3, 1) := by decide +kernel
theorem d_M_join_163 : decode b_M_join 163 = .ok (.iadd, 1) := by decide +kernel
theorem d_M_join_164 : decode b_M_join 164 = .ok (.iaload, 1) := by decide +kernel
theorem d_M_join_165 : decode b_M_join 165 = .ok (.invokestatic 139, 3) := by decide +kernel
theorem d_M_join_168 : decode b_M_join 168 = .ok (.iastore, 1) := by decide +kernel
theorem d_M_join_169 : decode b_M_join 169 = .ok (.iinc 3 1, 3) := by decide +kernel
theorem d_M_join_172 : decode b_M_join 172 = .ok (.goto (-50), 3) := by decide +kernel
theorem d_M_join_175 : decode b_M_join 175 = .ok (.aload_n 0, 1) := by decide +kernel
theorem d_M_join_176 : decode b_M_join 176 = .ok (.aload_n 0, 1) := by decide +kernel
theorem d_M_join_177 : decode b_M_join 177 = .ok (.getfield 36, 3) := by decide +kernel
theorem d_M_join_180 : decode b_M_join 180 = .ok (.iload_n 1, 1) := by decide +kernel
theorem d_M_join_181 : decode b_M_join 181 = .ok (.iaload, 1) := by decide +kernel
theorem d_M_join_182 : decode b_M_join 182 = .ok (.aload_n 0, 1) := by decide +kernel
theorem d_M_join_183 : decode b_M_join 183 = .ok (.getfield 36, 3) := by decide +kernel
theorem d_M_join_186 : decode b_M_join 186 = .ok (.aload_n 0, 1) := by decide +kernel
theorem d_M_join_187 : decode b_M_join 187 = .ok (.getfield 136, 3) := by decide +kernel
theorem d_M_join_190 : decode b_M_join 190 = .ok (.iaload, 1) := by decide +kernel
theorem d_M_join_191 : decode b_M_join 191 = .ok (.if_icmp .ne 12, 3) := by decide +kernel
theorem d_M_join_194 : decode b_M_join 194 = .ok (.aload_n 0, 1) := by decide +kernel
theorem d_M_join_195 : decode b_M_join 195 = .ok (.getfield 36, 3) := by decide +kernel
theorem d_M_join_198 : decode b_M_join 198 = .ok (.iload_n 2, 1) := by decide +kernel
theorem d_M_join_199 : decode b_M_join 199 = .ok (.iaload, 1) := by decide +kernel
theorem d_M_join_200 : decode b_M_join 200 = .ok (.goto 9, 3) := by decide +kernel
theorem d_M_join_203 : decode b_M_join 203 = .ok (.aload_n 0, 1) := by decide +kernel
theorem d_M_join_204 : decode b_M_join 204 = .ok (.getfield 36, 3) := by decide +kernel
theorem d_M_join_207 : decode b_M_join 207 = .ok (.iload_n 1, 1) := by decide +kernel
theorem d_M_join_208 : decode b_M_join 208 = .ok (.iaload, 1) := by decide +kernel
theorem d_M_join_209 : decode b_M_join 209 = .ok (.putfield 65, 3) := by decide +kernel
theorem d_M_join_212 : decode b_M_join 212 = .ok (.aload_n 0, 1) := by decide +kernel
theorem d_M_join_213 : decode b_M_join 213 = .ok (.invokevirtual 130, 3) := by decide +kernel
theorem d_M_join_216 : decode b_M_join 216 = .ok (.aload_n 0, 1) := by decide +kernel
theorem d_M_join_217 : decode b_M_join 217 = .ok (.iload_n 1, 1) := by decide +kernel
theorem d_M_join_218 : decode b_M_join 218 = .ok (.iload_n 2, 1) := by decide +kernel
theorem d_M_join_219 : decode b_M_join 219 = .ok (.invokevirtual 110, 3) := by decide +kernel
theorem d_M_join_222 : decode b_M_join 222 = .ok (.istore_n 3, 1) := by decide +kernel
theorem d_M_join_223 : decode b_M_join 223 = .ok (.iload_n 3, 1) := by decide +kernel
theorem d_M_join_224 : decode b_M_join 224 = .ok (.ifCond .lt 27, 3) := by decide +kernel
theorem d_M_join_227 : decode b_M_join 227 = .ok (.aload_n 0, 1) := by decide +kernel
theorem d_M_join_228 : decode b_M_join 228 = .ok (.getfield 26, 3) := by decide +kernel
theorem d_M_join_231 : decode b_M_join 231 = .ok (.iload_n 3, 1) := by decide +kernel
theorem d_M_join_232 : decode b_M_join 232 = .ok (.iconst 1, 1) := by decide +kernel
theorem d_M_join_233 : decode b_M_join 233 = .ok (.bastore, 1) := by decide +kernel
theorem d_M_join_234 : decode b_M_join 234 = .ok (.aload_n 0, 1) := by decide +kernel
theorem d_M_join_235 : decode b_M_join 235 = .ok (.getfield 39, 3) := by decide +kernel
theorem d_M_join_238 : decode b_M_join 238 = .ok (.iconst 0, 1) := by decide +kernel
theorem d_M_join_239 : decode b_M_join 239 = .ok (.iload_n 3, 1) := by decide +kernel
theorem d_M_join_240 : decode b_M_join 240 = .ok (.iastore, 1) := by decide +kernel
theorem d_M_join_241 : decode b_M_join 241 = .ok (.aload_n 0, 1) := by decide +kernel
theorem d_M_join_242 : decode b_M_join 242 = .ok (.iconst 0, 1) := by decide +kernel
theorem d_M_join_243 : decode b_M_join 243 = .ok (.putfield 58, 3) := by decide +kernel
theorem d_M_join_246 : decode b_M_join 246 = .ok (.aload_n 0, 1) := by decide +kernel
theorem d_M_join_247 : decode b_M_join 247 = .ok (.iconst 0, 1) := by decide +kernel
theorem d_M_join_248 : decode b_M_join 248 = .ok (.putfield 133, 3) := by decide +kernel
theorem d_M_join_251 : decode b_M_join 251 = .ok (.iload_n 3, 1) := by decide +kernel
theorem d_M_join_252 : decode b_M_join 252 = .ok (.ireturn, 1) := by decide +kernel
theorem d_M_merged_0 : decode b_M_merged 0 = .ok (.iload_n 1, 1) := by decide +kernel
theorem d_M_merged_1 : decode b_M_merged 1 = .ok (.iload_n 0, 1) := by decide +kernel
theorem d_M_merged_2 : decode b_M_merged 2 = .ok (.if_icmp .ne 7, 3) := by decide +kernel
theorem d_M_merged_5 : decode b_M_merged 5 = .ok (.iload_n 2, 1) := by decide +kernel
theorem d_M_merged_6 : decode b_M_merged 6 = .ok (.goto 19, 3) := by decide +kernel
theorem d_M_merged_9 : decode b_M_merged 9 = .ok (.iload_n 2, 1) := by decide +kernel
theorem d_M_merged_10 : decode b_M_merged 10 = .ok (.iload_n 0, 1) := by decide +kernel
theorem d_M_merged_11 : decode b_M_merged 11 = .ok (.if_icmp .eq 8, 3) := by decide +kernel
theorem d_M_merged_14 : decode b_M_merged 14 = .ok (.iload_n 2, 1) := by decide +kernel
theorem d_M_merged_15 : decode b_M_merged 15 = .ok (.iload_n 1, 1) := by decide +kernel
theorem d_M_merged_16 : decode b_M_merged 16 = .ok (.if_icmp .ne 7, 3) := by decide +kernel
theorem d_M_merged_19 : decode b_M_merged 19 = .ok (.iload_n 1, 1) := by decide +kernel
theorem d_M_merged_20 : decode b_M_merged 20 = .ok (.goto 5, 3) := by decide +kernel
theorem d_M_merged_23 : decode b_M_merged 23 = .ok (.bipush (-2), 2) := by decide +kernel
theorem d_M_merged_25 : decode b_M_merged 25 = .ok (.ireturn, 1) := by decide +kernel
theorem d_M_operation_0 : decode b_M_operation 0 = .ok (.aload_n 0, 1) := by decide +kernel
theorem d_M_operation_1 : decode b_M_operation 1 = .ok (.invokevirtual 107, 3) := by decide +kernel
theorem d_M_operation_4 : decode b_M_operation 4 = .ok (.ireturn, 1) := by decide +kernel
theorem d_M_before_0 : decode b_M_before 0 = .ok (.aload_n 0, 1) := by decide +kernel
theorem d_M_before_1 : decode b_M_before 1 = .ok (.iload_n 1, 1) := by decide +kernel
theorem d_M_before_2 : decode b_M_before 2 = .ok (.invokevirtual 143, 3) := by decide +kernel
theorem d_M_before_5 : decode b_M_before 5 = .ok (.ifCond .eq 12, 3) := by decide +kernel
theorem d_M_before_8 : decode b_M_before 8 = .ok (.iload_n 2, 1) := by decide +kernel
theorem d_M_before_9 : decode b_M_before 9 = .ok (.ifCond .lt 8, 3) := by decide +kernel
theorem d_M_before_12 : decode b_M_before 12 = .ok (.iload_n 2, 1) := by decide +kernel
theorem d_M_before_13 : decode b_M_before 13 = .ok (.iconst 1, 1) := by decide +kernel
theorem d_M_before_14 : decode b_M_before 14 = .ok (.if_icmp .le 7, 3) := by decide +kernel
theorem d_M_before_17 : decode b_M_before 17 = .ok (.iconst (-1), 1) := by decide +kernel
theorem d_M_before_18 : decode b_M_before 18 = .ok (.goto 22, 3) := by decide +kernel
theorem d_M_before_21 : decode b_M_before 21 = .ok (.iload_n 2, 1) := by decide +kernel
theorem d_M_before_22 : decode b_M_before 22 = .ok (.ifCond .ne 12, 3) := by decide +kernel
theorem d_M_before_25 : decode b_M_before 25 = .ok (.aload_n 0, 1) := by decide +kernel
theorem d_M_before_26 : decode b_M_before 26 = .ok (.getfield 20, 3) := by decide +kernel
theorem d_M_before_29 : decode b_M_before 29 = .ok (.iload_n 1, 1) := by decide +kernel
theorem d_M_before_30 : decode b_M_before 30 = .ok (.iaload, 1) := by decide +kernel
theorem d_M_before_31 : decode b_M_before 31 = .ok (.goto 9, 3) := by decide +kernel
theorem d_M_before_34 : decode b_M_before 34 = .ok (.aload_n 0, 1) := by decide +kernel
theorem d_M_before_35 : decode b_M_before 35 = .ok (.getfield 23, 3) := by decide +kernel
theorem d_M_before_38 : decode b_M_before 38 = .ok (.iload_n 1, 1) := by decide +kernel
theorem d_M_before_39 : decode b_M_before 39 = .ok (.iaload, 1) := by decide +kernel
theorem d_M_before_40 : decode b_M_before 40 = .ok (.ireturn, 1) := by decide +kernel
theorem d_M_there_0 : decode b_M_there 0 = .ok (.iload_n 1, 1) := by decide +kernel
theorem d_M_there_1 : decode b_M_there 1 = .ok (.ifCond .lt 15, 3) := by decide +kernel
theorem d_M_there_4 : decode b_M_there 4 = .ok (.iload_n 1, 1) := by decide +kernel
theorem d_M_there_5 : decode b_M_there 5 = .ok (.aload_n 0, 1) := by decide +kernel
theorem d_M_there_6 : decode b_M_there 6 = .ok (.getfield 55, 3) := by decide +kernel
theorem d_M_there_9 : decode b_M_there 9 = .ok (.if_icmp .ge 7, 3) := by decide +kernel
theorem d_M_there_12 : decode b_M_there 12 = .ok (.iconst 1, 1) := by decide +kernel
theorem d_M_there_13 : decode b_M_there 13 = .ok (.goto 4, 3) := by decide +kernel
theorem d_M_there_16 : decode b_M_there 16 = .ok (.iconst 0, 1) := by decide +kernel
theorem d_M_there_17 : decode b_M_there 17 = .ok (.ireturn, 1) := by decide +kernel
theorem d_M_visible_0 : decode b_M_visible 0 = .ok (.aload_n 0, 1) := by decide +kernel
theorem d_M_visible_1 : decode b_M_visible 1 = .ok (.iload_n 1, 1) := by decide +kernel
theorem d_M_visible_2 : decode b_M_visible 2 = .ok (.invokevirtual 143, 3) := by decide +kernel
theorem d_M_visible_5 : decode b_M_visible 5 = .ok (.ifCond .eq 16, 3) := by decide +kernel
theorem d_M_visible_8 : decode b_M_visible 8 = .ok (.aload_n 0, 1) := by decide +kernel
theorem d_M_visible_9 : decode b_M_visible 9 = .ok (.iload_n 1, 1) := by decide +kernel
theorem d_M_visible_10 : decode b_M_visible 10 = .ok (.iload_n 2, 1) := by decide +kernel
theorem d_M_visible_11 : decode b_M_visible 11 = .ok (.invokevirtual 113, 3) := by decide +kernel
theorem d_M_visible_14 : decode b_M_visible 14 = .ok (.ifCond .eq 7, 3) := by decide +kernel
theorem d_M_visible_17 : decode b_M_visible 17 = .ok (.iconst 1, 1) := by decide +kernel
theorem d_M_visible_18 : decode b_M_visible 18 = .ok (.goto 4, 3) := by decide +kernel
theorem d_M_visible_21 : decode b_M_visible 21 = .ok (.iconst 0, 1) := by decide +kernel
theorem d_M_visible_22 : decode b_M_visible 22 = .ok (.ireturn, 1) := by decide +kernel
theorem d_M_working_0 : decode b_M_working 0 = .ok (.aload_n 0, 1) := by decide +kernel
theorem d_M_working_1 : decode b_M_working 1 = .ok (.iload_n 1, 1) := by decide +kernel
theorem d_M_working_2 : decode b_M_working 2 = .ok (.invokevirtual 143, 3) := by decide +kernel
theorem d_M_working_5 : decode b_M_working 5 = .ok (.ifCond .eq 12, 3) := by decide +kernel
theorem d_M_working_8 : decode b_M_working 8 = .ok (.aload_n 0, 1) := by decide +kernel
theorem d_M_working_9 : decode b_M_working 9 = .ok (.getfield 36, 3) := by decide +kernel
theorem d_M_working_12 : decode b_M_working 12 = .ok (.iload_n 1, 1) := by decide +kernel
theorem d_M_working_13 : decode b_M_working 13 = .ok (.iaload, 1) := by decide +kernel
theorem d_M_working_14 : decode b_M_working 14 = .ok (.goto 4, 3) := by decide +kernel
theorem d_M_working_17 : decode b_M_working 17 = .ok (.iconst (-1), 1) := by decide +kernel
theorem d_M_working_18 : decode b_M_working 18 = .ok (.ireturn, 1) := by decide +kernel
theorem d_M_marked_0 : decode b_M_marked 0 = .ok (.aload_n 0, 1) := by decide +kernel
theorem d_M_marked_1 : decode b_M_marked 1 = .ok (.iload_n 1, 1) := by decide +kernel
theorem d_M_marked_2 : decode b_M_marked 2 = .ok (.invokevirtual 143, 3) := by decide +kernel
theorem d_M_marked_5 : decode b_M_marked 5 = .ok (.ifCond .eq 25, 3) := by decide +kernel
theorem d_M_marked_8 : decode b_M_marked 8 = .ok (.iload_n 2, 1) := by decide +kernel
theorem d_M_marked_9 : decode b_M_marked 9 = .ok (.ifCond .lt 21, 3) := by decide +kernel
theorem d_M_marked_12 : decode b_M_marked 12 = .ok (.iload_n 2, 1) := by decide +kernel
theorem d_M_marked_13 : decode b_M_marked 13 = .ok (.iconst 2, 1) := by decide +kernel
theorem d_M_marked_14 : decode b_M_marked 14 = .ok (.if_icmp .gt 16, 3) := by decide +kernel
theorem d_M_marked_17 : decode b_M_marked 17 = .ok (.aload_n 0, 1) := by decide +kernel
theorem d_M_marked_18 : decode b_M_marked 18 = .ok (.getfield 33, 3) := by decide +kernel
theorem d_M_marked_21 : decode b_M_marked 21 = .ok (.iconst 3, 1) := by decide +kernel
theorem d_M_marked_22 : decode b_M_marked 22 = .ok (.iload_n 1, 1) := by decide +kernel
theorem d_M_marked_23 : decode b_M_marked 23 = .ok (.imul, 1) := by decide +kernel
theorem d_M_marked_24 : decode b_M_marked 24 = .ok (.iload_n 2, 1) := by decide +kernel
theorem d_M_marked_25 : decode b_M_marked 25 = .ok (.iadd, 1) := by decide +kernel
theorem d_M_marked_26 : decode b_M_marked 26 = .ok (.iaload, 1) := by decide +kernel
theorem d_M_marked_27 : decode b_M_marked 27 = .ok (.goto 4, 3) := by decide +kernel
theorem d_M_marked_30 : decode b_M_marked 30 = .ok (.iconst (-1), 1) := by decide +kernel
theorem d_M_marked_31 : decode b_M_marked 31 = .ok (.ireturn, 1) := by decide +kernel
theorem d_M_head_0 : decode b_M_head 0 = .ok (.iload_n 2, 1) := by decide +kernel
theorem d_M_head_1 : decode b_M_head 1 = .ok (.istore_n 3, 1) := by decide +kernel
theorem d_M_head_2 : decode b_M_head 2 = .ok (.iconst 0, 1) := by decide +kernel
theorem d_M_head_3 : decode b_M_head 3 = .ok (.istore 4, 2) := by decide +kernel
theorem d_M_head_5 : decode b_M_head 5 = .ok (.iload 4, 2) := by decide +kernel
theorem d_M_head_7 : decode b_M_head 7 = .ok (.aload_n 0, 1) := by decide +kernel
theorem d_M_head_8 : decode b_M_head 8 = .ok (.getfield 51, 3) := by decide +kernel
theorem d_M_head_11 : decode b_M_head 11 = .ok (.if_icmp .ge 37, 3) := by decide +kernel
theorem d_M_head_14 : decode b_M_head 14 = .ok (.aload_n 0, 1) := by decide +kernel
theorem d_M_head_15 : decode b_M_head 15 = .ok (.iload_n 1, 1) := by decide +kernel
theorem d_M_head_16 : decode b_M_head 16 = .ok (.invokevirtual 143, 3) := by decide +kernel
theorem d_M_head_19 : decode b_M_head 19 = .ok (.ifCond .eq 29, 3) := by decide +kernel
theorem d_M_head_22 : decode b_M_head 22 = .ok (.aload_n 0, 1) := by decide +kernel
theorem d_M_head_23 : decode b_M_head 23 = .ok (.iload_n 1, 1) := by decide +kernel
theorem d_M_head_24 : decode b_M_head 24 = .ok (.iload 4, 2) := by decide +kernel
theorem d_M_head_26 : decode b_M_head 26 = .ok (.invokevirtual 147, 3) := by decide +kernel
theorem d_M_head_29 : decode b_M_head 29 = .ok (.ifCond .eq 13, 3) := by decide +kernel
theorem d_M_head_32 : decode b_M_head 32 = .ok (.iload_n 3, 1) := by decide +kernel
theorem d_M_head_33 : decode b_M_head 33 = .ok (.ifCond .ne 6, 3) := by decide +kernel
theorem d_M_head_36 : decode b_M_head 36 = .ok (.iload 4, 2) := by decide +kernel
theorem d_M_head_38 : decode b_M_head 38 = .ok (.ireturn, 1) := by decide +kernel
theorem d_M_head_39 : decode b_M_head 39 = .ok (.iinc 3 (-1), 3) := by decide +kernel
theorem d_M_head_42 : decode b_M_head 42 = .ok (.iinc 4 1, 3) := by decide +kernel
theorem d_M_head_45 : decode b_M_head 45 = .ok (.goto (-40), 3) := by decide +kernel
theorem d_M_head_48 : decode b_M_head 48 = .ok (.iconst (-1), 1) := by decide +kernel
theorem d_M_head_49 : decode b_M_head 49 = .ok (.ireturn, 1) := by decide +kernel
theorem d_M_isHead_0 : decode b_M_isHead 0 = .ok (.aload_n 0, 1) := by decide +kernel
theorem d_M_isHead_1 : decode b_M_isHead 1 = .ok (.iload_n 1, 1) := by decide +kernel
theorem d_M_isHead_2 : decode b_M_isHead 2 = .ok (.iload_n 2, 1) := by decide +kernel
theorem d_M_isHead_3 : decode b_M_isHead 3 = .ok (.invokevirtual 113, 3) := by decide +kernel
theorem d_M_isHead_6 : decode b_M_isHead 6 = .ok (.istore_n 3, 1) := by decide +kernel
theorem d_M_isHead_7 : decode b_M_isHead 7 = .ok (.iload_n 2, 1) := by decide +kernel
theorem d_M_isHead_8 : decode b_M_isHead 8 = .ok (.iconst 1, 1) := by decide +kernel
theorem d_M_isHead_9 : decode b_M_isHead 9 = .ok (.iadd, 1) := by decide +kernel
theorem d_M_isHead_10 : decode b_M_isHead 10 = .ok (.istore 4, 2) := by decide +kernel
theorem d_M_isHead_12 : decode b_M_isHead 12 = .ok (.iload 4, 2) := by decide +kernel
theorem d_M_isHead_14 : decode b_M_isHead 14 = .ok (.aload_n 0, 1) := by decide +kernel
theorem d_M_isHead_15 : decode b_M_isHead 15 = .ok (.getfield 51, 3) := by decide +kernel
theorem d_M_isHead_18 : decode b_M_isHead 18 = .ok (.if_icmp .ge 40, 3) := by decide +kernel
theorem d_M_isHead_21 : decode b_M_isHead 21 = .ok (.iload_n 3, 1) := by decide +kernel
theorem d_M_isHead_22 : decode b_M_isHead 22 = .ok (.ifCond .eq 36, 3) := by decide +kernel
theorem d_M_isHead_25 : decode b_M_isHead 25 = .ok (.aload_n 0, 1) := by decide +kernel
theorem d_M_isHead_26 : decode b_M_isHead 26 = .ok (.iload_n 1, 1) := by decide +kernel
theorem d_M_isHead_27 : decode b_M_isHead 27 = .ok (.iload 4, 2) := by decide +kernel
theorem d_M_isHead_29 : decode b_M_isHead 29 = .ok (.invokevirtual 113, 3) := by decide +kernel
theorem d_M_isHead_32 : decode b_M_isHead 32 = .ok (.ifCond .eq 14, 3) := by decide +kernel
theorem d_M_isHead_35 : decode b_M_isHead 35 = .ok (.aload_n 0, 1) := by decide +kernel
theorem d_M_isHead_36 : decode b_M_isHead 36 = .ok (.getfield 13, 3) := by decide +kernel
theorem d_M_isHead_39 : decode b_M_isHead 39 = .ok (.iload 4, 2) := by decide +kernel
theorem d_M_isHead_41 : decode b_M_isHead 41 = .ok (.iaload, 1) := by decide +kernel
theorem d_M_isHead_42 : decode b_M_isHead 42 = .ok (.iload_n 2, 1) := by decide +kernel
theorem d_M_isHead_43 : decode b_M_isHead 43 = .ok (.if_icmp .eq 7, 3) := by decide +kernel
theorem d_M_isHead_46 : decode b_M_isHead 46 = .ok (.iconst 1, 1) := by decide +kernel
theorem d_M_isHead_47 : decode b_M_isHead 47 = .ok (.goto 4, 3) := by decide +kernel
theorem d_M_isHead_50 : decode b_M_isHead 50 = .ok (.iconst 0, 1) := by decide +kernel
theorem d_M_isHead_51 : decode b_M_isHead 51 = .ok (.istore_n 3, 1) := by decide +kernel
theorem d_M_isHead_52 : decode b_M_isHead 52 = .ok (.iinc 4 1, 3) := by decide +kernel
theorem d_M_isHead_55 : decode b_M_isHead 55 = .ok (.goto (-43), 3) := by decide +kernel
theorem d_M_isHead_58 : decode b_M_isHead 58 = .ok (.iload_n 3, 1) := by decide +kernel
theorem d_M_isHead_59 : decode b_M_isHead 59 = .ok (.ireturn, 1) := by decide +kernel
theorem d_M_commit_0 : decode b_M_commit 0 = .ok (.iload_n 1, 1) := by decide +kernel
theorem d_M_commit_1 : decode b_M_commit 1 = .ok (.ifCond .lt 20, 3) := by decide +kernel
theorem d_M_commit_4 : decode b_M_commit 4 = .ok (.iload_n 1, 1) := by decide +kernel
theorem d_M_commit_5 : decode b_M_commit 5 = .ok (.aload_n 0, 1) := by decide +kernel
theorem d_M_commit_6 : decode b_M_commit 6 = .ok (.getfield 51, 3) := by decide +kernel
theorem d_M_commit_9 : decode b_M_commit 9 = .ok (.if_icmp .ge 12, 3) := by decide +kernel
theorem d_M_commit_12 : decode b_M_commit 12 = .ok (.iload_n 2, 1) := by decide +kernel
theorem d_M_commit_13 : decode b_M_commit 13 = .ok (.ifCond .lt 8, 3) := by decide +kernel
theorem d_M_commit_16 : decode b_M_commit 16 = .ok (.iload_n 2, 1) := by decide +kernel
theorem d_M_commit_17 : decode b_M_commit 17 = .ok (.iconst 1, 1) := by decide +kernel
theorem d_M_commit_18 : decode b_M_commit 18 = .ok (.if_icmp .le 7, 3) := by decide +kernel
theorem d_M_commit_21 : decode b_M_commit 21 = .ok (.iconst (-1), 1) := by decide +kernel
theorem d_M_commit_22 : decode b_M_commit 22 = .ok (.goto 22, 3) := by decide +kernel
theorem d_M_commit_25 : decode b_M_commit 25 = .ok (.iload_n 2, 1) := by decide +kernel
theorem d_M_commit_26 : decode b_M_commit 26 = .ok (.ifCond .ne 12, 3) := by decide +kernel
theorem d_M_commit_29 : decode b_M_commit 29 = .ok (.aload_n 0, 1) := by decide +kernel
theorem d_M_commit_30 : decode b_M_commit 30 = .ok (.getfield 13, 3) := by decide +kernel
theorem d_M_commit_33 : decode b_M_commit 33 = .ok (.iload_n 1, 1) := by decide +kernel
theorem d_M_commit_34 : decode b_M_commit 34 = .ok (.iaload, 1) := by decide +kernel
theorem d_M_commit_35 : decode b_M_commit 35 = .ok (.goto 9, 3) := by decide +kernel
theorem d_M_commit_38 : decode b_M_commit 38 = .ok (.aload_n 0, 1) := by decide +kernel
theorem d_M_commit_39 : decode b_M_commit 39 = .ok (.getfield 7, 3) := by decide +kernel
theorem d_M_commit_42 : decode b_M_commit 42 = .ok (.iload_n 1, 1) := by decide +kernel
theorem d_M_commit_43 : decode b_M_commit 43 = .ok (.iaload, 1) := by decide +kernel
theorem d_M_commit_44 : decode b_M_commit 44 = .ok (.ireturn, 1) := by decide +kernel
theorem d_M_count_0 : decode b_M_count 0 = .ok (.iload_n 1, 1) := by decide +kernel
theorem d_M_count_1 : decode b_M_count 1 = .ok (.ifCond .lt 30, 3) := by decide +kernel
theorem d_M_count_4 : decode b_M_count 4 = .ok (.iload_n 1, 1) := by decide +kernel
theorem d_M_count_5 : decode b_M_count 5 = .ok (.aload_n 0, 1) := by decide +kernel
theorem d_M_count_6 : decode b_M_count 6 = .ok (.getfield 51, 3) := by decide +kernel
theorem d_M_count_9 : decode b_M_count 9 = .ok (.if_icmp .ge 22, 3) := by decide +kernel
theorem d_M_count_12 : decode b_M_count 12 = .ok (.iload_n 2, 1) := by decide +kernel
theorem d_M_count_13 : decode b_M_count 13 = .ok (.ifCond .lt 18, 3) := by decide +kernel
theorem d_M_count_16 : decode b_M_count 16 = .ok (.iload_n 2, 1) := by decide +kernel
theorem d_M_count_17 : decode b_M_count 17 = .ok (.iconst 3, 1) := by decide +kernel
theorem d_M_count_18 : decode b_M_count 18 = .ok (.if_icmp .gt 13, 3) := by decide +kernel
theorem d_M_count_21 : decode b_M_count 21 = .ok (.iload_n 3, 1) := by decide +kernel
theorem d_M_count_22 : decode b_M_count 22 = .ok (.ifCond .lt 9, 3) := by decide +kernel
theorem d_M_count_25 : decode b_M_count 25 = .ok (.iload_n 3, 1) := by decide +kernel
theorem d_M_count_26 : decode b_M_count 26 = .ok (.bipush 7, 2) := by decide +kernel
theorem d_M_count_28 : decode b_M_count 28 = .ok (.if_icmp .le 7, 3) := by decide +kernel
theorem d_M_count_31 : decode b_M_count 31 = .ok (.lconst 0, 1) := by decide +kernel
theorem d_M_count_32 : decode b_M_count 32 = .ok (.goto 19, 3) := by decide +kernel
theorem d_M_count_35 : decode b_M_count 35 = .ok (.aload_n 0, 1) := by decide +kernel
