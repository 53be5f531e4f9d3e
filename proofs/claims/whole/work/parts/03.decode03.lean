theorem d_S_restore_22 : decode b_S_restore 22 = .ok (.invokevirtual 126, 3) := by decide +kernel
theorem d_S_restore_25 : decode b_S_restore 25 = .ok (.aload_n 0, 1) := by decide +kernel
theorem d_S_restore_26 : decode b_S_restore 26 = .ok (.aload_n 0, 1) := by decide +kernel
theorem d_S_restore_27 : decode b_S_restore 27 = .ok (.getfield 36, 3) := by decide +kernel
theorem d_S_restore_30 : decode b_S_restore 30 = .ok (.iconst (-1), 1) := by decide +kernel
theorem d_S_restore_31 : decode b_S_restore 31 = .ok (.invokevirtual 65, 3) := by decide +kernel
theorem d_S_restore_34 : decode b_S_restore 34 = .ok (.ireturn, 1) := by decide +kernel
theorem d_S_fork_0 : decode b_S_fork 0 = .ok (.aload_n 0, 1) := by decide +kernel
theorem d_S_fork_1 : decode b_S_fork 1 = .ok (.invokevirtual 133, 3) := by decide +kernel
theorem d_S_fork_4 : decode b_S_fork 4 = .ok (.ifCond .ne 14, 3) := by decide +kernel
theorem d_S_fork_7 : decode b_S_fork 7 = .ok (.aload_n 0, 1) := by decide +kernel
theorem d_S_fork_8 : decode b_S_fork 8 = .ok (.getfield 19, 3) := by decide +kernel
theorem d_S_fork_11 : decode b_S_fork 11 = .ok (.iload_n 1, 1) := by decide +kernel
theorem d_S_fork_12 : decode b_S_fork 12 = .ok (.invokevirtual 130, 3) := by decide +kernel
theorem d_S_fork_15 : decode b_S_fork 15 = .ok (.ifCond .ne 5, 3) := by decide +kernel
theorem d_S_fork_18 : decode b_S_fork 18 = .ok (.iconst 0, 1) := by decide +kernel
theorem d_S_fork_19 : decode b_S_fork 19 = .ok (.ireturn, 1) := by decide +kernel
theorem d_S_fork_20 : decode b_S_fork 20 = .ok (.aload_n 0, 1) := by decide +kernel
theorem d_S_fork_21 : decode b_S_fork 21 = .ok (.iload_n 1, 1) := by decide +kernel
theorem d_S_fork_22 : decode b_S_fork 22 = .ok (.putfield 40, 3) := by decide +kernel
theorem d_S_fork_25 : decode b_S_fork 25 = .ok (.aload_n 0, 1) := by decide +kernel
theorem d_S_fork_26 : decode b_S_fork 26 = .ok (.getfield 32, 3) := by decide +kernel
theorem d_S_fork_29 : decode b_S_fork 29 = .ok (.iconst 1, 1) := by decide +kernel
theorem d_S_fork_30 : decode b_S_fork 30 = .ok (.iload_n 1, 1) := by decide +kernel
theorem d_S_fork_31 : decode b_S_fork 31 = .ok (.iastore, 1) := by decide +kernel
theorem d_S_fork_32 : decode b_S_fork 32 = .ok (.aload_n 0, 1) := by decide +kernel
theorem d_S_fork_33 : decode b_S_fork 33 = .ok (.iconst 1, 1) := by decide +kernel
theorem d_S_fork_34 : decode b_S_fork 34 = .ok (.putfield 36, 3) := by decide +kernel
theorem d_S_fork_37 : decode b_S_fork 37 = .ok (.iconst 1, 1) := by decide +kernel
theorem d_S_fork_38 : decode b_S_fork 38 = .ok (.ireturn, 1) := by decide +kernel
theorem d_S_hasLineOne_0 : decode b_S_hasLineOne 0 = .ok (.aload_n 0, 1) := by decide +kernel
theorem d_S_hasLineOne_1 : decode b_S_hasLineOne 1 = .ok (.getfield 32, 3) := by decide +kernel
theorem d_S_hasLineOne_4 : decode b_S_hasLineOne 4 = .ok (.iconst 1, 1) := by decide +kernel
theorem d_S_hasLineOne_5 : decode b_S_hasLineOne 5 = .ok (.iaload, 1) := by decide +kernel
theorem d_S_hasLineOne_6 : decode b_S_hasLineOne 6 = .ok (.iconst (-1), 1) := by decide +kernel
theorem d_S_hasLineOne_7 : decode b_S_hasLineOne 7 = .ok (.if_icmp .eq 7, 3) := by decide +kernel
theorem d_S_hasLineOne_10 : decode b_S_hasLineOne 10 = .ok (.iconst 1, 1) := by decide +kernel
theorem d_S_hasLineOne_11 : decode b_S_hasLineOne 11 = .ok (.goto 4, 3) := by decide +kernel
theorem d_S_hasLineOne_14 : decode b_S_hasLineOne 14 = .ok (.iconst 0, 1) := by decide +kernel
theorem d_S_hasLineOne_15 : decode b_S_hasLineOne 15 = .ok (.ireturn, 1) := by decide +kernel
theorem d_S_choose_0 : decode b_S_choose 0 = .ok (.iload_n 1, 1) := by decide +kernel
theorem d_S_choose_1 : decode b_S_choose 1 = .ok (.ifCond .eq 15, 3) := by decide +kernel
theorem d_S_choose_4 : decode b_S_choose 4 = .ok (.iload_n 1, 1) := by decide +kernel
theorem d_S_choose_5 : decode b_S_choose 5 = .ok (.iconst 1, 1) := by decide +kernel
theorem d_S_choose_6 : decode b_S_choose 6 = .ok (.if_icmp .ne 14, 3) := by decide +kernel
theorem d_S_choose_9 : decode b_S_choose 9 = .ok (.aload_n 0, 1) := by decide +kernel
theorem d_S_choose_10 : decode b_S_choose 10 = .ok (.invokevirtual 133, 3) := by decide +kernel
theorem d_S_choose_13 : decode b_S_choose 13 = .ok (.ifCond .eq 7, 3) := by decide +kernel
theorem d_S_choose_16 : decode b_S_choose 16 = .ok (.iconst 1, 1) := by decide +kernel
theorem d_S_choose_17 : decode b_S_choose 17 = .ok (.goto 4, 3) := by decide +kernel
theorem d_S_choose_20 : decode b_S_choose 20 = .ok (.iconst 0, 1) := by decide +kernel
theorem d_S_choose_21 : decode b_S_choose 21 = .ok (.istore_n 2, 1) := by decide +kernel
theorem d_S_choose_22 : decode b_S_choose 22 = .ok (.iload_n 2, 1) := by decide +kernel
theorem d_S_choose_23 : decode b_S_choose 23 = .ok (.ifCond .eq 8, 3) := by decide +kernel
theorem d_S_choose_26 : decode b_S_choose 26 = .ok (.aload_n 0, 1) := by decide +kernel
theorem d_S_choose_27 : decode b_S_choose 27 = .ok (.iload_n 1, 1) := by decide +kernel
theorem d_S_choose_28 : decode b_S_choose 28 = .ok (.putfield 36, 3) := by decide +kernel
theorem d_S_choose_31 : decode b_S_choose 31 = .ok (.iload_n 2, 1) := by decide +kernel
theorem d_S_choose_32 : decode b_S_choose 32 = .ok (.ireturn, 1) := by decide +kernel
theorem d_S_join_0 : decode b_S_join 0 = .ok (.aload_n 0, 1) := by decide +kernel
theorem d_S_join_1 : decode b_S_join 1 = .ok (.invokevirtual 133, 3) := by decide +kernel
theorem d_S_join_4 : decode b_S_join 4 = .ok (.ifCond .ne 5, 3) := by decide +kernel
theorem d_S_join_7 : decode b_S_join 7 = .ok (.iconst (-1), 1) := by decide +kernel
theorem d_S_join_8 : decode b_S_join 8 = .ok (.ireturn, 1) := by decide +kernel
theorem d_S_join_9 : decode b_S_join 9 = .ok (.aload_n 0, 1) := by decide +kernel
theorem d_S_join_10 : decode b_S_join 10 = .ok (.getfield 28, 3) := by decide +kernel
theorem d_S_join_13 : decode b_S_join 13 = .ok (.aload_n 0, 1) := by decide +kernel
theorem d_S_join_14 : decode b_S_join 14 = .ok (.getfield 19, 3) := by decide +kernel
theorem d_S_join_17 : decode b_S_join 17 = .ok (.aload_n 0, 1) := by decide +kernel
theorem d_S_join_18 : decode b_S_join 18 = .ok (.getfield 40, 3) := by decide +kernel
theorem d_S_join_21 : decode b_S_join 21 = .ok (.aload_n 0, 1) := by decide +kernel
theorem d_S_join_22 : decode b_S_join 22 = .ok (.getfield 32, 3) := by decide +kernel
theorem d_S_join_25 : decode b_S_join 25 = .ok (.iconst 0, 1) := by decide +kernel
theorem d_S_join_26 : decode b_S_join 26 = .ok (.iaload, 1) := by decide +kernel
theorem d_S_join_27 : decode b_S_join 27 = .ok (.aload_n 0, 1) := by decide +kernel
theorem d_S_join_28 : decode b_S_join 28 = .ok (.getfield 32, 3) := by decide +kernel
theorem d_S_join_31 : decode b_S_join 31 = .ok (.iconst 1, 1) := by decide +kernel
theorem d_S_join_32 : decode b_S_join 32 = .ok (.iaload, 1) := by decide +kernel
theorem d_S_join_33 : decode b_S_join 33 = .ok (.invokevirtual 136, 3) := by decide +kernel
theorem d_S_join_36 : decode b_S_join 36 = .ok (.aload_n 0, 1) := by decide +kernel
theorem d_S_join_37 : decode b_S_join 37 = .ok (.iconst 0, 1) := by decide +kernel
theorem d_S_join_38 : decode b_S_join 38 = .ok (.aload_n 0, 1) := by decide +kernel
theorem d_S_join_39 : decode b_S_join 39 = .ok (.getfield 32, 3) := by decide +kernel
theorem d_S_join_42 : decode b_S_join 42 = .ok (.iconst 1, 1) := by decide +kernel
theorem d_S_join_43 : decode b_S_join 43 = .ok (.iaload, 1) := by decide +kernel
theorem d_S_join_44 : decode b_S_join 44 = .ok (.invokevirtual 65, 3) := by decide +kernel
theorem d_S_join_47 : decode b_S_join 47 = .ok (.istore_n 1, 1) := by decide +kernel
theorem d_S_join_48 : decode b_S_join 48 = .ok (.iload_n 1, 1) := by decide +kernel
theorem d_S_join_49 : decode b_S_join 49 = .ok (.bipush (-3), 2) := by decide +kernel
theorem d_S_join_51 : decode b_S_join 51 = .ok (.if_icmp .eq 20, 3) := by decide +kernel
theorem d_S_join_54 : decode b_S_join 54 = .ok (.aload_n 0, 1) := by decide +kernel
theorem d_S_join_55 : decode b_S_join 55 = .ok (.getfield 32, 3) := by decide +kernel
theorem d_S_join_58 : decode b_S_join 58 = .ok (.iconst 1, 1) := by decide +kernel
theorem d_S_join_59 : decode b_S_join 59 = .ok (.iconst (-1), 1) := by decide +kernel
theorem d_S_join_60 : decode b_S_join 60 = .ok (.iastore, 1) := by decide +kernel
theorem d_S_join_61 : decode b_S_join 61 = .ok (.aload_n 0, 1) := by decide +kernel
theorem d_S_join_62 : decode b_S_join 62 = .ok (.iconst (-1), 1) := by decide +kernel
theorem d_S_join_63 : decode b_S_join 63 = .ok (.putfield 40, 3) := by decide +kernel
theorem d_S_join_66 : decode b_S_join 66 = .ok (.aload_n 0, 1) := by decide +kernel
theorem d_S_join_67 : decode b_S_join 67 = .ok (.iconst 0, 1) := by decide +kernel
theorem d_S_join_68 : decode b_S_join 68 = .ok (.putfield 36, 3) := by decide +kernel
theorem d_S_join_71 : decode b_S_join 71 = .ok (.iload_n 1, 1) := by decide +kernel
theorem d_S_join_72 : decode b_S_join 72 = .ok (.ireturn, 1) := by decide +kernel
theorem d_D_openJoined_0 : decode b_D_openJoined 0 = .ok (.aload_n 0, 1) := by decide +kernel
theorem d_D_openJoined_1 : decode b_D_openJoined 1 = .ok (.invokevirtual 22, 3) := by decide +kernel
theorem d_D_openJoined_4 : decode b_D_openJoined 4 = .ok (.aload_n 1, 1) := by decide +kernel
theorem d_D_openJoined_5 : decode b_D_openJoined 5 = .ok (.iload_n 3, 1) := by decide +kernel
theorem d_D_openJoined_6 : decode b_D_openJoined 6 = .ok (.invokevirtual 25, 3) := by decide +kernel
theorem d_D_openJoined_9 : decode b_D_openJoined 9 = .ok (.lstore 5, 2) := by decide +kernel
theorem d_D_openJoined_11 : decode b_D_openJoined 11 = .ok (.aload_n 1, 1) := by decide +kernel
theorem d_D_openJoined_12 : decode b_D_openJoined 12 = .ok (.iload 4, 2) := by decide +kernel
theorem d_D_openJoined_14 : decode b_D_openJoined 14 = .ok (.invokevirtual 25, 3) := by decide +kernel
theorem d_D_openJoined_17 : decode b_D_openJoined 17 = .ok (.lstore 7, 2) := by decide +kernel
theorem d_D_openJoined_19 : decode b_D_openJoined 19 = .ok (.aload_n 0, 1) := by decide +kernel
theorem d_D_openJoined_20 : decode b_D_openJoined 20 = .ok (.lload 5, 2) := by decide +kernel
theorem d_D_openJoined_22 : decode b_D_openJoined 22 = .ok (.lload 7, 2) := by decide +kernel
theorem d_D_openJoined_24 : decode b_D_openJoined 24 = .ok (.land, 1) := by decide +kernel
theorem d_D_openJoined_25 : decode b_D_openJoined 25 = .ok (.lload 5, 2) := by decide +kernel
theorem d_D_openJoined_27 : decode b_D_openJoined 27 = .ok (.lload 7, 2) := by decide +kernel
theorem d_D_openJoined_29 : decode b_D_openJoined 29 = .ok (.lor, 1) := by decide +kernel
theorem d_D_openJoined_30 : decode b_D_openJoined 30 = .ok (.aload_n 1, 1) := by decide +kernel
theorem d_D_openJoined_31 : decode b_D_openJoined 31 = .ok (.iload_n 2, 1) := by decide +kernel
theorem d_D_openJoined_32 : decode b_D_openJoined 32 = .ok (.invokevirtual 25, 3) := by decide +kernel
theorem d_D_openJoined_35 : decode b_D_openJoined 35 = .ok (.ldc2_w 47, 3) := by decide +kernel
theorem d_D_openJoined_38 : decode b_D_openJoined 38 = .ok (.lxor, 1) := by decide +kernel
theorem d_D_openJoined_39 : decode b_D_openJoined 39 = .ok (.land, 1) := by decide +kernel
theorem d_D_openJoined_40 : decode b_D_openJoined 40 = .ok (.lor, 1) := by decide +kernel
theorem d_D_openJoined_41 : decode b_D_openJoined 41 = .ok (.putfield 31, 3) := by decide +kernel
theorem d_D_openJoined_44 : decode b_D_openJoined 44 = .ok (.aload_n 1, 1) := by decide +kernel
theorem d_D_openJoined_45 : decode b_D_openJoined 45 = .ok (.iload_n 3, 1) := by decide +kernel
theorem d_D_openJoined_46 : decode b_D_openJoined 46 = .ok (.invokevirtual 35, 3) := by decide +kernel
theorem d_D_openJoined_49 : decode b_D_openJoined 49 = .ok (.istore 9, 2) := by decide +kernel
theorem d_D_openJoined_51 : decode b_D_openJoined 51 = .ok (.aload_n 0, 1) := by decide +kernel
theorem d_D_openJoined_52 : decode b_D_openJoined 52 = .ok (.iload 9, 2) := by decide +kernel
theorem d_D_openJoined_54 : decode b_D_openJoined 54 = .ok (.aload_n 1, 1) := by decide +kernel
theorem d_D_openJoined_55 : decode b_D_openJoined 55 = .ok (.iload_n 2, 1) := by decide +kernel
theorem d_D_openJoined_56 : decode b_D_openJoined 56 = .ok (.invokevirtual 35, 3) := by decide +kernel
theorem d_D_openJoined_59 : decode b_D_openJoined 59 = .ok (.if_icmp .ne 12, 3) := by decide +kernel
theorem d_D_openJoined_62 : decode b_D_openJoined 62 = .ok (.aload_n 1, 1) := by decide +kernel
theorem d_D_openJoined_63 : decode b_D_openJoined 63 = .ok (.iload 4, 2) := by decide +kernel
theorem d_D_openJoined_65 : decode b_D_openJoined 65 = .ok (.invokevirtual 35, 3) := by decide +kernel
theorem d_D_openJoined_68 : decode b_D_openJoined 68 = .ok (.goto 5, 3) := by decide +kernel
theorem d_D_openJoined_71 : decode b_D_openJoined 71 = .ok (.iload 9, 2) := by decide +kernel
theorem d_D_openJoined_73 : decode b_D_openJoined 73 = .ok (.putfield 39, 3) := by decide +kernel
theorem d_D_openJoined_76 : decode b_D_openJoined 76 = .ok (.iconst 0, 1) := by decide +kernel
theorem d_D_openJoined_77 : decode b_D_openJoined 77 = .ok (.istore 10, 2) := by decide +kernel
theorem d_D_openJoined_79 : decode b_D_openJoined 79 = .ok (.iload 10, 2) := by decide +kernel
theorem d_D_openJoined_81 : decode b_D_openJoined 81 = .ok (.iconst 3, 1) := by decide +kernel
theorem d_D_openJoined_82 : decode b_D_openJoined 82 = .ok (.if_icmp .ge 41, 3) := by decide +kernel
theorem d_D_openJoined_85 : decode b_D_openJoined 85 = .ok (.aload_n 0, 1) := by decide +kernel
theorem d_D_openJoined_86 : decode b_D_openJoined 86 = .ok (.getfield 15, 3) := by decide +kernel
theorem d_D_openJoined_89 : decode b_D_openJoined 89 = .ok (.iload 10, 2) := by decide +kernel
theorem d_D_openJoined_91 : decode b_D_openJoined 91 = .ok (.aload_n 1, 1) := by decide +kernel
theorem d_D_openJoined_92 : decode b_D_openJoined 92 = .ok (.iload_n 2, 1) := by decide +kernel
theorem d_D_openJoined_93 : decode b_D_openJoined 93 = .ok (.iload 10, 2) := by decide +kernel
theorem d_D_openJoined_95 : decode b_D_openJoined 95 = .ok (.invokevirtual 43, 3) := by decide +kernel
theorem d_D_openJoined_98 : decode b_D_openJoined 98 = .ok (.aload_n 1, 1) := by decide +kernel
theorem d_D_openJoined_99 : decode b_D_openJoined 99 = .ok (.iload_n 3, 1) := by decide +kernel
theorem d_D_openJoined_100 : decode b_D_openJoined 100 = .ok (.iload 10, 2) := by decide +kernel
theorem d_D_openJoined_102 : decode b_D_openJoined 102 = .ok (.invokevirtual 43, 3) := by decide +kernel
theorem d_D_openJoined_105 : decode b_D_openJoined 105 = .ok (.aload_n 1, 1) := by decide +kernel
theorem d_D_openJoined_106 : decode b_D_openJoined 106 = .ok (.iload 4, 2) := by decide +kernel
theorem d_D_openJoined_108 : decode b_D_openJoined 108 = .ok (.iload 10, 2) := by decide +kernel
theorem d_D_openJoined_110 : decode b_D_openJoined 110 = .ok (.invokevirtual 43, 3) := by decide +kernel
theorem d_D_openJoined_113 : decode b_D_openJoined 113 = .ok (.invokestatic 49, 3) := by decide +kernel
theorem d_D_openJoined_116 : decode b_D_openJoined 116 = .ok (.iastore, 1) := by decide +kernel
theorem d_D_openJoined_117 : decode b_D_openJoined 117 = .ok (.iinc 10 1, 3) := by decide +kernel
theorem d_D_openJoined_120 : decode b_D_openJoined 120 = .ok (.goto (-41), 3) := by decide +kernel
theorem d_D_openJoined_123 : decode b_D_openJoined 123 = .ok (.return_, 1) := by decide +kernel
theorem d_D_joinedMark_0 : decode b_D_joinedMark 0 = .ok (.iload_n 1, 1) := by decide +kernel
theorem d_D_joinedMark_1 : decode b_D_joinedMark 1 = .ok (.iload_n 0, 1) := by decide +kernel
theorem d_D_joinedMark_2 : decode b_D_joinedMark 2 = .ok (.if_icmp .ne 5, 3) := by decide +kernel
theorem d_D_joinedMark_5 : decode b_D_joinedMark 5 = .ok (.iload_n 2, 1) := by decide +kernel
theorem d_D_joinedMark_6 : decode b_D_joinedMark 6 = .ok (.ireturn, 1) := by decide +kernel
theorem d_D_joinedMark_7 : decode b_D_joinedMark 7 = .ok (.iload_n 2, 1) := by decide +kernel
theorem d_D_joinedMark_8 : decode b_D_joinedMark 8 = .ok (.iload_n 0, 1) := by decide +kernel
theorem d_D_joinedMark_9 : decode b_D_joinedMark 9 = .ok (.if_icmp .eq 8, 3) := by decide +kernel
theorem d_D_joinedMark_12 : decode b_D_joinedMark 12 = .ok (.iload_n 2, 1) := by decide +kernel
theorem d_D_joinedMark_13 : decode b_D_joinedMark 13 = .ok (.iload_n 1, 1) := by decide +kernel
theorem d_D_joinedMark_14 : decode b_D_joinedMark 14 = .ok (.if_icmp .ne 7, 3) := by decide +kernel
theorem d_D_joinedMark_17 : decode b_D_joinedMark 17 = .ok (.iload_n 1, 1) := by decide +kernel
theorem d_D_joinedMark_18 : decode b_D_joinedMark 18 = .ok (.goto 5, 3) := by decide +kernel
theorem d_D_joinedMark_21 : decode b_D_joinedMark 21 = .ok (.bipush (-2), 2) := by decide +kernel
theorem d_D_joinedMark_23 : decode b_D_joinedMark 23 = .ok (.ireturn, 1) := by decide +kernel
theorem d_S_operation_0 : decode b_S_operation 0 = .ok (.aload_n 0, 1) := by decide +kernel
theorem d_S_operation_1 : decode b_S_operation 1 = .ok (.getfield 32, 3) := by decide +kernel
theorem d_S_operation_4 : decode b_S_operation 4 = .ok (.aload_n 0, 1) := by decide +kernel
theorem d_S_operation_5 : decode b_S_operation 5 = .ok (.getfield 36, 3) := by decide +kernel
theorem d_S_operation_8 : decode b_S_operation 8 = .ok (.iaload, 1) := by decide +kernel
theorem d_S_operation_9 : decode b_S_operation 9 = .ok (.ireturn, 1) := by decide +kernel
theorem d_S_before_0 : decode b_S_before 0 = .ok (.iload_n 2, 1) := by decide +kernel
theorem d_S_before_1 : decode b_S_before 1 = .ok (.ifCond .ne 12, 3) := by decide +kernel
theorem d_S_before_4 : decode b_S_before 4 = .ok (.aload_n 0, 1) := by decide +kernel
theorem d_S_before_5 : decode b_S_before 5 = .ok (.getfield 19, 3) := by decide +kernel
theorem d_S_before_8 : decode b_S_before 8 = .ok (.iload_n 1, 1) := by decide +kernel
theorem d_S_before_9 : decode b_S_before 9 = .ok (.invokevirtual 120, 3) := by decide +kernel
theorem d_S_before_12 : decode b_S_before 12 = .ok (.ireturn, 1) := by decide +kernel
theorem d_S_before_13 : decode b_S_before 13 = .ok (.iload_n 2, 1) := by decide +kernel
theorem d_S_before_14 : decode b_S_before 14 = .ok (.iconst 1, 1) := by decide +kernel
theorem d_S_before_15 : decode b_S_before 15 = .ok (.if_icmp .ne 14, 3) := by decide +kernel
theorem d_S_before_18 : decode b_S_before 18 = .ok (.aload_n 0, 1) := by decide +kernel
theorem d_S_before_19 : decode b_S_before 19 = .ok (.getfield 19, 3) := by decide +kernel
theorem d_S_before_22 : decode b_S_before 22 = .ok (.iload_n 1, 1) := by decide +kernel
theorem d_S_before_23 : decode b_S_before 23 = .ok (.invokevirtual 123, 3) := by decide +kernel
theorem d_S_before_26 : decode b_S_before 26 = .ok (.goto 4, 3) := by decide +kernel
theorem d_S_before_29 : decode b_S_before 29 = .ok (.iconst (-1), 1) := by decide +kernel
theorem d_S_before_30 : decode b_S_before 30 = .ok (.ireturn, 1) := by decide +kernel
theorem d_S_visible_0 : decode b_S_visible 0 = .ok (.iload_n 2, 1) := by decide +kernel
theorem d_S_visible_1 : decode b_S_visible 1 = .ok (.aload_n 0, 1) := by decide +kernel
theorem d_S_visible_2 : decode b_S_visible 2 = .ok (.getfield 19, 3) := by decide +kernel
theorem d_S_visible_5 : decode b_S_visible 5 = .ok (.iload_n 1, 1) := by decide +kernel
theorem d_S_visible_6 : decode b_S_visible 6 = .ok (.invokevirtual 140, 3) := by decide +kernel
theorem d_S_visible_9 : decode b_S_visible 9 = .ok (.invokestatic 107, 3) := by decide +kernel
theorem d_S_visible_12 : decode b_S_visible 12 = .ok (.ireturn, 1) := by decide +kernel
theorem d_S_working_0 : decode b_S_working 0 = .ok (.aload_n 0, 1) := by decide +kernel
theorem d_S_working_1 : decode b_S_working 1 = .ok (.getfield 19, 3) := by decide +kernel
theorem d_S_working_4 : decode b_S_working 4 = .ok (.iload_n 1, 1) := by decide +kernel
theorem d_S_working_5 : decode b_S_working 5 = .ok (.invokevirtual 143, 3) := by decide +kernel
theorem d_S_working_8 : decode b_S_working 8 = .ok (.ireturn, 1) := by decide +kernel
theorem d_S_marked_0 : decode b_S_marked 0 = .ok (.aload_n 0, 1) := by decide +kernel
theorem d_S_marked_1 : decode b_S_marked 1 = .ok (.getfield 19, 3) := by decide +kernel
theorem d_S_marked_4 : decode b_S_marked 4 = .ok (.iload_n 1, 1) := by decide +kernel
theorem d_S_marked_5 : decode b_S_marked 5 = .ok (.iload_n 2, 1) := by decide +kernel
theorem d_S_marked_6 : decode b_S_marked 6 = .ok (.invokevirtual 146, 3) := by decide +kernel
theorem d_S_marked_9 : decode b_S_marked 9 = .ok (.ireturn, 1) := by decide +kernel
theorem d_S_head_0 : decode b_S_head 0 = .ok (.aload_n 0, 1) := by decide +kernel
theorem d_S_head_1 : decode b_S_head 1 = .ok (.getfield 19, 3) := by decide +kernel
theorem d_S_head_4 : decode b_S_head 4 = .ok (.iload_n 1, 1) := by decide +kernel
theorem d_S_head_5 : decode b_S_head 5 = .ok (.invokevirtual 140, 3) := by decide +kernel
theorem d_S_head_8 : decode b_S_head 8 = .ok (.lstore_n 3, 1) := by decide +kernel
theorem d_S_head_9 : decode b_S_head 9 = .ok (.lload_n 3, 1) := by decide +kernel
theorem d_S_head_10 : decode b_S_head 10 = .ok (.aload_n 0, 1) := by decide +kernel
theorem d_S_head_11 : decode b_S_head 11 = .ok (.getfield 10, 3) := by decide +kernel
theorem d_S_head_14 : decode b_S_head 14 = .ok (.lload_n 3, 1) := by decide +kernel
theorem d_S_head_15 : decode b_S_head 15 = .ok (.invokevirtual 149, 3) := by decide +kernel
theorem d_S_head_18 : decode b_S_head 18 = .ok (.ldc2_w 153, 3) := by decide +kernel
theorem d_S_head_21 : decode b_S_head 21 = .ok (.lxor, 1) := by decide +kernel
theorem d_S_head_22 : decode b_S_head 22 = .ok (.land, 1) := by decide +kernel
theorem d_S_head_23 : decode b_S_head 23 = .ok (.lstore 5, 2) := by decide +kernel
theorem d_S_head_25 : decode b_S_head 25 = .ok (.iconst 0, 1) := by decide +kernel
theorem d_S_head_26 : decode b_S_head 26 = .ok (.istore 7, 2) := by decide +kernel
theorem d_S_head_28 : decode b_S_head 28 = .ok (.iconst 0, 1) := by decide +kernel
theorem d_S_head_29 : decode b_S_head 29 = .ok (.istore 8, 2) := by decide +kernel
theorem d_S_head_31 : decode b_S_head 31 = .ok (.iload 8, 2) := by decide +kernel
theorem d_S_head_33 : decode b_S_head 33 = .ok (.bipush 60, 2) := by decide +kernel
theorem d_S_head_35 : decode b_S_head 35 = .ok (.if_icmp .ge 31, 3) := by decide +kernel
theorem d_S_head_38 : decode b_S_head 38 = .ok (.iload 8, 2) := by decide +kernel
theorem d_S_head_40 : decode b_S_head 40 = .ok (.lload 5, 2) := by decide +kernel
theorem d_S_head_42 : decode b_S_head 42 = .ok (.invokestatic 107, 3) := by decide +kernel
theorem d_S_head_45 : decode b_S_head 45 = .ok (.ifCond .eq 15, 3) := by decide +kernel
theorem d_S_head_48 : decode b_S_head 48 = .ok (.iload 7, 2) := by decide +kernel
theorem d_S_head_50 : decode b_S_head 50 = .ok (.iload_n 2, 1) := by decide +kernel
theorem d_S_head_51 : decode b_S_head 51 = .ok (.if_icmp .ne 6, 3) := by decide +kernel
theorem d_S_head_54 : decode b_S_head 54 = .ok (.iload 8, 2) := by decide +kernel
theorem d_S_head_56 : decode b_S_head 56 = .ok (.ireturn, 1) := by decide +kernel
theorem d_S_head_57 : decode b_S_head 57 = .ok (.iinc 7 1, 3) := by decide +kernel
theorem d_S_head_60 : decode b_S_head 60 = .ok (.iinc 8 1, 3) := by decide +kernel
theorem d_S_head_63 : decode b_S_head 63 = .ok (.goto (-32), 3) := by decide +kernel
theorem d_S_head_66 : decode b_S_head 66 = .ok (.iconst (-1), 1) := by decide +kernel
theorem d_S_head_67 : decode b_S_head 67 = .ok (.ireturn, 1) := by decide +kernel
theorem d_C_parentsOf_0 : decode b_C_parentsOf 0 = .ok (.lconst 0, 1) := by decide +kernel
theorem d_C_parentsOf_1 : decode b_C_parentsOf 1 = .ok (.lstore_n 3, 1) := by decide +kernel
theorem d_C_parentsOf_2 : decode b_C_parentsOf 2 = .ok (.iconst 1, 1) := by decide +kernel
theorem d_C_parentsOf_3 : decode b_C_parentsOf 3 = .ok (.istore 5, 2) := by decide +kernel
theorem d_C_parentsOf_5 : decode b_C_parentsOf 5 = .ok (.iload 5, 2) := by decide +kernel
theorem d_C_parentsOf_7 : decode b_C_parentsOf 7 = .ok (.aload_n 0, 1) := by decide +kernel
theorem d_C_parentsOf_8 : decode b_C_parentsOf 8 = .ok (.getfield 22, 3) := by decide +kernel
theorem d_C_parentsOf_11 : decode b_C_parentsOf 11 = .ok (.if_icmp .ge 31, 3) := by decide +kernel
theorem d_C_parentsOf_14 : decode b_C_parentsOf 14 = .ok (.iload 5, 2) := by decide +kernel
theorem d_C_parentsOf_16 : decode b_C_parentsOf 16 = .ok (.lload_n 1, 1) := by decide +kernel
theorem d_C_parentsOf_17 : decode b_C_parentsOf 17 = .ok (.invokestatic 55, 3) := by decide +kernel
theorem d_C_parentsOf_20 : decode b_C_parentsOf 20 = .ok (.ifCond .eq 16, 3) := by decide +kernel
theorem d_C_parentsOf_23 : decode b_C_parentsOf 23 = .ok (.lload_n 3, 1) := by decide +kernel
theorem d_C_parentsOf_24 : decode b_C_parentsOf 24 = .ok (.aload_n 0, 1) := by decide +kernel
theorem d_C_parentsOf_25 : decode b_C_parentsOf 25 = .ok (.getfield 9, 3) := by decide +kernel
theorem d_C_parentsOf_28 : decode b_C_parentsOf 28 = .ok (.iload 5, 2) := by decide +kernel
theorem d_C_parentsOf_30 : decode b_C_parentsOf 30 = .ok (.iaload, 1) := by decide +kernel
theorem d_C_parentsOf_31 : decode b_C_parentsOf 31 = .ok (.invokestatic 47, 3) := by decide +kernel
theorem d_C_parentsOf_34 : decode b_C_parentsOf 34 = .ok (.lor, 1) := by decide +kernel
theorem d_C_parentsOf_35 : decode b_C_parentsOf 35 = .ok (.lstore_n 3, 1) := by decide +kernel
theorem d_C_parentsOf_36 : decode b_C_parentsOf 36 = .ok (.iinc 5 1, 3) := by decide +kernel
theorem d_C_parentsOf_39 : decode b_C_parentsOf 39 = .ok (.goto (-34), 3) := by decide +kernel
theorem d_C_parentsOf_42 : decode b_C_parentsOf 42 = .ok (.lload_n 3, 1) := by decide +kernel
theorem d_C_parentsOf_43 : decode b_C_parentsOf 43 = .ok (.lreturn, 1) := by decide +kernel
theorem d_S_commit_0 : decode b_S_commit 0 = .ok (.iload_n 2, 1) := by decide +kernel
theorem d_S_commit_1 : decode b_S_commit 1 = .ok (.ifCond .ne 12, 3) := by decide +kernel
theorem d_S_commit_4 : decode b_S_commit 4 = .ok (.aload_n 0, 1) := by decide +kernel
theorem d_S_commit_5 : decode b_S_commit 5 = .ok (.getfield 10, 3) := by decide +kernel
theorem d_S_commit_8 : decode b_S_commit 8 = .ok (.iload_n 1, 1) := by decide +kernel
theorem d_S_commit_9 : decode b_S_commit 9 = .ok (.invokevirtual 85, 3) := by decide +kernel
theorem d_S_commit_12 : decode b_S_commit 12 = .ok (.ireturn, 1) := by decide +kernel
theorem d_S_commit_13 : decode b_S_commit 13 = .ok (.iload_n 2, 1) := by decide +kernel
theorem d_S_commit_14 : decode b_S_commit 14 = .ok (.iconst 1, 1) := by decide +kernel
theorem d_S_commit_15 : decode b_S_commit 15 = .ok (.if_icmp .ne 14, 3) := by decide +kernel
theorem d_S_commit_18 : decode b_S_commit 18 = .ok (.aload_n 0, 1) := by decide +kernel
theorem d_S_commit_19 : decode b_S_commit 19 = .ok (.getfield 10, 3) := by decide +kernel
theorem d_S_commit_22 : decode b_S_commit 22 = .ok (.iload_n 1, 1) := by decide +kernel
theorem d_S_commit_23 : decode b_S_commit 23 = .ok (.invokevirtual 82, 3) := by decide +kernel
theorem d_S_commit_26 : decode b_S_commit 26 = .ok (.goto 4, 3) := by decide +kernel
theorem d_S_commit_29 : decode b_S_commit 29 = .ok (.iconst (-1), 1) := by decide +kernel
theorem d_S_commit_30 : decode b_S_commit 30 = .ok (.ireturn, 1) := by decide +kernel
theorem d_S_count_0 : decode b_S_count 0 = .ok (.aload_n 0, 1) := by decide +kernel
theorem d_S_count_1 : decode b_S_count 1 = .ok (.getfield 10, 3) := by decide +kernel
theorem d_S_count_4 : decode b_S_count 4 = .ok (.iload_n 1, 1) := by decide +kernel
theorem d_S_count_5 : decode b_S_count 5 = .ok (.iload_n 2, 1) := by decide +kernel
theorem d_S_count_6 : decode b_S_count 6 = .ok (.iload_n 3, 1) := by decide +kernel
theorem d_S_count_7 : decode b_S_count 7 = .ok (.invokevirtual 155, 3) := by decide +kernel
theorem d_S_count_10 : decode b_S_count 10 = .ok (.lreturn, 1) := by decide +kernel
theorem d_M_init_0 : decode b_M_init 0 = .ok (.aload_n 0, 1) := by decide +kernel
theorem d_M_init_1 : decode b_M_init 1 = .ok (.invokespecial 1, 3) := by decide +kernel
theorem d_M_init_4 : decode b_M_init 4 = .ok (.aload_n 0, 1) := by decide +kernel
theorem d_M_init_5 : decode b_M_init 5 = .ok (.bipush 60, 2) := by decide +kernel
theorem d_M_init_7 : decode b_M_init 7 = .ok (.newarray .int, 2) := by decide +kernel
theorem d_M_init_9 : decode b_M_init 9 = .ok (.putfield 7, 3) := by decide +kernel
theorem d_M_init_12 : decode b_M_init 12 = .ok (.aload_n 0, 1) := by decide +kernel
theorem d_M_init_13 : decode b_M_init 13 = .ok (.bipush 60, 2) := by decide +kernel
theorem d_M_init_15 : decode b_M_init 15 = .ok (.newarray .int, 2) := by decide +kernel
theorem d_M_init_17 : decode b_M_init 17 = .ok (.putfield 13, 3) := by decide +kernel
theorem d_M_init_20 : decode b_M_init 20 = .ok (.aload_n 0, 1) := by decide +kernel
theorem d_M_init_21 : decode b_M_init 21 = .ok (.sipush 1920, 3) := by decide +kernel
theorem d_M_init_24 : decode b_M_init 24 = .ok (.newarray .long, 2) := by decide +kernel
theorem d_M_init_26 : decode b_M_init 26 = .ok (.putfield 16, 3) := by decide +kernel
theorem d_M_init_29 : decode b_M_init 29 = .ok (.aload_n 0, 1) := by decide +kernel
theorem d_M_init_30 : decode b_M_init 30 = .ok (.bipush 100, 2) := by decide +kernel
theorem d_M_init_32 : decode b_M_init 32 = .ok (.newarray .int, 2) := by decide +kernel
theorem d_M_init_34 : decode b_M_init 34 = .ok (.putfield 20, 3) := by decide +kernel
theorem d_M_init_37 : decode b_M_init 37 = .ok (.aload_n 0, 1) := by decide +kernel
theorem d_M_init_38 : decode b_M_init 38 = .ok (.bipush 100, 2) := by decide +kernel
theorem d_M_init_40 : decode b_M_init 40 = .ok (.newarray .int, 2) := by decide +kernel
theorem d_M_init_42 : decode b_M_init 42 = .ok (.putfield 23, 3) := by decide +kernel
theorem d_M_init_45 : decode b_M_init 45 = .ok (.aload_n 0, 1) := by decide +kernel
theorem d_M_init_46 : decode b_M_init 46 = .ok (.bipush 100, 2) := by decide +kernel
theorem d_M_init_48 : decode b_M_init 48 = .ok (.newarray .boolean, 2) := by decide +kernel
theorem d_M_init_50 : decode b_M_init 50 = .ok (.putfield 26, 3) := by decide +kernel
theorem d_M_init_53 : decode b_M_init 53 = .ok (.aload_n 0, 1) := by decide +kernel
theorem d_M_init_54 : decode b_M_init 54 = .ok (.sipush 6000, 3) := by decide +kernel
theorem d_M_init_57 : decode b_M_init 57 = .ok (.newarray .boolean, 2) := by decide +kernel
theorem d_M_init_59 : decode b_M_init 59 = .ok (.putfield 30, 3) := by decide +kernel
theorem d_M_init_62 : decode b_M_init 62 = .ok (.aload_n 0, 1) := by decide +kernel
theorem d_M_init_63 : decode b_M_init 63 = .ok (.sipush 300, 3) := by decide +kernel
theorem d_M_init_66 : decode b_M_init 66 = .ok (.newarray .int, 2) := by decide +kernel
theorem d_M_init_68 : decode b_M_init 68 = .ok (.putfield 33, 3) := by decide +kernel
theorem d_M_init_71 : decode b_M_init 71 = .ok (.aload_n 0, 1) := by decide +kernel
theorem d_M_init_72 : decode b_M_init 72 = .ok (.bipush 100, 2) := by decide +kernel
theorem d_M_init_74 : decode b_M_init 74 = .ok (.newarray .int, 2) := by decide +kernel
theorem d_M_init_76 : decode b_M_init 76 = .ok (.putfield 36, 3) := by decide +kernel
theorem d_M_init_79 : decode b_M_init 79 = .ok (.aload_n 0, 1) := by decide +kernel
theorem d_M_init_80 : decode b_M_init 80 = .ok (.iconst 2, 1) := by decide +kernel
theorem d_M_init_81 : decode b_M_init 81 = .ok (.newarray .int, 2) := by decide +kernel
theorem d_M_init_83 : decode b_M_init 83 = .ok (.putfield 39, 3) := by decide +kernel
theorem d_M_init_86 : decode b_M_init 86 = .ok (.aload_n 0, 1) := by decide +kernel
theorem d_M_init_87 : decode b_M_init 87 = .ok (.bipush 60, 2) := by decide +kernel
theorem d_M_init_89 : decode b_M_init 89 = .ok (.newarray .boolean, 2) := by decide +kernel
theorem d_M_init_91 : decode b_M_init 91 = .ok (.putfield 42, 3) := by decide +kernel
theorem d_M_init_94 : decode b_M_init 94 = .ok (.aload_n 0, 1) := by decide +kernel
theorem d_M_init_95 : decode b_M_init 95 = .ok (.iconst 3, 1) := by decide +kernel
theorem d_M_init_96 : decode b_M_init 96 = .ok (.newarray .int, 2) := by decide +kernel
theorem d_M_init_98 : decode b_M_init 98 = .ok (.putfield 45, 3) := by decide +kernel
theorem d_M_init_101 : decode b_M_init 101 = .ok (.aload_n 0, 1) := by decide +kernel
theorem d_M_init_102 : decode b_M_init 102 = .ok (.bipush 60, 2) := by decide +kernel
theorem d_M_init_104 : decode b_M_init 104 = .ok (.newarray .int, 2) := by decide +kernel
theorem d_M_init_106 : decode b_M_init 106 = .ok (.putfield 48, 3) := by decide +kernel
theorem d_M_init_109 : decode b_M_init 109 = .ok (.iconst 0, 1) := by decide +kernel
theorem d_M_init_110 : decode b_M_init 110 = .ok (.istore_n 1, 1) := by decide +kernel
theorem d_M_init_111 : decode b_M_init 111 = .ok (.iload_n 1, 1) := by decide +kernel
theorem d_M_init_112 : decode b_M_init 112 = .ok (.iconst 4, 1) := by decide +kernel
theorem d_M_init_113 : decode b_M_init 113 = .ok (.if_icmp .ge 19, 3) := by decide +kernel
theorem d_M_init_116 : decode b_M_init 116 = .ok (.aload_n 0, 1) := by decide +kernel
theorem d_M_init_117 : decode b_M_init 117 = .ok (.getfield 16, 3) := by decide +kernel
theorem d_M_init_120 : decode b_M_init 120 = .ok (.bipush 8, 2) := by decide +kernel
theorem d_M_init_122 : decode b_M_init 122 = .ok (.iload_n 1, 1) := by decide +kernel
theorem d_M_init_123 : decode b_M_init 123 = .ok (.imul, 1) := by decide +kernel
theorem d_M_init_124 : decode b_M_init 124 = .ok (.lconst 1, 1) := by decide +kernel
theorem d_M_init_125 : decode b_M_init 125 = .ok (.lastore, 1) := by decide +kernel
theorem d_M_init_126 : decode b_M_init 126 = .ok (.iinc 1 1, 3) := by decide +kernel
theorem d_M_init_129 : decode b_M_init 129 = .ok (.goto (-18), 3) := by decide +kernel
theorem d_M_init_132 : decode b_M_init 132 = .ok (.aload_n 0, 1) := by decide +kernel
theorem d_M_init_133 : decode b_M_init 133 = .ok (.getfield 13, 3) := by decide +kernel
theorem d_M_init_136 : decode b_M_init 136 = .ok (.iconst 0, 1) := by decide +kernel
theorem d_M_init_137 : decode b_M_init 137 = .ok (.iconst (-1), 1) := by decide +kernel
theorem d_M_init_138 : decode b_M_init 138 = .ok (.iastore, 1) := by decide +kernel
theorem d_M_init_139 : decode b_M_init 139 = .ok (.aload_n 0, 1) := by decide +kernel
theorem d_M_init_140 : decode b_M_init 140 = .ok (.iconst 1, 1) := by decide +kernel
theorem d_M_init_141 : decode b_M_init 141 = .ok (.putfield 51, 3) := by decide +kernel
theorem d_M_init_144 : decode b_M_init 144 = .ok (.aload_n 0, 1) := by decide +kernel
theorem d_M_init_145 : decode b_M_init 145 = .ok (.iconst 1, 1) := by decide +kernel
theorem d_M_init_146 : decode b_M_init 146 = .ok (.putfield 55, 3) := by decide +kernel
theorem d_M_init_149 : decode b_M_init 149 = .ok (.aload_n 0, 1) := by decide +kernel
theorem d_M_init_150 : decode b_M_init 150 = .ok (.getfield 20, 3) := by decide +kernel
theorem d_M_init_153 : decode b_M_init 153 = .ok (.iconst 0, 1) := by decide +kernel
theorem d_M_init_154 : decode b_M_init 154 = .ok (.iconst (-1), 1) := by decide +kernel
theorem d_M_init_155 : decode b_M_init 155 = .ok (.iastore, 1) := by decide +kernel
theorem d_M_init_156 : decode b_M_init 156 = .ok (.aload_n 0, 1) := by decide +kernel
theorem d_M_init_157 : decode b_M_init 157 = .ok (.getfield 23, 3) := by decide +kernel
theorem d_M_init_160 : decode b_M_init 160 = .ok (.iconst 0, 1) := by decide +kernel
theorem d_M_init_161 : decode b_M_init 161 = .ok (.iconst (-1), 1) := by decide +kernel
theorem d_M_init_162 : decode b_M_init 162 = .ok (.iastore, 1) := by decide +kernel
theorem d_M_init_163 : decode b_M_init 163 = .ok (.aload_n 0, 1) := by decide +kernel
theorem d_M_init_164 : decode b_M_init 164 = .ok (.getfield 30, 3) := by decide +kernel
theorem d_M_init_167 : decode b_M_init 167 = .ok (.iconst 0, 1) := by decide +kernel
theorem d_M_init_168 : decode b_M_init 168 = .ok (.iconst 1, 1) := by decide +kernel
theorem d_M_init_169 : decode b_M_init 169 = .ok (.bastore, 1) := by decide +kernel
theorem d_M_init_170 : decode b_M_init 170 = .ok (.iconst 0, 1) := by decide +kernel
theorem d_M_init_171 : decode b_M_init 171 = .ok (.istore_n 1, 1) := by decide +kernel
theorem d_M_init_172 : decode b_M_init 172 = .ok (.iload_n 1, 1) := by decide +kernel
theorem d_M_init_173 : decode b_M_init 173 = .ok (.iconst 3, 1) := by decide +kernel
theorem d_M_init_174 : decode b_M_init 174 = .ok (.if_icmp .ge 16, 3) := by decide +kernel
theorem d_M_init_177 : decode b_M_init 177 = .ok (.aload_n 0, 1) := by decide +kernel
theorem d_M_init_178 : decode b_M_init 178 = .ok (.getfield 33, 3) := by decide +kernel
theorem d_M_init_181 : decode b_M_init 181 = .ok (.iload_n 1, 1) := by decide +kernel
theorem d_M_init_182 : decode b_M_init 182 = .ok (.iconst (-1), 1) := by decide +kernel
theorem d_M_init_183 : decode b_M_init 183 = .ok (.iastore, 1) := by decide +kernel
theorem d_M_init_184 : decode b_M_init 184 = .ok (.iinc 1 1, 3) := by decide +kernel
theorem d_M_init_187 : decode b_M_init 187 = .ok (.goto (-15), 3) := by decide +kernel
theorem d_M_init_190 : decode b_M_init 190 = .ok (.return_, 1) := by decide +kernel
theorem d_M_create_0 : decode b_M_create 0 = .ok (.aload_n 0, 1) := by decide +kernel
theorem d_M_create_1 : decode b_M_create 1 = .ok (.aload_n 0, 1) := by decide +kernel
theorem d_M_create_2 : decode b_M_create 2 = .ok (.invokevirtual 107, 3) := by decide +kernel
theorem d_M_create_5 : decode b_M_create 5 = .ok (.iload_n 1, 1) := by decide +kernel
theorem d_M_create_6 : decode b_M_create 6 = .ok (.invokevirtual 113, 3) := by decide +kernel
theorem d_M_create_9 : decode b_M_create 9 = .ok (.ifCond .ne 5, 3) := by decide +kernel
theorem d_M_create_12 : decode b_M_create 12 = .ok (.iconst (-1), 1) := by decide +kernel
theorem d_M_create_13 : decode b_M_create 13 = .ok (.ireturn, 1) := by decide +kernel
theorem d_M_create_14 : decode b_M_create 14 = .ok (.aload_n 0, 1) := by decide +kernel
theorem d_M_create_15 : decode b_M_create 15 = .ok (.aload_n 0, 1) := by decide +kernel
theorem d_M_create_16 : decode b_M_create 16 = .ok (.invokevirtual 107, 3) := by decide +kernel
theorem d_M_create_19 : decode b_M_create 19 = .ok (.invokevirtual 116, 3) := by decide +kernel
theorem d_M_create_22 : decode b_M_create 22 = .ok (.aload_n 0, 1) := by decide +kernel
theorem d_M_create_23 : decode b_M_create 23 = .ok (.aload_n 0, 1) := by decide +kernel
theorem d_M_create_24 : decode b_M_create 24 = .ok (.getfield 71, 3) := by decide +kernel
theorem d_M_create_27 : decode b_M_create 27 = .ok (.iconst 1, 1) := by decide +kernel
theorem d_M_create_28 : decode b_M_create 28 = .ok (.iadd, 1) := by decide +kernel
theorem d_M_create_29 : decode b_M_create 29 = .ok (.iload_n 1, 1) := by decide +kernel
theorem d_M_create_30 : decode b_M_create 30 = .ok (.invokevirtual 96, 3) := by decide +kernel
theorem d_M_create_33 : decode b_M_create 33 = .ok (.istore_n 2, 1) := by decide +kernel
theorem d_M_create_34 : decode b_M_create 34 = .ok (.iload_n 2, 1) := by decide +kernel
theorem d_M_create_35 : decode b_M_create 35 = .ok (.ifCond .lt 31, 3) := by decide +kernel
theorem d_M_create_38 : decode b_M_create 38 = .ok (.aload_n 0, 1) := by decide +kernel
theorem d_M_create_39 : decode b_M_create 39 = .ok (.dup, 1) := by decide +kernel
theorem d_M_create_40 : decode b_M_create 40 = .ok (.getfield 71, 3) := by decide +kernel
theorem d_M_create_43 : decode b_M_create 43 = .ok (.iconst 1, 1) := by decide +kernel
theorem d_M_create_44 : decode b_M_create 44 = .ok (.iadd, 1) := by decide +kernel
theorem d_M_create_45 : decode b_M_create 45 = .ok (.putfield 71, 3) := by decide +kernel
theorem d_M_create_48 : decode b_M_create 48 = .ok (.aload_n 0, 1) := by decide +kernel
theorem d_M_create_49 : decode b_M_create 49 = .ok (.iload_n 2, 1) := by decide +kernel
theorem d_M_create_50 : decode b_M_create 50 = .ok (.iload_n 1, 1) := by decide +kernel
theorem d_M_create_51 : decode b_M_create 51 = .ok (.invokevirtual 120, 3) := by decide +kernel
theorem d_M_create_54 : decode b_M_create 54 = .ok (.aload_n 0, 1) := by decide +kernel
theorem d_M_create_55 : decode b_M_create 55 = .ok (.getfield 42, 3) := by decide +kernel
theorem d_M_create_58 : decode b_M_create 58 = .ok (.iload_n 2, 1) := by decide +kernel
