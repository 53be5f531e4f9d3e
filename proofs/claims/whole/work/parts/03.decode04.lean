theorem d_M_create_59 : decode b_M_create 59 = .ok (.iconst 1, 1) := by decide +kernel
theorem d_M_create_60 : decode b_M_create 60 = .ok (.bastore, 1) := by decide +kernel
theorem d_M_create_61 : decode b_M_create 61 = .ok (.aload_n 0, 1) := by decide +kernel
theorem d_M_create_62 : decode b_M_create 62 = .ok (.iload_n 2, 1) := by decide +kernel
theorem d_M_create_63 : decode b_M_create 63 = .ok (.putfield 65, 3) := by decide +kernel
theorem d_M_create_66 : decode b_M_create 66 = .ok (.aload_n 0, 1) := by decide +kernel
theorem d_M_create_67 : decode b_M_create 67 = .ok (.invokevirtual 123, 3) := by decide +kernel
theorem d_M_create_70 : decode b_M_create 70 = .ok (.ireturn, 1) := by decide +kernel
theorem d_M_here_0 : decode b_M_here 0 = .ok (.aload_n 0, 1) := by decide +kernel
theorem d_M_here_1 : decode b_M_here 1 = .ok (.getfield 39, 3) := by decide +kernel
theorem d_M_here_4 : decode b_M_here 4 = .ok (.aload_n 0, 1) := by decide +kernel
theorem d_M_here_5 : decode b_M_here 5 = .ok (.getfield 58, 3) := by decide +kernel
theorem d_M_here_8 : decode b_M_here 8 = .ok (.iaload, 1) := by decide +kernel
theorem d_M_here_9 : decode b_M_here 9 = .ok (.ireturn, 1) := by decide +kernel
theorem d_M_isVisible_0 : decode b_M_isVisible 0 = .ok (.iload_n 2, 1) := by decide +kernel
theorem d_M_isVisible_1 : decode b_M_isVisible 1 = .ok (.ifCond .lt 29, 3) := by decide +kernel
theorem d_M_isVisible_4 : decode b_M_isVisible 4 = .ok (.iload_n 2, 1) := by decide +kernel
theorem d_M_isVisible_5 : decode b_M_isVisible 5 = .ok (.aload_n 0, 1) := by decide +kernel
theorem d_M_isVisible_6 : decode b_M_isVisible 6 = .ok (.getfield 51, 3) := by decide +kernel
theorem d_M_isVisible_9 : decode b_M_isVisible 9 = .ok (.if_icmp .ge 21, 3) := by decide +kernel
theorem d_M_isVisible_12 : decode b_M_isVisible 12 = .ok (.aload_n 0, 1) := by decide +kernel
theorem d_M_isVisible_13 : decode b_M_isVisible 13 = .ok (.getfield 30, 3) := by decide +kernel
theorem d_M_isVisible_16 : decode b_M_isVisible 16 = .ok (.bipush 60, 2) := by decide +kernel
theorem d_M_isVisible_18 : decode b_M_isVisible 18 = .ok (.iload_n 1, 1) := by decide +kernel
theorem d_M_isVisible_19 : decode b_M_isVisible 19 = .ok (.imul, 1) := by decide +kernel
theorem d_M_isVisible_20 : decode b_M_isVisible 20 = .ok (.iload_n 2, 1) := by decide +kernel
theorem d_M_isVisible_21 : decode b_M_isVisible 21 = .ok (.iadd, 1) := by decide +kernel
theorem d_M_isVisible_22 : decode b_M_isVisible 22 = .ok (.baload, 1) := by decide +kernel
theorem d_M_isVisible_23 : decode b_M_isVisible 23 = .ok (.ifCond .eq 7, 3) := by decide +kernel
theorem d_M_isVisible_26 : decode b_M_isVisible 26 = .ok (.iconst 1, 1) := by decide +kernel
theorem d_M_isVisible_27 : decode b_M_isVisible 27 = .ok (.goto 4, 3) := by decide +kernel
theorem d_M_isVisible_30 : decode b_M_isVisible 30 = .ok (.iconst 0, 1) := by decide +kernel
theorem d_M_isVisible_31 : decode b_M_isVisible 31 = .ok (.ireturn, 1) := by decide +kernel
theorem d_M_begin_0 : decode b_M_begin 0 = .ok (.iconst 0, 1) := by decide +kernel
theorem d_M_begin_1 : decode b_M_begin 1 = .ok (.istore_n 2, 1) := by decide +kernel
theorem d_M_begin_2 : decode b_M_begin 2 = .ok (.iload_n 2, 1) := by decide +kernel
theorem d_M_begin_3 : decode b_M_begin 3 = .ok (.bipush 60, 2) := by decide +kernel
theorem d_M_begin_5 : decode b_M_begin 5 = .ok (.if_icmp .ge 33, 3) := by decide +kernel
theorem d_M_begin_8 : decode b_M_begin 8 = .ok (.aload_n 0, 1) := by decide +kernel
theorem d_M_begin_9 : decode b_M_begin 9 = .ok (.getfield 42, 3) := by decide +kernel
theorem d_M_begin_12 : decode b_M_begin 12 = .ok (.iload_n 2, 1) := by decide +kernel
theorem d_M_begin_13 : decode b_M_begin 13 = .ok (.aload_n 0, 1) := by decide +kernel
theorem d_M_begin_14 : decode b_M_begin 14 = .ok (.getfield 30, 3) := by decide +kernel
theorem d_M_begin_17 : decode b_M_begin 17 = .ok (.bipush 60, 2) := by decide +kernel
theorem d_M_begin_19 : decode b_M_begin 19 = .ok (.iload_n 1, 1) := by decide +kernel
theorem d_M_begin_20 : decode b_M_begin 20 = .ok (.imul, 1) := by decide +kernel
theorem d_M_begin_21 : decode b_M_begin 21 = .ok (.iload_n 2, 1) := by decide +kernel
theorem d_M_begin_22 : decode b_M_begin 22 = .ok (.iadd, 1) := by decide +kernel
theorem d_M_begin_23 : decode b_M_begin 23 = .ok (.baload, 1) := by decide +kernel
theorem d_M_begin_24 : decode b_M_begin 24 = .ok (.bastore, 1) := by decide +kernel
theorem d_M_begin_25 : decode b_M_begin 25 = .ok (.aload_n 0, 1) := by decide +kernel
theorem d_M_begin_26 : decode b_M_begin 26 = .ok (.getfield 48, 3) := by decide +kernel
theorem d_M_begin_29 : decode b_M_begin 29 = .ok (.iload_n 2, 1) := by decide +kernel
theorem d_M_begin_30 : decode b_M_begin 30 = .ok (.iconst (-1), 1) := by decide +kernel
theorem d_M_begin_31 : decode b_M_begin 31 = .ok (.iastore, 1) := by decide +kernel
theorem d_M_begin_32 : decode b_M_begin 32 = .ok (.iinc 2 1, 3) := by decide +kernel
theorem d_M_begin_35 : decode b_M_begin 35 = .ok (.goto (-33), 3) := by decide +kernel
theorem d_M_begin_38 : decode b_M_begin 38 = .ok (.iconst 0, 1) := by decide +kernel
theorem d_M_begin_39 : decode b_M_begin 39 = .ok (.istore_n 2, 1) := by decide +kernel
theorem d_M_begin_40 : decode b_M_begin 40 = .ok (.iload_n 2, 1) := by decide +kernel
theorem d_M_begin_41 : decode b_M_begin 41 = .ok (.iconst 3, 1) := by decide +kernel
theorem d_M_begin_42 : decode b_M_begin 42 = .ok (.if_icmp .ge 25, 3) := by decide +kernel
theorem d_M_begin_45 : decode b_M_begin 45 = .ok (.aload_n 0, 1) := by decide +kernel
theorem d_M_begin_46 : decode b_M_begin 46 = .ok (.getfield 45, 3) := by decide +kernel
theorem d_M_begin_49 : decode b_M_begin 49 = .ok (.iload_n 2, 1) := by decide +kernel
theorem d_M_begin_50 : decode b_M_begin 50 = .ok (.aload_n 0, 1) := by decide +kernel
theorem d_M_begin_51 : decode b_M_begin 51 = .ok (.getfield 33, 3) := by decide +kernel
theorem d_M_begin_54 : decode b_M_begin 54 = .ok (.iconst 3, 1) := by decide +kernel
theorem d_M_begin_55 : decode b_M_begin 55 = .ok (.iload_n 1, 1) := by decide +kernel
theorem d_M_begin_56 : decode b_M_begin 56 = .ok (.imul, 1) := by decide +kernel
theorem d_M_begin_57 : decode b_M_begin 57 = .ok (.iload_n 2, 1) := by decide +kernel
theorem d_M_begin_58 : decode b_M_begin 58 = .ok (.iadd, 1) := by decide +kernel
theorem d_M_begin_59 : decode b_M_begin 59 = .ok (.iaload, 1) := by decide +kernel
theorem d_M_begin_60 : decode b_M_begin 60 = .ok (.iastore, 1) := by decide +kernel
theorem d_M_begin_61 : decode b_M_begin 61 = .ok (.iinc 2 1, 3) := by decide +kernel
theorem d_M_begin_64 : decode b_M_begin 64 = .ok (.goto (-24), 3) := by decide +kernel
theorem d_M_begin_67 : decode b_M_begin 67 = .ok (.aload_n 0, 1) := by decide +kernel
theorem d_M_begin_68 : decode b_M_begin 68 = .ok (.aload_n 0, 1) := by decide +kernel
theorem d_M_begin_69 : decode b_M_begin 69 = .ok (.getfield 36, 3) := by decide +kernel
theorem d_M_begin_72 : decode b_M_begin 72 = .ok (.iload_n 1, 1) := by decide +kernel
theorem d_M_begin_73 : decode b_M_begin 73 = .ok (.iaload, 1) := by decide +kernel
theorem d_M_begin_74 : decode b_M_begin 74 = .ok (.putfield 65, 3) := by decide +kernel
theorem d_M_begin_77 : decode b_M_begin 77 = .ok (.aload_n 0, 1) := by decide +kernel
theorem d_M_begin_78 : decode b_M_begin 78 = .ok (.aload_n 0, 1) := by decide +kernel
theorem d_M_begin_79 : decode b_M_begin 79 = .ok (.getfield 51, 3) := by decide +kernel
theorem d_M_begin_82 : decode b_M_begin 82 = .ok (.putfield 68, 3) := by decide +kernel
theorem d_M_begin_85 : decode b_M_begin 85 = .ok (.aload_n 0, 1) := by decide +kernel
theorem d_M_begin_86 : decode b_M_begin 86 = .ok (.aload_n 0, 1) := by decide +kernel
theorem d_M_begin_87 : decode b_M_begin 87 = .ok (.getfield 71, 3) := by decide +kernel
theorem d_M_begin_90 : decode b_M_begin 90 = .ok (.putfield 74, 3) := by decide +kernel
theorem d_M_begin_93 : decode b_M_begin 93 = .ok (.aload_n 0, 1) := by decide +kernel
theorem d_M_begin_94 : decode b_M_begin 94 = .ok (.iconst 0, 1) := by decide +kernel
theorem d_M_begin_95 : decode b_M_begin 95 = .ok (.putfield 77, 3) := by decide +kernel
theorem d_M_begin_98 : decode b_M_begin 98 = .ok (.return_, 1) := by decide +kernel
theorem d_M_fresh_0 : decode b_M_fresh 0 = .ok (.aload_n 0, 1) := by decide +kernel
theorem d_M_fresh_1 : decode b_M_fresh 1 = .ok (.getfield 51, 3) := by decide +kernel
theorem d_M_fresh_4 : decode b_M_fresh 4 = .ok (.bipush 60, 2) := by decide +kernel
theorem d_M_fresh_6 : decode b_M_fresh 6 = .ok (.if_icmp .ne 10, 3) := by decide +kernel
theorem d_M_fresh_9 : decode b_M_fresh 9 = .ok (.aload_n 0, 1) := by decide +kernel
theorem d_M_fresh_10 : decode b_M_fresh 10 = .ok (.iconst 1, 1) := by decide +kernel
theorem d_M_fresh_11 : decode b_M_fresh 11 = .ok (.putfield 77, 3) := by decide +kernel
theorem d_M_fresh_14 : decode b_M_fresh 14 = .ok (.iconst (-1), 1) := by decide +kernel
theorem d_M_fresh_15 : decode b_M_fresh 15 = .ok (.ireturn, 1) := by decide +kernel
theorem d_M_fresh_16 : decode b_M_fresh 16 = .ok (.aload_n 0, 1) := by decide +kernel
theorem d_M_fresh_17 : decode b_M_fresh 17 = .ok (.getfield 7, 3) := by decide +kernel
theorem d_M_fresh_20 : decode b_M_fresh 20 = .ok (.aload_n 0, 1) := by decide +kernel
theorem d_M_fresh_21 : decode b_M_fresh 21 = .ok (.getfield 51, 3) := by decide +kernel
theorem d_M_fresh_24 : decode b_M_fresh 24 = .ok (.iload_n 1, 1) := by decide +kernel
theorem d_M_fresh_25 : decode b_M_fresh 25 = .ok (.iastore, 1) := by decide +kernel
theorem d_M_fresh_26 : decode b_M_fresh 26 = .ok (.aload_n 0, 1) := by decide +kernel
theorem d_M_fresh_27 : decode b_M_fresh 27 = .ok (.getfield 13, 3) := by decide +kernel
theorem d_M_fresh_30 : decode b_M_fresh 30 = .ok (.aload_n 0, 1) := by decide +kernel
theorem d_M_fresh_31 : decode b_M_fresh 31 = .ok (.getfield 51, 3) := by decide +kernel
theorem d_M_fresh_34 : decode b_M_fresh 34 = .ok (.iload_n 2, 1) := by decide +kernel
theorem d_M_fresh_35 : decode b_M_fresh 35 = .ok (.iastore, 1) := by decide +kernel
theorem d_M_fresh_36 : decode b_M_fresh 36 = .ok (.aload_n 0, 1) := by decide +kernel
theorem d_M_fresh_37 : decode b_M_fresh 37 = .ok (.dup, 1) := by decide +kernel
theorem d_M_fresh_38 : decode b_M_fresh 38 = .ok (.getfield 51, 3) := by decide +kernel
theorem d_M_fresh_41 : decode b_M_fresh 41 = .ok (.iconst 1, 1) := by decide +kernel
theorem d_M_fresh_42 : decode b_M_fresh 42 = .ok (.iadd, 1) := by decide +kernel
theorem d_M_fresh_43 : decode b_M_fresh 43 = .ok (.putfield 51, 3) := by decide +kernel
theorem d_M_fresh_46 : decode b_M_fresh 46 = .ok (.aload_n 0, 1) := by decide +kernel
theorem d_M_fresh_47 : decode b_M_fresh 47 = .ok (.getfield 51, 3) := by decide +kernel
theorem d_M_fresh_50 : decode b_M_fresh 50 = .ok (.iconst 1, 1) := by decide +kernel
theorem d_M_fresh_51 : decode b_M_fresh 51 = .ok (.isub, 1) := by decide +kernel
theorem d_M_fresh_52 : decode b_M_fresh 52 = .ok (.ireturn, 1) := by decide +kernel
theorem d_M_copyContents_0 : decode b_M_copyContents 0 = .ok (.iconst 0, 1) := by decide +kernel
theorem d_M_copyContents_1 : decode b_M_copyContents 1 = .ok (.istore_n 3, 1) := by decide +kernel
theorem d_M_copyContents_2 : decode b_M_copyContents 2 = .ok (.iload_n 3, 1) := by decide +kernel
theorem d_M_copyContents_3 : decode b_M_copyContents 3 = .ok (.bipush 32, 2) := by decide +kernel
theorem d_M_copyContents_5 : decode b_M_copyContents 5 = .ok (.if_icmp .ge 31, 3) := by decide +kernel
theorem d_M_copyContents_8 : decode b_M_copyContents 8 = .ok (.aload_n 0, 1) := by decide +kernel
theorem d_M_copyContents_9 : decode b_M_copyContents 9 = .ok (.getfield 16, 3) := by decide +kernel
theorem d_M_copyContents_12 : decode b_M_copyContents 12 = .ok (.bipush 32, 2) := by decide +kernel
theorem d_M_copyContents_14 : decode b_M_copyContents 14 = .ok (.iload_n 1, 1) := by decide +kernel
theorem d_M_copyContents_15 : decode b_M_copyContents 15 = .ok (.imul, 1) := by decide +kernel
theorem d_M_copyContents_16 : decode b_M_copyContents 16 = .ok (.iload_n 3, 1) := by decide +kernel
theorem d_M_copyContents_17 : decode b_M_copyContents 17 = .ok (.iadd, 1) := by decide +kernel
theorem d_M_copyContents_18 : decode b_M_copyContents 18 = .ok (.aload_n 0, 1) := by decide +kernel
theorem d_M_copyContents_19 : decode b_M_copyContents 19 = .ok (.getfield 16, 3) := by decide +kernel
theorem d_M_copyContents_22 : decode b_M_copyContents 22 = .ok (.bipush 32, 2) := by decide +kernel
theorem d_M_copyContents_24 : decode b_M_copyContents 24 = .ok (.iload_n 2, 1) := by decide +kernel
theorem d_M_copyContents_25 : decode b_M_copyContents 25 = .ok (.imul, 1) := by decide +kernel
theorem d_M_copyContents_26 : decode b_M_copyContents 26 = .ok (.iload_n 3, 1) := by decide +kernel
theorem d_M_copyContents_27 : decode b_M_copyContents 27 = .ok (.iadd, 1) := by decide +kernel
theorem d_M_copyContents_28 : decode b_M_copyContents 28 = .ok (.laload, 1) := by decide +kernel
theorem d_M_copyContents_29 : decode b_M_copyContents 29 = .ok (.lastore, 1) := by decide +kernel
theorem d_M_copyContents_30 : decode b_M_copyContents 30 = .ok (.iinc 3 1, 3) := by decide +kernel
theorem d_M_copyContents_33 : decode b_M_copyContents 33 = .ok (.goto (-31), 3) := by decide +kernel
theorem d_M_copyContents_36 : decode b_M_copyContents 36 = .ok (.return_, 1) := by decide +kernel
theorem d_M_done_0 : decode b_M_done 0 = .ok (.aload_n 0, 1) := by decide +kernel
theorem d_M_done_1 : decode b_M_done 1 = .ok (.aload_n 0, 1) := by decide +kernel
theorem d_M_done_2 : decode b_M_done 2 = .ok (.invokevirtual 107, 3) := by decide +kernel
theorem d_M_done_5 : decode b_M_done 5 = .ok (.iconst (-1), 1) := by decide +kernel
theorem d_M_done_6 : decode b_M_done 6 = .ok (.invokevirtual 110, 3) := by decide +kernel
theorem d_M_done_9 : decode b_M_done 9 = .ok (.istore_n 1, 1) := by decide +kernel
theorem d_M_done_10 : decode b_M_done 10 = .ok (.aload_n 0, 1) := by decide +kernel
theorem d_M_done_11 : decode b_M_done 11 = .ok (.getfield 39, 3) := by decide +kernel
theorem d_M_done_14 : decode b_M_done 14 = .ok (.aload_n 0, 1) := by decide +kernel
theorem d_M_done_15 : decode b_M_done 15 = .ok (.getfield 58, 3) := by decide +kernel
theorem d_M_done_18 : decode b_M_done 18 = .ok (.iload_n 1, 1) := by decide +kernel
theorem d_M_done_19 : decode b_M_done 19 = .ok (.ifCond .lt 7, 3) := by decide +kernel
theorem d_M_done_22 : decode b_M_done 22 = .ok (.iload_n 1, 1) := by decide +kernel
theorem d_M_done_23 : decode b_M_done 23 = .ok (.goto 7, 3) := by decide +kernel
theorem d_M_done_26 : decode b_M_done 26 = .ok (.aload_n 0, 1) := by decide +kernel
theorem d_M_done_27 : decode b_M_done 27 = .ok (.invokevirtual 107, 3) := by decide +kernel
theorem d_M_done_30 : decode b_M_done 30 = .ok (.iastore, 1) := by decide +kernel
theorem d_M_done_31 : decode b_M_done 31 = .ok (.iload_n 1, 1) := by decide +kernel
theorem d_M_done_32 : decode b_M_done 32 = .ok (.ireturn, 1) := by decide +kernel
theorem d_M_finish_0 : decode b_M_finish 0 = .ok (.aload_n 0, 1) := by decide +kernel
theorem d_M_finish_1 : decode b_M_finish 1 = .ok (.getfield 77, 3) := by decide +kernel
theorem d_M_finish_4 : decode b_M_finish 4 = .ok (.ifCond .ne 12, 3) := by decide +kernel
theorem d_M_finish_7 : decode b_M_finish 7 = .ok (.aload_n 0, 1) := by decide +kernel
theorem d_M_finish_8 : decode b_M_finish 8 = .ok (.getfield 55, 3) := by decide +kernel
theorem d_M_finish_11 : decode b_M_finish 11 = .ok (.bipush 100, 2) := by decide +kernel
theorem d_M_finish_13 : decode b_M_finish 13 = .ok (.if_icmp .ne 22, 3) := by decide +kernel
theorem d_M_finish_16 : decode b_M_finish 16 = .ok (.aload_n 0, 1) := by decide +kernel
theorem d_M_finish_17 : decode b_M_finish 17 = .ok (.aload_n 0, 1) := by decide +kernel
theorem d_M_finish_18 : decode b_M_finish 18 = .ok (.getfield 68, 3) := by decide +kernel
theorem d_M_finish_21 : decode b_M_finish 21 = .ok (.putfield 51, 3) := by decide +kernel
theorem d_M_finish_24 : decode b_M_finish 24 = .ok (.aload_n 0, 1) := by decide +kernel
theorem d_M_finish_25 : decode b_M_finish 25 = .ok (.aload_n 0, 1) := by decide +kernel
theorem d_M_finish_26 : decode b_M_finish 26 = .ok (.getfield 74, 3) := by decide +kernel
theorem d_M_finish_29 : decode b_M_finish 29 = .ok (.putfield 71, 3) := by decide +kernel
theorem d_M_finish_32 : decode b_M_finish 32 = .ok (.bipush (-3), 2) := by decide +kernel
theorem d_M_finish_34 : decode b_M_finish 34 = .ok (.ireturn, 1) := by decide +kernel
theorem d_M_finish_35 : decode b_M_finish 35 = .ok (.aload_n 0, 1) := by decide +kernel
theorem d_M_finish_36 : decode b_M_finish 36 = .ok (.getfield 55, 3) := by decide +kernel
theorem d_M_finish_39 : decode b_M_finish 39 = .ok (.istore_n 3, 1) := by decide +kernel
theorem d_M_finish_40 : decode b_M_finish 40 = .ok (.aload_n 0, 1) := by decide +kernel
theorem d_M_finish_41 : decode b_M_finish 41 = .ok (.dup, 1) := by decide +kernel
theorem d_M_finish_42 : decode b_M_finish 42 = .ok (.getfield 55, 3) := by decide +kernel
theorem d_M_finish_45 : decode b_M_finish 45 = .ok (.iconst 1, 1) := by decide +kernel
theorem d_M_finish_46 : decode b_M_finish 46 = .ok (.iadd, 1) := by decide +kernel
theorem d_M_finish_47 : decode b_M_finish 47 = .ok (.putfield 55, 3) := by decide +kernel
theorem d_M_finish_50 : decode b_M_finish 50 = .ok (.aload_n 0, 1) := by decide +kernel
theorem d_M_finish_51 : decode b_M_finish 51 = .ok (.getfield 20, 3) := by decide +kernel
theorem d_M_finish_54 : decode b_M_finish 54 = .ok (.iload_n 3, 1) := by decide +kernel
theorem d_M_finish_55 : decode b_M_finish 55 = .ok (.iload_n 1, 1) := by decide +kernel
theorem d_M_finish_56 : decode b_M_finish 56 = .ok (.iastore, 1) := by decide +kernel
theorem d_M_finish_57 : decode b_M_finish 57 = .ok (.aload_n 0, 1) := by decide +kernel
theorem d_M_finish_58 : decode b_M_finish 58 = .ok (.getfield 23, 3) := by decide +kernel
theorem d_M_finish_61 : decode b_M_finish 61 = .ok (.iload_n 3, 1) := by decide +kernel
theorem d_M_finish_62 : decode b_M_finish 62 = .ok (.iload_n 2, 1) := by decide +kernel
theorem d_M_finish_63 : decode b_M_finish 63 = .ok (.iastore, 1) := by decide +kernel
theorem d_M_finish_64 : decode b_M_finish 64 = .ok (.iconst 0, 1) := by decide +kernel
theorem d_M_finish_65 : decode b_M_finish 65 = .ok (.istore 4, 2) := by decide +kernel
theorem d_M_finish_67 : decode b_M_finish 67 = .ok (.iload 4, 2) := by decide +kernel
theorem d_M_finish_69 : decode b_M_finish 69 = .ok (.bipush 60, 2) := by decide +kernel
theorem d_M_finish_71 : decode b_M_finish 71 = .ok (.if_icmp .ge 28, 3) := by decide +kernel
theorem d_M_finish_74 : decode b_M_finish 74 = .ok (.aload_n 0, 1) := by decide +kernel
theorem d_M_finish_75 : decode b_M_finish 75 = .ok (.getfield 30, 3) := by decide +kernel
theorem d_M_finish_78 : decode b_M_finish 78 = .ok (.bipush 60, 2) := by decide +kernel
theorem d_M_finish_80 : decode b_M_finish 80 = .ok (.iload_n 3, 1) := by decide +kernel
theorem d_M_finish_81 : decode b_M_finish 81 = .ok (.imul, 1) := by decide +kernel
theorem d_M_finish_82 : decode b_M_finish 82 = .ok (.iload 4, 2) := by decide +kernel
theorem d_M_finish_84 : decode b_M_finish 84 = .ok (.iadd, 1) := by decide +kernel
theorem d_M_finish_85 : decode b_M_finish 85 = .ok (.aload_n 0, 1) := by decide +kernel
theorem d_M_finish_86 : decode b_M_finish 86 = .ok (.getfield 42, 3) := by decide +kernel
theorem d_M_finish_89 : decode b_M_finish 89 = .ok (.iload 4, 2) := by decide +kernel
theorem d_M_finish_91 : decode b_M_finish 91 = .ok (.baload, 1) := by decide +kernel
theorem d_M_finish_92 : decode b_M_finish 92 = .ok (.bastore, 1) := by decide +kernel
theorem d_M_finish_93 : decode b_M_finish 93 = .ok (.iinc 4 1, 3) := by decide +kernel
theorem d_M_finish_96 : decode b_M_finish 96 = .ok (.goto (-29), 3) := by decide +kernel
theorem d_M_finish_99 : decode b_M_finish 99 = .ok (.iconst 0, 1) := by decide +kernel
theorem d_M_finish_100 : decode b_M_finish 100 = .ok (.istore 4, 2) := by decide +kernel
theorem d_M_finish_102 : decode b_M_finish 102 = .ok (.iload 4, 2) := by decide +kernel
theorem d_M_finish_104 : decode b_M_finish 104 = .ok (.iconst 3, 1) := by decide +kernel
theorem d_M_finish_105 : decode b_M_finish 105 = .ok (.if_icmp .ge 27, 3) := by decide +kernel
theorem d_M_finish_108 : decode b_M_finish 108 = .ok (.aload_n 0, 1) := by decide +kernel
theorem d_M_finish_109 : decode b_M_finish 109 = .ok (.getfield 33, 3) := by decide +kernel
theorem d_M_finish_112 : decode b_M_finish 112 = .ok (.iconst 3, 1) := by decide +kernel
theorem d_M_finish_113 : decode b_M_finish 113 = .ok (.iload_n 3, 1) := by decide +kernel
theorem d_M_finish_114 : decode b_M_finish 114 = .ok (.imul, 1) := by decide +kernel
theorem d_M_finish_115 : decode b_M_finish 115 = .ok (.iload 4, 2) := by decide +kernel
theorem d_M_finish_117 : decode b_M_finish 117 = .ok (.iadd, 1) := by decide +kernel
theorem d_M_finish_118 : decode b_M_finish 118 = .ok (.aload_n 0, 1) := by decide +kernel
theorem d_M_finish_119 : decode b_M_finish 119 = .ok (.getfield 45, 3) := by decide +kernel
theorem d_M_finish_122 : decode b_M_finish 122 = .ok (.iload 4, 2) := by decide +kernel
theorem d_M_finish_124 : decode b_M_finish 124 = .ok (.iaload, 1) := by decide +kernel
theorem d_M_finish_125 : decode b_M_finish 125 = .ok (.iastore, 1) := by decide +kernel
theorem d_M_finish_126 : decode b_M_finish 126 = .ok (.iinc 4 1, 3) := by decide +kernel
theorem d_M_finish_129 : decode b_M_finish 129 = .ok (.goto (-27), 3) := by decide +kernel
theorem d_M_finish_132 : decode b_M_finish 132 = .ok (.aload_n 0, 1) := by decide +kernel
theorem d_M_finish_133 : decode b_M_finish 133 = .ok (.getfield 36, 3) := by decide +kernel
theorem d_M_finish_136 : decode b_M_finish 136 = .ok (.iload_n 3, 1) := by decide +kernel
theorem d_M_finish_137 : decode b_M_finish 137 = .ok (.aload_n 0, 1) := by decide +kernel
theorem d_M_finish_138 : decode b_M_finish 138 = .ok (.getfield 65, 3) := by decide +kernel
theorem d_M_finish_141 : decode b_M_finish 141 = .ok (.iastore, 1) := by decide +kernel
theorem d_M_finish_142 : decode b_M_finish 142 = .ok (.iload_n 3, 1) := by decide +kernel
theorem d_M_finish_143 : decode b_M_finish 143 = .ok (.ireturn, 1) := by decide +kernel
theorem d_M_write_0 : decode b_M_write 0 = .ok (.aload_n 0, 1) := by decide +kernel
theorem d_M_write_1 : decode b_M_write 1 = .ok (.getfield 36, 3) := by decide +kernel
theorem d_M_write_4 : decode b_M_write 4 = .ok (.aload_n 0, 1) := by decide +kernel
theorem d_M_write_5 : decode b_M_write 5 = .ok (.invokevirtual 107, 3) := by decide +kernel
theorem d_M_write_8 : decode b_M_write 8 = .ok (.iaload, 1) := by decide +kernel
theorem d_M_write_9 : decode b_M_write 9 = .ok (.istore_n 3, 1) := by decide +kernel
theorem d_M_write_10 : decode b_M_write 10 = .ok (.iload_n 3, 1) := by decide +kernel
theorem d_M_write_11 : decode b_M_write 11 = .ok (.ifCond .eq 22, 3) := by decide +kernel
theorem d_M_write_14 : decode b_M_write 14 = .ok (.iload_n 1, 1) := by decide +kernel
theorem d_M_write_15 : decode b_M_write 15 = .ok (.ifCond .lt 18, 3) := by decide +kernel
theorem d_M_write_18 : decode b_M_write 18 = .ok (.iload_n 1, 1) := by decide +kernel
theorem d_M_write_19 : decode b_M_write 19 = .ok (.iconst 3, 1) := by decide +kernel
theorem d_M_write_20 : decode b_M_write 20 = .ok (.if_icmp .gt 13, 3) := by decide +kernel
theorem d_M_write_23 : decode b_M_write 23 = .ok (.iload_n 2, 1) := by decide +kernel
theorem d_M_write_24 : decode b_M_write 24 = .ok (.ifCond .lt 9, 3) := by decide +kernel
theorem d_M_write_27 : decode b_M_write 27 = .ok (.iload_n 2, 1) := by decide +kernel
theorem d_M_write_28 : decode b_M_write 28 = .ok (.bipush 7, 2) := by decide +kernel
theorem d_M_write_30 : decode b_M_write 30 = .ok (.if_icmp .le 5, 3) := by decide +kernel
theorem d_M_write_33 : decode b_M_write 33 = .ok (.iconst (-1), 1) := by decide +kernel
theorem d_M_write_34 : decode b_M_write 34 = .ok (.ireturn, 1) := by decide +kernel
theorem d_M_write_35 : decode b_M_write 35 = .ok (.aload_n 0, 1) := by decide +kernel
theorem d_M_write_36 : decode b_M_write 36 = .ok (.iload_n 3, 1) := by decide +kernel
theorem d_M_write_37 : decode b_M_write 37 = .ok (.iload_n 1, 1) := by decide +kernel
theorem d_M_write_38 : decode b_M_write 38 = .ok (.iload_n 2, 1) := by decide +kernel
theorem d_M_write_39 : decode b_M_write 39 = .ok (.invokevirtual 126, 3) := by decide +kernel
theorem d_M_write_42 : decode b_M_write 42 = .ok (.ifCond .eq 6, 3) := by decide +kernel
theorem d_M_write_45 : decode b_M_write 45 = .ok (.bipush (-2), 2) := by decide +kernel
theorem d_M_write_47 : decode b_M_write 47 = .ok (.ireturn, 1) := by decide +kernel
theorem d_M_write_48 : decode b_M_write 48 = .ok (.aload_n 0, 1) := by decide +kernel
theorem d_M_write_49 : decode b_M_write 49 = .ok (.aload_n 0, 1) := by decide +kernel
theorem d_M_write_50 : decode b_M_write 50 = .ok (.invokevirtual 107, 3) := by decide +kernel
theorem d_M_write_53 : decode b_M_write 53 = .ok (.invokevirtual 116, 3) := by decide +kernel
theorem d_M_write_56 : decode b_M_write 56 = .ok (.aload_n 0, 1) := by decide +kernel
theorem d_M_write_57 : decode b_M_write 57 = .ok (.aload_n 0, 1) := by decide +kernel
theorem d_M_write_58 : decode b_M_write 58 = .ok (.getfield 7, 3) := by decide +kernel
theorem d_M_write_61 : decode b_M_write 61 = .ok (.iload_n 3, 1) := by decide +kernel
theorem d_M_write_62 : decode b_M_write 62 = .ok (.iaload, 1) := by decide +kernel
theorem d_M_write_63 : decode b_M_write 63 = .ok (.aload_n 0, 1) := by decide +kernel
theorem d_M_write_64 : decode b_M_write 64 = .ok (.getfield 13, 3) := by decide +kernel
theorem d_M_write_67 : decode b_M_write 67 = .ok (.iload_n 3, 1) := by decide +kernel
theorem d_M_write_68 : decode b_M_write 68 = .ok (.iaload, 1) := by decide +kernel
theorem d_M_write_69 : decode b_M_write 69 = .ok (.invokevirtual 96, 3) := by decide +kernel
theorem d_M_write_72 : decode b_M_write 72 = .ok (.istore 4, 2) := by decide +kernel
theorem d_M_write_74 : decode b_M_write 74 = .ok (.iload 4, 2) := by decide +kernel
theorem d_M_write_76 : decode b_M_write 76 = .ok (.ifCond .lt 29, 3) := by decide +kernel
theorem d_M_write_79 : decode b_M_write 79 = .ok (.aload_n 0, 1) := by decide +kernel
theorem d_M_write_80 : decode b_M_write 80 = .ok (.iload 4, 2) := by decide +kernel
theorem d_M_write_82 : decode b_M_write 82 = .ok (.iload_n 3, 1) := by decide +kernel
theorem d_M_write_83 : decode b_M_write 83 = .ok (.invokevirtual 120, 3) := by decide +kernel
theorem d_M_write_86 : decode b_M_write 86 = .ok (.aload_n 0, 1) := by decide +kernel
theorem d_M_write_87 : decode b_M_write 87 = .ok (.iload 4, 2) := by decide +kernel
theorem d_M_write_89 : decode b_M_write 89 = .ok (.iload_n 1, 1) := by decide +kernel
theorem d_M_write_90 : decode b_M_write 90 = .ok (.iload_n 2, 1) := by decide +kernel
theorem d_M_write_91 : decode b_M_write 91 = .ok (.invokevirtual 61, 3) := by decide +kernel
theorem d_M_write_94 : decode b_M_write 94 = .ok (.aload_n 0, 1) := by decide +kernel
theorem d_M_write_95 : decode b_M_write 95 = .ok (.iload_n 3, 1) := by decide +kernel
theorem d_M_write_96 : decode b_M_write 96 = .ok (.iload 4, 2) := by decide +kernel
theorem d_M_write_98 : decode b_M_write 98 = .ok (.invokevirtual 103, 3) := by decide +kernel
theorem d_M_write_101 : decode b_M_write 101 = .ok (.aload_n 0, 1) := by decide +kernel
theorem d_M_write_102 : decode b_M_write 102 = .ok (.invokevirtual 130, 3) := by decide +kernel
theorem d_M_write_105 : decode b_M_write 105 = .ok (.aload_n 0, 1) := by decide +kernel
theorem d_M_write_106 : decode b_M_write 106 = .ok (.invokevirtual 123, 3) := by decide +kernel
theorem d_M_write_109 : decode b_M_write 109 = .ok (.ireturn, 1) := by decide +kernel
theorem d_M_plain_0 : decode b_M_plain 0 = .ok (.iconst 1, 1) := by decide +kernel
theorem d_M_plain_1 : decode b_M_plain 1 = .ok (.istore 4, 2) := by decide +kernel
theorem d_M_plain_3 : decode b_M_plain 3 = .ok (.iconst 0, 1) := by decide +kernel
theorem d_M_plain_4 : decode b_M_plain 4 = .ok (.istore 5, 2) := by decide +kernel
theorem d_M_plain_6 : decode b_M_plain 6 = .ok (.iload 5, 2) := by decide +kernel
theorem d_M_plain_8 : decode b_M_plain 8 = .ok (.bipush 8, 2) := by decide +kernel
theorem d_M_plain_10 : decode b_M_plain 10 = .ok (.if_icmp .ge 54, 3) := by decide +kernel
theorem d_M_plain_13 : decode b_M_plain 13 = .ok (.iload 4, 2) := by decide +kernel
theorem d_M_plain_15 : decode b_M_plain 15 = .ok (.ifCond .eq 40, 3) := by decide +kernel
theorem d_M_plain_18 : decode b_M_plain 18 = .ok (.aload_n 0, 1) := by decide +kernel
theorem d_M_plain_19 : decode b_M_plain 19 = .ok (.getfield 16, 3) := by decide +kernel
theorem d_M_plain_22 : decode b_M_plain 22 = .ok (.bipush 32, 2) := by decide +kernel
theorem d_M_plain_24 : decode b_M_plain 24 = .ok (.iload_n 1, 1) := by decide +kernel
theorem d_M_plain_25 : decode b_M_plain 25 = .ok (.imul, 1) := by decide +kernel
theorem d_M_plain_26 : decode b_M_plain 26 = .ok (.bipush 8, 2) := by decide +kernel
theorem d_M_plain_28 : decode b_M_plain 28 = .ok (.iload_n 2, 1) := by decide +kernel
theorem d_M_plain_29 : decode b_M_plain 29 = .ok (.imul, 1) := by decide +kernel
theorem d_M_plain_30 : decode b_M_plain 30 = .ok (.iadd, 1) := by decide +kernel
theorem d_M_plain_31 : decode b_M_plain 31 = .ok (.iload 5, 2) := by decide +kernel
theorem d_M_plain_33 : decode b_M_plain 33 = .ok (.iadd, 1) := by decide +kernel
theorem d_M_plain_34 : decode b_M_plain 34 = .ok (.laload, 1) := by decide +kernel
theorem d_M_plain_35 : decode b_M_plain 35 = .ok (.iload 5, 2) := by decide +kernel
theorem d_M_plain_37 : decode b_M_plain 37 = .ok (.iload_n 3, 1) := by decide +kernel
theorem d_M_plain_38 : decode b_M_plain 38 = .ok (.if_icmp .ne 7, 3) := by decide +kernel
theorem d_M_plain_41 : decode b_M_plain 41 = .ok (.iconst 1, 1) := by decide +kernel
theorem d_M_plain_42 : decode b_M_plain 42 = .ok (.goto 4, 3) := by decide +kernel
theorem d_M_plain_45 : decode b_M_plain 45 = .ok (.iconst 0, 1) := by decide +kernel
theorem d_M_plain_46 : decode b_M_plain 46 = .ok (.i2l, 1) := by decide +kernel
theorem d_M_plain_47 : decode b_M_plain 47 = .ok (.lcmp, 1) := by decide +kernel
theorem d_M_plain_48 : decode b_M_plain 48 = .ok (.ifCond .ne 7, 3) := by decide +kernel
theorem d_M_plain_51 : decode b_M_plain 51 = .ok (.iconst 1, 1) := by decide +kernel
theorem d_M_plain_52 : decode b_M_plain 52 = .ok (.goto 4, 3) := by decide +kernel
theorem d_M_plain_55 : decode b_M_plain 55 = .ok (.iconst 0, 1) := by decide +kernel
theorem d_M_plain_56 : decode b_M_plain 56 = .ok (.istore 4, 2) := by decide +kernel
theorem d_M_plain_58 : decode b_M_plain 58 = .ok (.iinc 5 1, 3) := by decide +kernel
theorem d_M_plain_61 : decode b_M_plain 61 = .ok (.goto (-55), 3) := by decide +kernel
theorem d_M_plain_64 : decode b_M_plain 64 = .ok (.iload 4, 2) := by decide +kernel
theorem d_M_plain_66 : decode b_M_plain 66 = .ok (.ireturn, 1) := by decide +kernel
theorem d_M_setPlain_0 : decode b_M_setPlain 0 = .ok (.iconst 0, 1) := by decide +kernel
theorem d_M_setPlain_1 : decode b_M_setPlain 1 = .ok (.istore 4, 2) := by decide +kernel
theorem d_M_setPlain_3 : decode b_M_setPlain 3 = .ok (.iload 4, 2) := by decide +kernel
theorem d_M_setPlain_5 : decode b_M_setPlain 5 = .ok (.bipush 8, 2) := by decide +kernel
theorem d_M_setPlain_7 : decode b_M_setPlain 7 = .ok (.if_icmp .ge 37, 3) := by decide +kernel
theorem d_M_setPlain_10 : decode b_M_setPlain 10 = .ok (.aload_n 0, 1) := by decide +kernel
theorem d_M_setPlain_11 : decode b_M_setPlain 11 = .ok (.getfield 16, 3) := by decide +kernel
theorem d_M_setPlain_14 : decode b_M_setPlain 14 = .ok (.bipush 32, 2) := by decide +kernel
theorem d_M_setPlain_16 : decode b_M_setPlain 16 = .ok (.iload_n 1, 1) := by decide +kernel
theorem d_M_setPlain_17 : decode b_M_setPlain 17 = .ok (.imul, 1) := by decide +kernel
theorem d_M_setPlain_18 : decode b_M_setPlain 18 = .ok (.bipush 8, 2) := by decide +kernel
theorem d_M_setPlain_20 : decode b_M_setPlain 20 = .ok (.iload_n 2, 1) := by decide +kernel
theorem d_M_setPlain_21 : decode b_M_setPlain 21 = .ok (.imul, 1) := by decide +kernel
theorem d_M_setPlain_22 : decode b_M_setPlain 22 = .ok (.iadd, 1) := by decide +kernel
theorem d_M_setPlain_23 : decode b_M_setPlain 23 = .ok (.iload 4, 2) := by decide +kernel
theorem d_M_setPlain_25 : decode b_M_setPlain 25 = .ok (.iadd, 1) := by decide +kernel
theorem d_M_setPlain_26 : decode b_M_setPlain 26 = .ok (.iload 4, 2) := by decide +kernel
theorem d_M_setPlain_28 : decode b_M_setPlain 28 = .ok (.iload_n 3, 1) := by decide +kernel
theorem d_M_setPlain_29 : decode b_M_setPlain 29 = .ok (.if_icmp .ne 7, 3) := by decide +kernel
theorem d_M_setPlain_32 : decode b_M_setPlain 32 = .ok (.lconst 1, 1) := by decide +kernel
theorem d_M_setPlain_33 : decode b_M_setPlain 33 = .ok (.goto 4, 3) := by decide +kernel
theorem d_M_setPlain_36 : decode b_M_setPlain 36 = .ok (.lconst 0, 1) := by decide +kernel
theorem d_M_setPlain_37 : decode b_M_setPlain 37 = .ok (.lastore, 1) := by decide +kernel
theorem d_M_setPlain_38 : decode b_M_setPlain 38 = .ok (.iinc 4 1, 3) := by decide +kernel
theorem d_M_setPlain_41 : decode b_M_setPlain 41 = .ok (.goto (-38), 3) := by decide +kernel
theorem d_M_setPlain_44 : decode b_M_setPlain 44 = .ok (.return_, 1) := by decide +kernel
theorem d_M_replace_0 : decode b_M_replace 0 = .ok (.aload_n 0, 1) := by decide +kernel
theorem d_M_replace_1 : decode b_M_replace 1 = .ok (.getfield 42, 3) := by decide +kernel
theorem d_M_replace_4 : decode b_M_replace 4 = .ok (.iload_n 1, 1) := by decide +kernel
theorem d_M_replace_5 : decode b_M_replace 5 = .ok (.iconst 0, 1) := by decide +kernel
theorem d_M_replace_6 : decode b_M_replace 6 = .ok (.bastore, 1) := by decide +kernel
theorem d_M_replace_7 : decode b_M_replace 7 = .ok (.aload_n 0, 1) := by decide +kernel
theorem d_M_replace_8 : decode b_M_replace 8 = .ok (.getfield 42, 3) := by decide +kernel
theorem d_M_replace_11 : decode b_M_replace 11 = .ok (.iload_n 2, 1) := by decide +kernel
theorem d_M_replace_12 : decode b_M_replace 12 = .ok (.iconst 1, 1) := by decide +kernel
theorem d_M_replace_13 : decode b_M_replace 13 = .ok (.bastore, 1) := by decide +kernel
theorem d_M_replace_14 : decode b_M_replace 14 = .ok (.aload_n 0, 1) := by decide +kernel
theorem d_M_replace_15 : decode b_M_replace 15 = .ok (.getfield 48, 3) := by decide +kernel
theorem d_M_replace_18 : decode b_M_replace 18 = .ok (.iload_n 1, 1) := by decide +kernel
theorem d_M_replace_19 : decode b_M_replace 19 = .ok (.iload_n 2, 1) := by decide +kernel
theorem d_M_replace_20 : decode b_M_replace 20 = .ok (.iastore, 1) := by decide +kernel
theorem d_M_replace_21 : decode b_M_replace 21 = .ok (.return_, 1) := by decide +kernel
theorem d_M_settle_0 : decode b_M_settle 0 = .ok (.aload_n 0, 1) := by decide +kernel
theorem d_M_settle_1 : decode b_M_settle 1 = .ok (.invokevirtual 89, 3) := by decide +kernel
theorem d_M_settle_4 : decode b_M_settle 4 = .ok (.istore_n 1, 1) := by decide +kernel
theorem d_M_settle_5 : decode b_M_settle 5 = .ok (.iload_n 1, 1) := by decide +kernel
theorem d_M_settle_6 : decode b_M_settle 6 = .ok (.ifCond .lt 65, 3) := by decide +kernel
theorem d_M_settle_9 : decode b_M_settle 9 = .ok (.aload_n 0, 1) := by decide +kernel
theorem d_M_settle_10 : decode b_M_settle 10 = .ok (.getfield 77, 3) := by decide +kernel
theorem d_M_settle_13 : decode b_M_settle 13 = .ok (.ifCond .ne 58, 3) := by decide +kernel
theorem d_M_settle_16 : decode b_M_settle 16 = .ok (.aload_n 0, 1) := by decide +kernel
theorem d_M_settle_17 : decode b_M_settle 17 = .ok (.aload_n 0, 1) := by decide +kernel
theorem d_M_settle_18 : decode b_M_settle 18 = .ok (.getfield 13, 3) := by decide +kernel
theorem d_M_settle_21 : decode b_M_settle 21 = .ok (.iload_n 1, 1) := by decide +kernel
theorem d_M_settle_22 : decode b_M_settle 22 = .ok (.iaload, 1) := by decide +kernel
theorem d_M_settle_23 : decode b_M_settle 23 = .ok (.iload_n 1, 1) := by decide +kernel
theorem d_M_settle_24 : decode b_M_settle 24 = .ok (.invokevirtual 93, 3) := by decide +kernel
theorem d_M_settle_27 : decode b_M_settle 27 = .ok (.istore_n 2, 1) := by decide +kernel
theorem d_M_settle_28 : decode b_M_settle 28 = .ok (.aload_n 0, 1) := by decide +kernel
theorem d_M_settle_29 : decode b_M_settle 29 = .ok (.aload_n 0, 1) := by decide +kernel
theorem d_M_settle_30 : decode b_M_settle 30 = .ok (.getfield 7, 3) := by decide +kernel
theorem d_M_settle_33 : decode b_M_settle 33 = .ok (.iload_n 1, 1) := by decide +kernel
theorem d_M_settle_34 : decode b_M_settle 34 = .ok (.iaload, 1) := by decide +kernel
theorem d_M_settle_35 : decode b_M_settle 35 = .ok (.iload_n 2, 1) := by decide +kernel
theorem d_M_settle_36 : decode b_M_settle 36 = .ok (.invokevirtual 96, 3) := by decide +kernel
theorem d_M_settle_39 : decode b_M_settle 39 = .ok (.istore_n 3, 1) := by decide +kernel
theorem d_M_settle_40 : decode b_M_settle 40 = .ok (.iload_n 3, 1) := by decide +kernel
theorem d_M_settle_41 : decode b_M_settle 41 = .ok (.ifCond .lt 27, 3) := by decide +kernel
theorem d_M_settle_44 : decode b_M_settle 44 = .ok (.aload_n 0, 1) := by decide +kernel
theorem d_M_settle_45 : decode b_M_settle 45 = .ok (.iload_n 3, 1) := by decide +kernel
theorem d_M_settle_46 : decode b_M_settle 46 = .ok (.iload_n 1, 1) := by decide +kernel
theorem d_M_settle_47 : decode b_M_settle 47 = .ok (.iload_n 2, 1) := by decide +kernel
theorem d_M_settle_48 : decode b_M_settle 48 = .ok (.aload_n 0, 1) := by decide +kernel
theorem d_M_settle_49 : decode b_M_settle 49 = .ok (.getfield 13, 3) := by decide +kernel
theorem d_M_settle_52 : decode b_M_settle 52 = .ok (.iload_n 1, 1) := by decide +kernel
theorem d_M_settle_53 : decode b_M_settle 53 = .ok (.iaload, 1) := by decide +kernel
theorem d_M_settle_54 : decode b_M_settle 54 = .ok (.invokevirtual 99, 3) := by decide +kernel
theorem d_M_settle_57 : decode b_M_settle 57 = .ok (.aload_n 0, 1) := by decide +kernel
theorem d_M_settle_58 : decode b_M_settle 58 = .ok (.iload_n 1, 1) := by decide +kernel
theorem d_M_settle_59 : decode b_M_settle 59 = .ok (.iload_n 3, 1) := by decide +kernel
theorem d_M_settle_60 : decode b_M_settle 60 = .ok (.invokevirtual 103, 3) := by decide +kernel
theorem d_M_settle_63 : decode b_M_settle 63 = .ok (.aload_n 0, 1) := by decide +kernel
theorem d_M_settle_64 : decode b_M_settle 64 = .ok (.invokevirtual 89, 3) := by decide +kernel
theorem d_M_settle_67 : decode b_M_settle 67 = .ok (.istore_n 1, 1) := by decide +kernel
theorem d_M_settle_68 : decode b_M_settle 68 = .ok (.goto (-63), 3) := by decide +kernel
theorem d_M_settle_71 : decode b_M_settle 71 = .ok (.iconst 0, 1) := by decide +kernel
theorem d_M_settle_72 : decode b_M_settle 72 = .ok (.istore_n 2, 1) := by decide +kernel
theorem d_M_settle_73 : decode b_M_settle 73 = .ok (.iload_n 2, 1) := by decide +kernel
theorem d_M_settle_74 : decode b_M_settle 74 = .ok (.iconst 3, 1) := by decide +kernel
theorem d_M_settle_75 : decode b_M_settle 75 = .ok (.if_icmp .ge 65, 3) := by decide +kernel
theorem d_M_settle_78 : decode b_M_settle 78 = .ok (.aload_n 0, 1) := by decide +kernel
theorem d_M_settle_79 : decode b_M_settle 79 = .ok (.getfield 77, 3) := by decide +kernel
theorem d_M_settle_82 : decode b_M_settle 82 = .ok (.ifCond .ne 58, 3) := by decide +kernel
theorem d_M_settle_85 : decode b_M_settle 85 = .ok (.aload_n 0, 1) := by decide +kernel
theorem d_M_settle_86 : decode b_M_settle 86 = .ok (.getfield 45, 3) := by decide +kernel
theorem d_M_settle_89 : decode b_M_settle 89 = .ok (.iload_n 2, 1) := by decide +kernel
theorem d_M_settle_90 : decode b_M_settle 90 = .ok (.aload_n 0, 1) := by decide +kernel
theorem d_M_settle_91 : decode b_M_settle 91 = .ok (.getfield 45, 3) := by decide +kernel
