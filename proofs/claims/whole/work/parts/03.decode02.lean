theorem d_D_settlePointers_17 : decode b_D_settlePointers 17 = .ok (.istore_n 1, 1) := by decide +kernel
theorem d_D_settlePointers_18 : decode b_D_settlePointers 18 = .ok (.iload_n 1, 1) := by decide +kernel
theorem d_D_settlePointers_19 : decode b_D_settlePointers 19 = .ok (.iconst 3, 1) := by decide +kernel
theorem d_D_settlePointers_20 : decode b_D_settlePointers 20 = .ok (.if_icmp .ge 45, 3) := by decide +kernel
theorem d_D_settlePointers_23 : decode b_D_settlePointers 23 = .ok (.aload_n 0, 1) := by decide +kernel
theorem d_D_settlePointers_24 : decode b_D_settlePointers 24 = .ok (.getfield 9, 3) := by decide +kernel
theorem d_D_settlePointers_27 : decode b_D_settlePointers 27 = .ok (.aload_n 0, 1) := by decide +kernel
theorem d_D_settlePointers_28 : decode b_D_settlePointers 28 = .ok (.getfield 15, 3) := by decide +kernel
theorem d_D_settlePointers_31 : decode b_D_settlePointers 31 = .ok (.iload_n 1, 1) := by decide +kernel
theorem d_D_settlePointers_32 : decode b_D_settlePointers 32 = .ok (.iaload, 1) := by decide +kernel
theorem d_D_settlePointers_33 : decode b_D_settlePointers 33 = .ok (.invokevirtual 74, 3) := by decide +kernel
theorem d_D_settlePointers_36 : decode b_D_settlePointers 36 = .ok (.ifCond .eq 23, 3) := by decide +kernel
theorem d_D_settlePointers_39 : decode b_D_settlePointers 39 = .ok (.aload_n 0, 1) := by decide +kernel
theorem d_D_settlePointers_40 : decode b_D_settlePointers 40 = .ok (.getfield 15, 3) := by decide +kernel
theorem d_D_settlePointers_43 : decode b_D_settlePointers 43 = .ok (.iload_n 1, 1) := by decide +kernel
theorem d_D_settlePointers_44 : decode b_D_settlePointers 44 = .ok (.aload_n 0, 1) := by decide +kernel
theorem d_D_settlePointers_45 : decode b_D_settlePointers 45 = .ok (.aload_n 0, 1) := by decide +kernel
theorem d_D_settlePointers_46 : decode b_D_settlePointers 46 = .ok (.getfield 15, 3) := by decide +kernel
theorem d_D_settlePointers_49 : decode b_D_settlePointers 49 = .ok (.iload_n 1, 1) := by decide +kernel
theorem d_D_settlePointers_50 : decode b_D_settlePointers 50 = .ok (.iaload, 1) := by decide +kernel
theorem d_D_settlePointers_51 : decode b_D_settlePointers 51 = .ok (.aload_n 0, 1) := by decide +kernel
theorem d_D_settlePointers_52 : decode b_D_settlePointers 52 = .ok (.getfield 31, 3) := by decide +kernel
theorem d_D_settlePointers_55 : decode b_D_settlePointers 55 = .ok (.invokevirtual 96, 3) := by decide +kernel
theorem d_D_settlePointers_58 : decode b_D_settlePointers 58 = .ok (.iastore, 1) := by decide +kernel
theorem d_D_settlePointers_59 : decode b_D_settlePointers 59 = .ok (.iinc 1 1, 3) := by decide +kernel
theorem d_D_settlePointers_62 : decode b_D_settlePointers 62 = .ok (.goto (-44), 3) := by decide +kernel
theorem d_D_settlePointers_65 : decode b_D_settlePointers 65 = .ok (.return_, 1) := by decide +kernel
theorem d_O_add_0 : decode b_O_add 0 = .ok (.aload_n 0, 1) := by decide +kernel
theorem d_O_add_1 : decode b_O_add 1 = .ok (.invokevirtual 43, 3) := by decide +kernel
theorem d_O_add_4 : decode b_O_add 4 = .ok (.ifCond .eq 6, 3) := by decide +kernel
theorem d_O_add_7 : decode b_O_add 7 = .ok (.bipush (-3), 2) := by decide +kernel
theorem d_O_add_9 : decode b_O_add 9 = .ok (.ireturn, 1) := by decide +kernel
theorem d_O_add_10 : decode b_O_add 10 = .ok (.aload_n 0, 1) := by decide +kernel
theorem d_O_add_11 : decode b_O_add 11 = .ok (.getfield 32, 3) := by decide +kernel
theorem d_O_add_14 : decode b_O_add 14 = .ok (.istore 4, 2) := by decide +kernel
theorem d_O_add_16 : decode b_O_add 16 = .ok (.aload_n 0, 1) := by decide +kernel
theorem d_O_add_17 : decode b_O_add 17 = .ok (.dup, 1) := by decide +kernel
theorem d_O_add_18 : decode b_O_add 18 = .ok (.getfield 32, 3) := by decide +kernel
theorem d_O_add_21 : decode b_O_add 21 = .ok (.iconst 1, 1) := by decide +kernel
theorem d_O_add_22 : decode b_O_add 22 = .ok (.iadd, 1) := by decide +kernel
theorem d_O_add_23 : decode b_O_add 23 = .ok (.putfield 32, 3) := by decide +kernel
theorem d_O_add_26 : decode b_O_add 26 = .ok (.aload_n 0, 1) := by decide +kernel
theorem d_O_add_27 : decode b_O_add 27 = .ok (.getfield 9, 3) := by decide +kernel
theorem d_O_add_30 : decode b_O_add 30 = .ok (.iload 4, 2) := by decide +kernel
theorem d_O_add_32 : decode b_O_add 32 = .ok (.iload_n 2, 1) := by decide +kernel
theorem d_O_add_33 : decode b_O_add 33 = .ok (.iastore, 1) := by decide +kernel
theorem d_O_add_34 : decode b_O_add 34 = .ok (.aload_n 0, 1) := by decide +kernel
theorem d_O_add_35 : decode b_O_add 35 = .ok (.getfield 15, 3) := by decide +kernel
theorem d_O_add_38 : decode b_O_add 38 = .ok (.iload 4, 2) := by decide +kernel
theorem d_O_add_40 : decode b_O_add 40 = .ok (.iload_n 3, 1) := by decide +kernel
theorem d_O_add_41 : decode b_O_add 41 = .ok (.iastore, 1) := by decide +kernel
theorem d_O_add_42 : decode b_O_add 42 = .ok (.aload_n 0, 1) := by decide +kernel
theorem d_O_add_43 : decode b_O_add 43 = .ok (.getfield 18, 3) := by decide +kernel
theorem d_O_add_46 : decode b_O_add 46 = .ok (.iload 4, 2) := by decide +kernel
theorem d_O_add_48 : decode b_O_add 48 = .ok (.aload_n 1, 1) := by decide +kernel
theorem d_O_add_49 : decode b_O_add 49 = .ok (.getfield 47, 3) := by decide +kernel
theorem d_O_add_52 : decode b_O_add 52 = .ok (.lastore, 1) := by decide +kernel
theorem d_O_add_53 : decode b_O_add 53 = .ok (.aload_n 0, 1) := by decide +kernel
theorem d_O_add_54 : decode b_O_add 54 = .ok (.getfield 22, 3) := by decide +kernel
theorem d_O_add_57 : decode b_O_add 57 = .ok (.iload 4, 2) := by decide +kernel
theorem d_O_add_59 : decode b_O_add 59 = .ok (.aload_n 1, 1) := by decide +kernel
theorem d_O_add_60 : decode b_O_add 60 = .ok (.getfield 52, 3) := by decide +kernel
theorem d_O_add_63 : decode b_O_add 63 = .ok (.iastore, 1) := by decide +kernel
theorem d_O_add_64 : decode b_O_add 64 = .ok (.aload_n 1, 1) := by decide +kernel
theorem d_O_add_65 : decode b_O_add 65 = .ok (.getfield 55, 3) := by decide +kernel
theorem d_O_add_68 : decode b_O_add 68 = .ok (.iconst 0, 1) := by decide +kernel
theorem d_O_add_69 : decode b_O_add 69 = .ok (.aload_n 0, 1) := by decide +kernel
theorem d_O_add_70 : decode b_O_add 70 = .ok (.getfield 25, 3) := by decide +kernel
theorem d_O_add_73 : decode b_O_add 73 = .ok (.iload 4, 2) := by decide +kernel
theorem d_O_add_75 : decode b_O_add 75 = .ok (.iconst 3, 1) := by decide +kernel
theorem d_O_add_76 : decode b_O_add 76 = .ok (.imul, 1) := by decide +kernel
theorem d_O_add_77 : decode b_O_add 77 = .ok (.iconst 3, 1) := by decide +kernel
theorem d_O_add_78 : decode b_O_add 78 = .ok (.invokestatic 56, 3) := by decide +kernel
theorem d_O_add_81 : decode b_O_add 81 = .ok (.iload 4, 2) := by decide +kernel
theorem d_O_add_83 : decode b_O_add 83 = .ok (.ireturn, 1) := by decide +kernel
theorem d_S_write_0 : decode b_S_write 0 = .ok (.aload_n 0, 1) := by decide +kernel
theorem d_S_write_1 : decode b_S_write 1 = .ok (.invokevirtual 43, 3) := by decide +kernel
theorem d_S_write_4 : decode b_S_write 4 = .ok (.aload_n 0, 1) := by decide +kernel
theorem d_S_write_5 : decode b_S_write 5 = .ok (.getfield 28, 3) := by decide +kernel
theorem d_S_write_8 : decode b_S_write 8 = .ok (.getfield 69, 3) := by decide +kernel
theorem d_S_write_11 : decode b_S_write 11 = .ok (.istore_n 3, 1) := by decide +kernel
theorem d_S_write_12 : decode b_S_write 12 = .ok (.iload_n 3, 1) := by decide +kernel
theorem d_S_write_13 : decode b_S_write 13 = .ok (.ifCond .eq 17, 3) := by decide +kernel
theorem d_S_write_16 : decode b_S_write 16 = .ok (.iload_n 1, 1) := by decide +kernel
theorem d_S_write_17 : decode b_S_write 17 = .ok (.invokestatic 72, 3) := by decide +kernel
theorem d_S_write_20 : decode b_S_write 20 = .ok (.ifCond .eq 10, 3) := by decide +kernel
theorem d_S_write_23 : decode b_S_write 23 = .ok (.iload_n 2, 1) := by decide +kernel
theorem d_S_write_24 : decode b_S_write 24 = .ok (.invokestatic 75, 3) := by decide +kernel
theorem d_S_write_27 : decode b_S_write 27 = .ok (.ifCond .ne 5, 3) := by decide +kernel
theorem d_S_write_30 : decode b_S_write 30 = .ok (.iconst (-1), 1) := by decide +kernel
theorem d_S_write_31 : decode b_S_write 31 = .ok (.ireturn, 1) := by decide +kernel
theorem d_S_write_32 : decode b_S_write 32 = .ok (.aload_n 0, 1) := by decide +kernel
theorem d_S_write_33 : decode b_S_write 33 = .ok (.getfield 10, 3) := by decide +kernel
theorem d_S_write_36 : decode b_S_write 36 = .ok (.iload_n 3, 1) := by decide +kernel
theorem d_S_write_37 : decode b_S_write 37 = .ok (.iload_n 1, 1) := by decide +kernel
theorem d_S_write_38 : decode b_S_write 38 = .ok (.iload_n 2, 1) := by decide +kernel
theorem d_S_write_39 : decode b_S_write 39 = .ok (.invokevirtual 78, 3) := by decide +kernel
theorem d_S_write_42 : decode b_S_write 42 = .ok (.ifCond .eq 6, 3) := by decide +kernel
theorem d_S_write_45 : decode b_S_write 45 = .ok (.bipush (-2), 2) := by decide +kernel
theorem d_S_write_47 : decode b_S_write 47 = .ok (.ireturn, 1) := by decide +kernel
theorem d_S_write_48 : decode b_S_write 48 = .ok (.aload_n 0, 1) := by decide +kernel
theorem d_S_write_49 : decode b_S_write 49 = .ok (.invokevirtual 50, 3) := by decide +kernel
theorem d_S_write_52 : decode b_S_write 52 = .ok (.ifCond .ne 6, 3) := by decide +kernel
theorem d_S_write_55 : decode b_S_write 55 = .ok (.bipush (-3), 2) := by decide +kernel
theorem d_S_write_57 : decode b_S_write 57 = .ok (.ireturn, 1) := by decide +kernel
theorem d_S_write_58 : decode b_S_write 58 = .ok (.aload_n 0, 1) := by decide +kernel
theorem d_S_write_59 : decode b_S_write 59 = .ok (.getfield 10, 3) := by decide +kernel
theorem d_S_write_62 : decode b_S_write 62 = .ok (.aload_n 0, 1) := by decide +kernel
theorem d_S_write_63 : decode b_S_write 63 = .ok (.getfield 10, 3) := by decide +kernel
theorem d_S_write_66 : decode b_S_write 66 = .ok (.iload_n 3, 1) := by decide +kernel
theorem d_S_write_67 : decode b_S_write 67 = .ok (.invokevirtual 82, 3) := by decide +kernel
theorem d_S_write_70 : decode b_S_write 70 = .ok (.aload_n 0, 1) := by decide +kernel
theorem d_S_write_71 : decode b_S_write 71 = .ok (.getfield 10, 3) := by decide +kernel
theorem d_S_write_74 : decode b_S_write 74 = .ok (.iload_n 3, 1) := by decide +kernel
theorem d_S_write_75 : decode b_S_write 75 = .ok (.invokevirtual 85, 3) := by decide +kernel
theorem d_S_write_78 : decode b_S_write 78 = .ok (.iload_n 3, 1) := by decide +kernel
theorem d_S_write_79 : decode b_S_write 79 = .ok (.invokevirtual 88, 3) := by decide +kernel
theorem d_S_write_82 : decode b_S_write 82 = .ok (.istore 4, 2) := by decide +kernel
theorem d_S_write_84 : decode b_S_write 84 = .ok (.aload_n 0, 1) := by decide +kernel
theorem d_S_write_85 : decode b_S_write 85 = .ok (.getfield 10, 3) := by decide +kernel
theorem d_S_write_88 : decode b_S_write 88 = .ok (.iload 4, 2) := by decide +kernel
theorem d_S_write_90 : decode b_S_write 90 = .ok (.iload_n 1, 1) := by decide +kernel
theorem d_S_write_91 : decode b_S_write 91 = .ok (.iload_n 2, 1) := by decide +kernel
theorem d_S_write_92 : decode b_S_write 92 = .ok (.invokevirtual 92, 3) := by decide +kernel
theorem d_S_write_95 : decode b_S_write 95 = .ok (.aload_n 0, 1) := by decide +kernel
theorem d_S_write_96 : decode b_S_write 96 = .ok (.getfield 28, 3) := by decide +kernel
theorem d_S_write_99 : decode b_S_write 99 = .ok (.iload_n 3, 1) := by decide +kernel
theorem d_S_write_100 : decode b_S_write 100 = .ok (.iload 4, 2) := by decide +kernel
theorem d_S_write_102 : decode b_S_write 102 = .ok (.invokevirtual 96, 3) := by decide +kernel
theorem d_S_write_105 : decode b_S_write 105 = .ok (.aload_n 0, 1) := by decide +kernel
theorem d_S_write_106 : decode b_S_write 106 = .ok (.aload_n 0, 1) := by decide +kernel
theorem d_S_write_107 : decode b_S_write 107 = .ok (.getfield 36, 3) := by decide +kernel
theorem d_S_write_110 : decode b_S_write 110 = .ok (.iconst (-1), 1) := by decide +kernel
theorem d_S_write_111 : decode b_S_write 111 = .ok (.invokevirtual 65, 3) := by decide +kernel
theorem d_S_write_114 : decode b_S_write 114 = .ok (.ireturn, 1) := by decide +kernel
theorem d_C_isPlain_0 : decode b_C_isPlain 0 = .ok (.iconst 0, 1) := by decide +kernel
theorem d_C_isPlain_1 : decode b_C_isPlain 1 = .ok (.istore 4, 2) := by decide +kernel
theorem d_C_isPlain_3 : decode b_C_isPlain 3 = .ok (.iload 4, 2) := by decide +kernel
theorem d_C_isPlain_5 : decode b_C_isPlain 5 = .ok (.bipush 8, 2) := by decide +kernel
theorem d_C_isPlain_7 : decode b_C_isPlain 7 = .ok (.if_icmp .ge 35, 3) := by decide +kernel
theorem d_C_isPlain_10 : decode b_C_isPlain 10 = .ok (.aload_n 0, 1) := by decide +kernel
theorem d_C_isPlain_11 : decode b_C_isPlain 11 = .ok (.iload_n 1, 1) := by decide +kernel
theorem d_C_isPlain_12 : decode b_C_isPlain 12 = .ok (.iload_n 2, 1) := by decide +kernel
theorem d_C_isPlain_13 : decode b_C_isPlain 13 = .ok (.iload 4, 2) := by decide +kernel
theorem d_C_isPlain_15 : decode b_C_isPlain 15 = .ok (.invokevirtual 43, 3) := by decide +kernel
theorem d_C_isPlain_18 : decode b_C_isPlain 18 = .ok (.iload 4, 2) := by decide +kernel
theorem d_C_isPlain_20 : decode b_C_isPlain 20 = .ok (.iload_n 3, 1) := by decide +kernel
theorem d_C_isPlain_21 : decode b_C_isPlain 21 = .ok (.if_icmp .ne 7, 3) := by decide +kernel
theorem d_C_isPlain_24 : decode b_C_isPlain 24 = .ok (.iconst 1, 1) := by decide +kernel
theorem d_C_isPlain_25 : decode b_C_isPlain 25 = .ok (.goto 4, 3) := by decide +kernel
theorem d_C_isPlain_28 : decode b_C_isPlain 28 = .ok (.iconst 0, 1) := by decide +kernel
theorem d_C_isPlain_29 : decode b_C_isPlain 29 = .ok (.i2l, 1) := by decide +kernel
theorem d_C_isPlain_30 : decode b_C_isPlain 30 = .ok (.lcmp, 1) := by decide +kernel
theorem d_C_isPlain_31 : decode b_C_isPlain 31 = .ok (.ifCond .eq 5, 3) := by decide +kernel
theorem d_C_isPlain_34 : decode b_C_isPlain 34 = .ok (.iconst 0, 1) := by decide +kernel
theorem d_C_isPlain_35 : decode b_C_isPlain 35 = .ok (.ireturn, 1) := by decide +kernel
theorem d_C_isPlain_36 : decode b_C_isPlain 36 = .ok (.iinc 4 1, 3) := by decide +kernel
theorem d_C_isPlain_39 : decode b_C_isPlain 39 = .ok (.goto (-36), 3) := by decide +kernel
theorem d_C_isPlain_42 : decode b_C_isPlain 42 = .ok (.iconst 1, 1) := by decide +kernel
theorem d_C_isPlain_43 : decode b_C_isPlain 43 = .ok (.ireturn, 1) := by decide +kernel
theorem d_C_countOf_0 : decode b_C_countOf 0 = .ok (.aload_n 0, 1) := by decide +kernel
theorem d_C_countOf_1 : decode b_C_countOf 1 = .ok (.iload_n 1, 1) := by decide +kernel
theorem d_C_countOf_2 : decode b_C_countOf 2 = .ok (.invokevirtual 29, 3) := by decide +kernel
theorem d_C_countOf_5 : decode b_C_countOf 5 = .ok (.ifCond .eq 32, 3) := by decide +kernel
theorem d_C_countOf_8 : decode b_C_countOf 8 = .ok (.iload_n 2, 1) := by decide +kernel
theorem d_C_countOf_9 : decode b_C_countOf 9 = .ok (.invokestatic 33, 3) := by decide +kernel
theorem d_C_countOf_12 : decode b_C_countOf 12 = .ok (.ifCond .eq 25, 3) := by decide +kernel
theorem d_C_countOf_15 : decode b_C_countOf 15 = .ok (.iload_n 3, 1) := by decide +kernel
theorem d_C_countOf_16 : decode b_C_countOf 16 = .ok (.invokestatic 36, 3) := by decide +kernel
theorem d_C_countOf_19 : decode b_C_countOf 19 = .ok (.ifCond .eq 18, 3) := by decide +kernel
theorem d_C_countOf_22 : decode b_C_countOf 22 = .ok (.aload_n 0, 1) := by decide +kernel
theorem d_C_countOf_23 : decode b_C_countOf 23 = .ok (.getfield 18, 3) := by decide +kernel
theorem d_C_countOf_26 : decode b_C_countOf 26 = .ok (.iload_n 1, 1) := by decide +kernel
theorem d_C_countOf_27 : decode b_C_countOf 27 = .ok (.iload_n 2, 1) := by decide +kernel
theorem d_C_countOf_28 : decode b_C_countOf 28 = .ok (.invokestatic 39, 3) := by decide +kernel
theorem d_C_countOf_31 : decode b_C_countOf 31 = .ok (.iload_n 3, 1) := by decide +kernel
theorem d_C_countOf_32 : decode b_C_countOf 32 = .ok (.iadd, 1) := by decide +kernel
theorem d_C_countOf_33 : decode b_C_countOf 33 = .ok (.laload, 1) := by decide +kernel
theorem d_C_countOf_34 : decode b_C_countOf 34 = .ok (.goto 4, 3) := by decide +kernel
theorem d_C_countOf_37 : decode b_C_countOf 37 = .ok (.lconst 0, 1) := by decide +kernel
theorem d_C_countOf_38 : decode b_C_countOf 38 = .ok (.lreturn, 1) := by decide +kernel
theorem d_S_rebase_0 : decode b_S_rebase 0 = .ok (.aload_n 0, 1) := by decide +kernel
theorem d_S_rebase_1 : decode b_S_rebase 1 = .ok (.invokevirtual 43, 3) := by decide +kernel
theorem d_S_rebase_4 : decode b_S_rebase 4 = .ok (.aload_n 0, 1) := by decide +kernel
theorem d_S_rebase_5 : decode b_S_rebase 5 = .ok (.iload_n 1, 1) := by decide +kernel
theorem d_S_rebase_6 : decode b_S_rebase 6 = .ok (.invokevirtual 100, 3) := by decide +kernel
theorem d_S_rebase_9 : decode b_S_rebase 9 = .ok (.ifCond .eq 29, 3) := by decide +kernel
theorem d_S_rebase_12 : decode b_S_rebase 12 = .ok (.aload_n 0, 1) := by decide +kernel
theorem d_S_rebase_13 : decode b_S_rebase 13 = .ok (.getfield 28, 3) := by decide +kernel
theorem d_S_rebase_16 : decode b_S_rebase 16 = .ok (.iload_n 2, 1) := by decide +kernel
theorem d_S_rebase_17 : decode b_S_rebase 17 = .ok (.invokevirtual 46, 3) := by decide +kernel
theorem d_S_rebase_20 : decode b_S_rebase 20 = .ok (.ifCond .eq 18, 3) := by decide +kernel
theorem d_S_rebase_23 : decode b_S_rebase 23 = .ok (.iload_n 2, 1) := by decide +kernel
theorem d_S_rebase_24 : decode b_S_rebase 24 = .ok (.aload_n 0, 1) := by decide +kernel
theorem d_S_rebase_25 : decode b_S_rebase 25 = .ok (.getfield 10, 3) := by decide +kernel
theorem d_S_rebase_28 : decode b_S_rebase 28 = .ok (.iload_n 1, 1) := by decide +kernel
theorem d_S_rebase_29 : decode b_S_rebase 29 = .ok (.invokevirtual 103, 3) := by decide +kernel
theorem d_S_rebase_32 : decode b_S_rebase 32 = .ok (.invokestatic 107, 3) := by decide +kernel
theorem d_S_rebase_35 : decode b_S_rebase 35 = .ok (.ifCond .eq 5, 3) := by decide +kernel
theorem d_S_rebase_38 : decode b_S_rebase 38 = .ok (.iconst (-1), 1) := by decide +kernel
theorem d_S_rebase_39 : decode b_S_rebase 39 = .ok (.ireturn, 1) := by decide +kernel
theorem d_S_rebase_40 : decode b_S_rebase 40 = .ok (.aload_n 0, 1) := by decide +kernel
theorem d_S_rebase_41 : decode b_S_rebase 41 = .ok (.getfield 10, 3) := by decide +kernel
theorem d_S_rebase_44 : decode b_S_rebase 44 = .ok (.iload_n 1, 1) := by decide +kernel
theorem d_S_rebase_45 : decode b_S_rebase 45 = .ok (.invokevirtual 85, 3) := by decide +kernel
theorem d_S_rebase_48 : decode b_S_rebase 48 = .ok (.iload_n 2, 1) := by decide +kernel
theorem d_S_rebase_49 : decode b_S_rebase 49 = .ok (.if_icmp .ne 6, 3) := by decide +kernel
theorem d_S_rebase_52 : decode b_S_rebase 52 = .ok (.bipush (-2), 2) := by decide +kernel
theorem d_S_rebase_54 : decode b_S_rebase 54 = .ok (.ireturn, 1) := by decide +kernel
theorem d_S_rebase_55 : decode b_S_rebase 55 = .ok (.aload_n 0, 1) := by decide +kernel
theorem d_S_rebase_56 : decode b_S_rebase 56 = .ok (.invokevirtual 50, 3) := by decide +kernel
theorem d_S_rebase_59 : decode b_S_rebase 59 = .ok (.ifCond .ne 6, 3) := by decide +kernel
theorem d_S_rebase_62 : decode b_S_rebase 62 = .ok (.bipush (-3), 2) := by decide +kernel
theorem d_S_rebase_64 : decode b_S_rebase 64 = .ok (.ireturn, 1) := by decide +kernel
theorem d_S_rebase_65 : decode b_S_rebase 65 = .ok (.aload_n 0, 1) := by decide +kernel
theorem d_S_rebase_66 : decode b_S_rebase 66 = .ok (.getfield 28, 3) := by decide +kernel
theorem d_S_rebase_69 : decode b_S_rebase 69 = .ok (.iload_n 1, 1) := by decide +kernel
theorem d_S_rebase_70 : decode b_S_rebase 70 = .ok (.aload_n 0, 1) := by decide +kernel
theorem d_S_rebase_71 : decode b_S_rebase 71 = .ok (.getfield 10, 3) := by decide +kernel
theorem d_S_rebase_74 : decode b_S_rebase 74 = .ok (.iload_n 1, 1) := by decide +kernel
theorem d_S_rebase_75 : decode b_S_rebase 75 = .ok (.iload_n 2, 1) := by decide +kernel
theorem d_S_rebase_76 : decode b_S_rebase 76 = .ok (.invokevirtual 111, 3) := by decide +kernel
theorem d_S_rebase_79 : decode b_S_rebase 79 = .ok (.invokevirtual 96, 3) := by decide +kernel
theorem d_S_rebase_82 : decode b_S_rebase 82 = .ok (.aload_n 0, 1) := by decide +kernel
theorem d_S_rebase_83 : decode b_S_rebase 83 = .ok (.aload_n 0, 1) := by decide +kernel
theorem d_S_rebase_84 : decode b_S_rebase 84 = .ok (.getfield 36, 3) := by decide +kernel
theorem d_S_rebase_87 : decode b_S_rebase 87 = .ok (.iconst (-1), 1) := by decide +kernel
theorem d_S_rebase_88 : decode b_S_rebase 88 = .ok (.invokevirtual 65, 3) := by decide +kernel
theorem d_S_rebase_91 : decode b_S_rebase 91 = .ok (.ireturn, 1) := by decide +kernel
theorem d_S_isReplaceable_0 : decode b_S_isReplaceable 0 = .ok (.iload_n 1, 1) := by decide +kernel
theorem d_S_isReplaceable_1 : decode b_S_isReplaceable 1 = .ok (.ifCond .eq 18, 3) := by decide +kernel
theorem d_S_isReplaceable_4 : decode b_S_isReplaceable 4 = .ok (.aload_n 0, 1) := by decide +kernel
theorem d_S_isReplaceable_5 : decode b_S_isReplaceable 5 = .ok (.getfield 28, 3) := by decide +kernel
theorem d_S_isReplaceable_8 : decode b_S_isReplaceable 8 = .ok (.iload_n 1, 1) := by decide +kernel
theorem d_S_isReplaceable_9 : decode b_S_isReplaceable 9 = .ok (.invokevirtual 46, 3) := by decide +kernel
theorem d_S_isReplaceable_12 : decode b_S_isReplaceable 12 = .ok (.ifCond .eq 7, 3) := by decide +kernel
theorem d_S_isReplaceable_15 : decode b_S_isReplaceable 15 = .ok (.iconst 1, 1) := by decide +kernel
theorem d_S_isReplaceable_16 : decode b_S_isReplaceable 16 = .ok (.goto 4, 3) := by decide +kernel
theorem d_S_isReplaceable_19 : decode b_S_isReplaceable 19 = .ok (.iconst 0, 1) := by decide +kernel
theorem d_S_isReplaceable_20 : decode b_S_isReplaceable 20 = .ok (.ireturn, 1) := by decide +kernel
theorem d_S_abandon_0 : decode b_S_abandon 0 = .ok (.aload_n 0, 1) := by decide +kernel
theorem d_S_abandon_1 : decode b_S_abandon 1 = .ok (.invokevirtual 43, 3) := by decide +kernel
theorem d_S_abandon_4 : decode b_S_abandon 4 = .ok (.aload_n 0, 1) := by decide +kernel
theorem d_S_abandon_5 : decode b_S_abandon 5 = .ok (.iload_n 1, 1) := by decide +kernel
theorem d_S_abandon_6 : decode b_S_abandon 6 = .ok (.invokevirtual 100, 3) := by decide +kernel
theorem d_S_abandon_9 : decode b_S_abandon 9 = .ok (.ifCond .ne 5, 3) := by decide +kernel
theorem d_S_abandon_12 : decode b_S_abandon 12 = .ok (.iconst (-1), 1) := by decide +kernel
theorem d_S_abandon_13 : decode b_S_abandon 13 = .ok (.ireturn, 1) := by decide +kernel
theorem d_S_abandon_14 : decode b_S_abandon 14 = .ok (.aload_n 0, 1) := by decide +kernel
theorem d_S_abandon_15 : decode b_S_abandon 15 = .ok (.getfield 28, 3) := by decide +kernel
theorem d_S_abandon_18 : decode b_S_abandon 18 = .ok (.iload_n 1, 1) := by decide +kernel
theorem d_S_abandon_19 : decode b_S_abandon 19 = .ok (.aload_n 0, 1) := by decide +kernel
theorem d_S_abandon_20 : decode b_S_abandon 20 = .ok (.getfield 10, 3) := by decide +kernel
theorem d_S_abandon_23 : decode b_S_abandon 23 = .ok (.iload_n 1, 1) := by decide +kernel
theorem d_S_abandon_24 : decode b_S_abandon 24 = .ok (.invokevirtual 85, 3) := by decide +kernel
theorem d_S_abandon_27 : decode b_S_abandon 27 = .ok (.invokevirtual 96, 3) := by decide +kernel
theorem d_S_abandon_30 : decode b_S_abandon 30 = .ok (.aload_n 0, 1) := by decide +kernel
theorem d_S_abandon_31 : decode b_S_abandon 31 = .ok (.aload_n 0, 1) := by decide +kernel
theorem d_S_abandon_32 : decode b_S_abandon 32 = .ok (.getfield 36, 3) := by decide +kernel
theorem d_S_abandon_35 : decode b_S_abandon 35 = .ok (.iconst (-1), 1) := by decide +kernel
theorem d_S_abandon_36 : decode b_S_abandon 36 = .ok (.invokevirtual 65, 3) := by decide +kernel
theorem d_S_abandon_39 : decode b_S_abandon 39 = .ok (.ireturn, 1) := by decide +kernel
theorem d_S_squash_0 : decode b_S_squash 0 = .ok (.aload_n 0, 1) := by decide +kernel
theorem d_S_squash_1 : decode b_S_squash 1 = .ok (.invokevirtual 43, 3) := by decide +kernel
theorem d_S_squash_4 : decode b_S_squash 4 = .ok (.aload_n 0, 1) := by decide +kernel
theorem d_S_squash_5 : decode b_S_squash 5 = .ok (.iload_n 1, 1) := by decide +kernel
theorem d_S_squash_6 : decode b_S_squash 6 = .ok (.invokevirtual 100, 3) := by decide +kernel
theorem d_S_squash_9 : decode b_S_squash 9 = .ok (.ifCond .eq 14, 3) := by decide +kernel
theorem d_S_squash_12 : decode b_S_squash 12 = .ok (.aload_n 0, 1) := by decide +kernel
theorem d_S_squash_13 : decode b_S_squash 13 = .ok (.getfield 10, 3) := by decide +kernel
theorem d_S_squash_16 : decode b_S_squash 16 = .ok (.iload_n 1, 1) := by decide +kernel
theorem d_S_squash_17 : decode b_S_squash 17 = .ok (.invokevirtual 85, 3) := by decide +kernel
theorem d_S_squash_20 : decode b_S_squash 20 = .ok (.ifCond .ne 5, 3) := by decide +kernel
theorem d_S_squash_23 : decode b_S_squash 23 = .ok (.iconst (-1), 1) := by decide +kernel
theorem d_S_squash_24 : decode b_S_squash 24 = .ok (.ireturn, 1) := by decide +kernel
theorem d_S_squash_25 : decode b_S_squash 25 = .ok (.aload_n 0, 1) := by decide +kernel
theorem d_S_squash_26 : decode b_S_squash 26 = .ok (.invokevirtual 50, 3) := by decide +kernel
theorem d_S_squash_29 : decode b_S_squash 29 = .ok (.ifCond .ne 6, 3) := by decide +kernel
theorem d_S_squash_32 : decode b_S_squash 32 = .ok (.bipush (-3), 2) := by decide +kernel
theorem d_S_squash_34 : decode b_S_squash 34 = .ok (.ireturn, 1) := by decide +kernel
theorem d_S_squash_35 : decode b_S_squash 35 = .ok (.aload_n 0, 1) := by decide +kernel
theorem d_S_squash_36 : decode b_S_squash 36 = .ok (.getfield 10, 3) := by decide +kernel
theorem d_S_squash_39 : decode b_S_squash 39 = .ok (.iload_n 1, 1) := by decide +kernel
theorem d_S_squash_40 : decode b_S_squash 40 = .ok (.invokevirtual 85, 3) := by decide +kernel
theorem d_S_squash_43 : decode b_S_squash 43 = .ok (.istore_n 2, 1) := by decide +kernel
theorem d_S_squash_44 : decode b_S_squash 44 = .ok (.aload_n 0, 1) := by decide +kernel
theorem d_S_squash_45 : decode b_S_squash 45 = .ok (.getfield 10, 3) := by decide +kernel
theorem d_S_squash_48 : decode b_S_squash 48 = .ok (.aload_n 0, 1) := by decide +kernel
theorem d_S_squash_49 : decode b_S_squash 49 = .ok (.getfield 10, 3) := by decide +kernel
theorem d_S_squash_52 : decode b_S_squash 52 = .ok (.iload_n 2, 1) := by decide +kernel
theorem d_S_squash_53 : decode b_S_squash 53 = .ok (.invokevirtual 82, 3) := by decide +kernel
theorem d_S_squash_56 : decode b_S_squash 56 = .ok (.aload_n 0, 1) := by decide +kernel
theorem d_S_squash_57 : decode b_S_squash 57 = .ok (.getfield 10, 3) := by decide +kernel
theorem d_S_squash_60 : decode b_S_squash 60 = .ok (.iload_n 2, 1) := by decide +kernel
theorem d_S_squash_61 : decode b_S_squash 61 = .ok (.invokevirtual 85, 3) := by decide +kernel
theorem d_S_squash_64 : decode b_S_squash 64 = .ok (.iload_n 1, 1) := by decide +kernel
theorem d_S_squash_65 : decode b_S_squash 65 = .ok (.invokevirtual 88, 3) := by decide +kernel
theorem d_S_squash_68 : decode b_S_squash 68 = .ok (.istore_n 3, 1) := by decide +kernel
theorem d_S_squash_69 : decode b_S_squash 69 = .ok (.aload_n 0, 1) := by decide +kernel
theorem d_S_squash_70 : decode b_S_squash 70 = .ok (.getfield 28, 3) := by decide +kernel
theorem d_S_squash_73 : decode b_S_squash 73 = .ok (.iload_n 1, 1) := by decide +kernel
theorem d_S_squash_74 : decode b_S_squash 74 = .ok (.iload_n 3, 1) := by decide +kernel
theorem d_S_squash_75 : decode b_S_squash 75 = .ok (.invokevirtual 96, 3) := by decide +kernel
theorem d_S_squash_78 : decode b_S_squash 78 = .ok (.aload_n 0, 1) := by decide +kernel
theorem d_S_squash_79 : decode b_S_squash 79 = .ok (.getfield 28, 3) := by decide +kernel
theorem d_S_squash_82 : decode b_S_squash 82 = .ok (.iload_n 2, 1) := by decide +kernel
theorem d_S_squash_83 : decode b_S_squash 83 = .ok (.iload_n 3, 1) := by decide +kernel
theorem d_S_squash_84 : decode b_S_squash 84 = .ok (.invokevirtual 96, 3) := by decide +kernel
theorem d_S_squash_87 : decode b_S_squash 87 = .ok (.aload_n 0, 1) := by decide +kernel
theorem d_S_squash_88 : decode b_S_squash 88 = .ok (.aload_n 0, 1) := by decide +kernel
theorem d_S_squash_89 : decode b_S_squash 89 = .ok (.getfield 36, 3) := by decide +kernel
theorem d_S_squash_92 : decode b_S_squash 92 = .ok (.iconst (-1), 1) := by decide +kernel
theorem d_S_squash_93 : decode b_S_squash 93 = .ok (.invokevirtual 65, 3) := by decide +kernel
theorem d_S_squash_96 : decode b_S_squash 96 = .ok (.ireturn, 1) := by decide +kernel
theorem d_S_edit_0 : decode b_S_edit 0 = .ok (.aload_n 0, 1) := by decide +kernel
theorem d_S_edit_1 : decode b_S_edit 1 = .ok (.invokevirtual 43, 3) := by decide +kernel
theorem d_S_edit_4 : decode b_S_edit 4 = .ok (.aload_n 0, 1) := by decide +kernel
theorem d_S_edit_5 : decode b_S_edit 5 = .ok (.getfield 28, 3) := by decide +kernel
theorem d_S_edit_8 : decode b_S_edit 8 = .ok (.iload_n 1, 1) := by decide +kernel
theorem d_S_edit_9 : decode b_S_edit 9 = .ok (.invokevirtual 46, 3) := by decide +kernel
theorem d_S_edit_12 : decode b_S_edit 12 = .ok (.ifCond .ne 5, 3) := by decide +kernel
theorem d_S_edit_15 : decode b_S_edit 15 = .ok (.iconst (-1), 1) := by decide +kernel
theorem d_S_edit_16 : decode b_S_edit 16 = .ok (.ireturn, 1) := by decide +kernel
theorem d_S_edit_17 : decode b_S_edit 17 = .ok (.aload_n 0, 1) := by decide +kernel
theorem d_S_edit_18 : decode b_S_edit 18 = .ok (.getfield 28, 3) := by decide +kernel
theorem d_S_edit_21 : decode b_S_edit 21 = .ok (.getfield 69, 3) := by decide +kernel
theorem d_S_edit_24 : decode b_S_edit 24 = .ok (.iload_n 1, 1) := by decide +kernel
theorem d_S_edit_25 : decode b_S_edit 25 = .ok (.if_icmp .ne 6, 3) := by decide +kernel
theorem d_S_edit_28 : decode b_S_edit 28 = .ok (.bipush (-2), 2) := by decide +kernel
theorem d_S_edit_30 : decode b_S_edit 30 = .ok (.ireturn, 1) := by decide +kernel
theorem d_S_edit_31 : decode b_S_edit 31 = .ok (.aload_n 0, 1) := by decide +kernel
theorem d_S_edit_32 : decode b_S_edit 32 = .ok (.getfield 28, 3) := by decide +kernel
theorem d_S_edit_35 : decode b_S_edit 35 = .ok (.iload_n 1, 1) := by decide +kernel
theorem d_S_edit_36 : decode b_S_edit 36 = .ok (.invokevirtual 62, 3) := by decide +kernel
theorem d_S_edit_39 : decode b_S_edit 39 = .ok (.aload_n 0, 1) := by decide +kernel
theorem d_S_edit_40 : decode b_S_edit 40 = .ok (.aload_n 0, 1) := by decide +kernel
theorem d_S_edit_41 : decode b_S_edit 41 = .ok (.getfield 36, 3) := by decide +kernel
theorem d_S_edit_44 : decode b_S_edit 44 = .ok (.iconst (-1), 1) := by decide +kernel
theorem d_S_edit_45 : decode b_S_edit 45 = .ok (.invokevirtual 65, 3) := by decide +kernel
theorem d_S_edit_48 : decode b_S_edit 48 = .ok (.ireturn, 1) := by decide +kernel
theorem d_S_mark_0 : decode b_S_mark 0 = .ok (.aload_n 0, 1) := by decide +kernel
theorem d_S_mark_1 : decode b_S_mark 1 = .ok (.invokevirtual 43, 3) := by decide +kernel
theorem d_S_mark_4 : decode b_S_mark 4 = .ok (.iload_n 1, 1) := by decide +kernel
theorem d_S_mark_5 : decode b_S_mark 5 = .ok (.invokestatic 114, 3) := by decide +kernel
theorem d_S_mark_8 : decode b_S_mark 8 = .ok (.ifCond .eq 19, 3) := by decide +kernel
theorem d_S_mark_11 : decode b_S_mark 11 = .ok (.iload_n 2, 1) := by decide +kernel
theorem d_S_mark_12 : decode b_S_mark 12 = .ok (.iconst (-1), 1) := by decide +kernel
theorem d_S_mark_13 : decode b_S_mark 13 = .ok (.if_icmp .eq 16, 3) := by decide +kernel
theorem d_S_mark_16 : decode b_S_mark 16 = .ok (.aload_n 0, 1) := by decide +kernel
theorem d_S_mark_17 : decode b_S_mark 17 = .ok (.getfield 28, 3) := by decide +kernel
theorem d_S_mark_20 : decode b_S_mark 20 = .ok (.iload_n 2, 1) := by decide +kernel
theorem d_S_mark_21 : decode b_S_mark 21 = .ok (.invokevirtual 46, 3) := by decide +kernel
theorem d_S_mark_24 : decode b_S_mark 24 = .ok (.ifCond .ne 5, 3) := by decide +kernel
theorem d_S_mark_27 : decode b_S_mark 27 = .ok (.iconst (-1), 1) := by decide +kernel
theorem d_S_mark_28 : decode b_S_mark 28 = .ok (.ireturn, 1) := by decide +kernel
theorem d_S_mark_29 : decode b_S_mark 29 = .ok (.aload_n 0, 1) := by decide +kernel
theorem d_S_mark_30 : decode b_S_mark 30 = .ok (.getfield 28, 3) := by decide +kernel
theorem d_S_mark_33 : decode b_S_mark 33 = .ok (.getfield 117, 3) := by decide +kernel
theorem d_S_mark_36 : decode b_S_mark 36 = .ok (.iload_n 1, 1) := by decide +kernel
theorem d_S_mark_37 : decode b_S_mark 37 = .ok (.iaload, 1) := by decide +kernel
theorem d_S_mark_38 : decode b_S_mark 38 = .ok (.iload_n 2, 1) := by decide +kernel
theorem d_S_mark_39 : decode b_S_mark 39 = .ok (.if_icmp .ne 6, 3) := by decide +kernel
theorem d_S_mark_42 : decode b_S_mark 42 = .ok (.bipush (-2), 2) := by decide +kernel
theorem d_S_mark_44 : decode b_S_mark 44 = .ok (.ireturn, 1) := by decide +kernel
theorem d_S_mark_45 : decode b_S_mark 45 = .ok (.aload_n 0, 1) := by decide +kernel
theorem d_S_mark_46 : decode b_S_mark 46 = .ok (.getfield 28, 3) := by decide +kernel
theorem d_S_mark_49 : decode b_S_mark 49 = .ok (.getfield 117, 3) := by decide +kernel
theorem d_S_mark_52 : decode b_S_mark 52 = .ok (.iload_n 1, 1) := by decide +kernel
theorem d_S_mark_53 : decode b_S_mark 53 = .ok (.iload_n 2, 1) := by decide +kernel
theorem d_S_mark_54 : decode b_S_mark 54 = .ok (.iastore, 1) := by decide +kernel
theorem d_S_mark_55 : decode b_S_mark 55 = .ok (.aload_n 0, 1) := by decide +kernel
theorem d_S_mark_56 : decode b_S_mark 56 = .ok (.aload_n 0, 1) := by decide +kernel
theorem d_S_mark_57 : decode b_S_mark 57 = .ok (.getfield 36, 3) := by decide +kernel
theorem d_S_mark_60 : decode b_S_mark 60 = .ok (.iconst (-1), 1) := by decide +kernel
theorem d_S_mark_61 : decode b_S_mark 61 = .ok (.invokevirtual 65, 3) := by decide +kernel
theorem d_S_mark_64 : decode b_S_mark 64 = .ok (.ireturn, 1) := by decide +kernel
theorem d_S_undo_0 : decode b_S_undo 0 = .ok (.aload_n 0, 1) := by decide +kernel
theorem d_S_undo_1 : decode b_S_undo 1 = .ok (.getfield 32, 3) := by decide +kernel
theorem d_S_undo_4 : decode b_S_undo 4 = .ok (.aload_n 0, 1) := by decide +kernel
theorem d_S_undo_5 : decode b_S_undo 5 = .ok (.getfield 36, 3) := by decide +kernel
theorem d_S_undo_8 : decode b_S_undo 8 = .ok (.iaload, 1) := by decide +kernel
theorem d_S_undo_9 : decode b_S_undo 9 = .ok (.istore_n 1, 1) := by decide +kernel
theorem d_S_undo_10 : decode b_S_undo 10 = .ok (.aload_n 0, 1) := by decide +kernel
theorem d_S_undo_11 : decode b_S_undo 11 = .ok (.getfield 19, 3) := by decide +kernel
theorem d_S_undo_14 : decode b_S_undo 14 = .ok (.iload_n 1, 1) := by decide +kernel
theorem d_S_undo_15 : decode b_S_undo 15 = .ok (.invokevirtual 120, 3) := by decide +kernel
theorem d_S_undo_18 : decode b_S_undo 18 = .ok (.istore_n 2, 1) := by decide +kernel
theorem d_S_undo_19 : decode b_S_undo 19 = .ok (.aload_n 0, 1) := by decide +kernel
theorem d_S_undo_20 : decode b_S_undo 20 = .ok (.getfield 19, 3) := by decide +kernel
theorem d_S_undo_23 : decode b_S_undo 23 = .ok (.iload_n 1, 1) := by decide +kernel
theorem d_S_undo_24 : decode b_S_undo 24 = .ok (.invokevirtual 123, 3) := by decide +kernel
theorem d_S_undo_27 : decode b_S_undo 27 = .ok (.iconst (-1), 1) := by decide +kernel
theorem d_S_undo_28 : decode b_S_undo 28 = .ok (.if_icmp .eq 7, 3) := by decide +kernel
theorem d_S_undo_31 : decode b_S_undo 31 = .ok (.iconst 1, 1) := by decide +kernel
theorem d_S_undo_32 : decode b_S_undo 32 = .ok (.goto 4, 3) := by decide +kernel
theorem d_S_undo_35 : decode b_S_undo 35 = .ok (.iconst 0, 1) := by decide +kernel
theorem d_S_undo_36 : decode b_S_undo 36 = .ok (.istore_n 3, 1) := by decide +kernel
theorem d_S_undo_37 : decode b_S_undo 37 = .ok (.iload_n 2, 1) := by decide +kernel
theorem d_S_undo_38 : decode b_S_undo 38 = .ok (.iconst (-1), 1) := by decide +kernel
theorem d_S_undo_39 : decode b_S_undo 39 = .ok (.if_icmp .eq 7, 3) := by decide +kernel
theorem d_S_undo_42 : decode b_S_undo 42 = .ok (.iload_n 3, 1) := by decide +kernel
theorem d_S_undo_43 : decode b_S_undo 43 = .ok (.ifCond .eq 5, 3) := by decide +kernel
theorem d_S_undo_46 : decode b_S_undo 46 = .ok (.iconst (-1), 1) := by decide +kernel
theorem d_S_undo_47 : decode b_S_undo 47 = .ok (.ireturn, 1) := by decide +kernel
theorem d_S_undo_48 : decode b_S_undo 48 = .ok (.aload_n 0, 1) := by decide +kernel
theorem d_S_undo_49 : decode b_S_undo 49 = .ok (.getfield 28, 3) := by decide +kernel
theorem d_S_undo_52 : decode b_S_undo 52 = .ok (.aload_n 0, 1) := by decide +kernel
theorem d_S_undo_53 : decode b_S_undo 53 = .ok (.getfield 19, 3) := by decide +kernel
theorem d_S_undo_56 : decode b_S_undo 56 = .ok (.iload_n 2, 1) := by decide +kernel
theorem d_S_undo_57 : decode b_S_undo 57 = .ok (.invokevirtual 126, 3) := by decide +kernel
theorem d_S_undo_60 : decode b_S_undo 60 = .ok (.aload_n 0, 1) := by decide +kernel
theorem d_S_undo_61 : decode b_S_undo 61 = .ok (.aload_n 0, 1) := by decide +kernel
theorem d_S_undo_62 : decode b_S_undo 62 = .ok (.getfield 36, 3) := by decide +kernel
theorem d_S_undo_65 : decode b_S_undo 65 = .ok (.iconst (-1), 1) := by decide +kernel
theorem d_S_undo_66 : decode b_S_undo 66 = .ok (.invokevirtual 65, 3) := by decide +kernel
theorem d_S_undo_69 : decode b_S_undo 69 = .ok (.ireturn, 1) := by decide +kernel
theorem d_O_firstBefore_0 : decode b_O_firstBefore 0 = .ok (.aload_n 0, 1) := by decide +kernel
theorem d_O_firstBefore_1 : decode b_O_firstBefore 1 = .ok (.iload_n 1, 1) := by decide +kernel
theorem d_O_firstBefore_2 : decode b_O_firstBefore 2 = .ok (.invokevirtual 36, 3) := by decide +kernel
theorem d_O_firstBefore_5 : decode b_O_firstBefore 5 = .ok (.ifCond .eq 12, 3) := by decide +kernel
theorem d_O_firstBefore_8 : decode b_O_firstBefore 8 = .ok (.aload_n 0, 1) := by decide +kernel
theorem d_O_firstBefore_9 : decode b_O_firstBefore 9 = .ok (.getfield 9, 3) := by decide +kernel
theorem d_O_firstBefore_12 : decode b_O_firstBefore 12 = .ok (.iload_n 1, 1) := by decide +kernel
theorem d_O_firstBefore_13 : decode b_O_firstBefore 13 = .ok (.iaload, 1) := by decide +kernel
theorem d_O_firstBefore_14 : decode b_O_firstBefore 14 = .ok (.goto 4, 3) := by decide +kernel
theorem d_O_firstBefore_17 : decode b_O_firstBefore 17 = .ok (.iconst (-1), 1) := by decide +kernel
theorem d_O_firstBefore_18 : decode b_O_firstBefore 18 = .ok (.ireturn, 1) := by decide +kernel
theorem d_O_secondBefore_0 : decode b_O_secondBefore 0 = .ok (.aload_n 0, 1) := by decide +kernel
theorem d_O_secondBefore_1 : decode b_O_secondBefore 1 = .ok (.iload_n 1, 1) := by decide +kernel
theorem d_O_secondBefore_2 : decode b_O_secondBefore 2 = .ok (.invokevirtual 36, 3) := by decide +kernel
theorem d_O_secondBefore_5 : decode b_O_secondBefore 5 = .ok (.ifCond .eq 12, 3) := by decide +kernel
theorem d_O_secondBefore_8 : decode b_O_secondBefore 8 = .ok (.aload_n 0, 1) := by decide +kernel
theorem d_O_secondBefore_9 : decode b_O_secondBefore 9 = .ok (.getfield 15, 3) := by decide +kernel
theorem d_O_secondBefore_12 : decode b_O_secondBefore 12 = .ok (.iload_n 1, 1) := by decide +kernel
theorem d_O_secondBefore_13 : decode b_O_secondBefore 13 = .ok (.iaload, 1) := by decide +kernel
theorem d_O_secondBefore_14 : decode b_O_secondBefore 14 = .ok (.goto 4, 3) := by decide +kernel
theorem d_O_secondBefore_17 : decode b_O_secondBefore 17 = .ok (.iconst (-1), 1) := by decide +kernel
theorem d_O_secondBefore_18 : decode b_O_secondBefore 18 = .ok (.ireturn, 1) := by decide +kernel
theorem d_S_restore_0 : decode b_S_restore 0 = .ok (.aload_n 0, 1) := by decide +kernel
theorem d_S_restore_1 : decode b_S_restore 1 = .ok (.getfield 19, 3) := by decide +kernel
theorem d_S_restore_4 : decode b_S_restore 4 = .ok (.iload_n 1, 1) := by decide +kernel
theorem d_S_restore_5 : decode b_S_restore 5 = .ok (.invokevirtual 130, 3) := by decide +kernel
theorem d_S_restore_8 : decode b_S_restore 8 = .ok (.ifCond .ne 5, 3) := by decide +kernel
theorem d_S_restore_11 : decode b_S_restore 11 = .ok (.iconst (-1), 1) := by decide +kernel
theorem d_S_restore_12 : decode b_S_restore 12 = .ok (.ireturn, 1) := by decide +kernel
theorem d_S_restore_13 : decode b_S_restore 13 = .ok (.aload_n 0, 1) := by decide +kernel
theorem d_S_restore_14 : decode b_S_restore 14 = .ok (.getfield 28, 3) := by decide +kernel
theorem d_S_restore_17 : decode b_S_restore 17 = .ok (.aload_n 0, 1) := by decide +kernel
theorem d_S_restore_18 : decode b_S_restore 18 = .ok (.getfield 19, 3) := by decide +kernel
theorem d_S_restore_21 : decode b_S_restore 21 = .ok (.iload_n 1, 1) := by decide +kernel
