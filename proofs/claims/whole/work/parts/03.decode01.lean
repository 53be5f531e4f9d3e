theorem d_D_workOn_5 : decode b_D_workOn 5 = .ok (.return_, 1) := by decide +kernel
theorem d_S_keepDraft_0 : decode b_S_keepDraft 0 = .ok (.aload_n 0, 1) := by decide +kernel
theorem d_S_keepDraft_1 : decode b_S_keepDraft 1 = .ok (.getfield 19, 3) := by decide +kernel
theorem d_S_keepDraft_4 : decode b_S_keepDraft 4 = .ok (.invokevirtual 162, 3) := by decide +kernel
theorem d_S_keepDraft_7 : decode b_S_keepDraft 7 = .ok (.ifCond .ne 13, 3) := by decide +kernel
theorem d_S_keepDraft_10 : decode b_S_keepDraft 10 = .ok (.aload_n 0, 1) := by decide +kernel
theorem d_S_keepDraft_11 : decode b_S_keepDraft 11 = .ok (.getfield 28, 3) := by decide +kernel
theorem d_S_keepDraft_14 : decode b_S_keepDraft 14 = .ok (.invokevirtual 163, 3) := by decide +kernel
theorem d_S_keepDraft_17 : decode b_S_keepDraft 17 = .ok (.ifCond .ne 20, 3) := by decide +kernel
theorem d_S_keepDraft_20 : decode b_S_keepDraft 20 = .ok (.aload_n 0, 1) := by decide +kernel
theorem d_S_keepDraft_21 : decode b_S_keepDraft 21 = .ok (.getfield 10, 3) := by decide +kernel
theorem d_S_keepDraft_24 : decode b_S_keepDraft 24 = .ok (.aload_n 0, 1) := by decide +kernel
theorem d_S_keepDraft_25 : decode b_S_keepDraft 25 = .ok (.getfield 28, 3) := by decide +kernel
theorem d_S_keepDraft_28 : decode b_S_keepDraft 28 = .ok (.getfield 166, 3) := by decide +kernel
theorem d_S_keepDraft_31 : decode b_S_keepDraft 31 = .ok (.invokevirtual 169, 3) := by decide +kernel
theorem d_S_keepDraft_34 : decode b_S_keepDraft 34 = .ok (.bipush (-3), 2) := by decide +kernel
theorem d_S_keepDraft_36 : decode b_S_keepDraft 36 = .ok (.ireturn, 1) := by decide +kernel
theorem d_S_keepDraft_37 : decode b_S_keepDraft 37 = .ok (.aload_n 0, 1) := by decide +kernel
theorem d_S_keepDraft_38 : decode b_S_keepDraft 38 = .ok (.getfield 28, 3) := by decide +kernel
theorem d_S_keepDraft_41 : decode b_S_keepDraft 41 = .ok (.invokevirtual 172, 3) := by decide +kernel
theorem d_S_keepDraft_44 : decode b_S_keepDraft 44 = .ok (.aload_n 0, 1) := by decide +kernel
theorem d_S_keepDraft_45 : decode b_S_keepDraft 45 = .ok (.getfield 19, 3) := by decide +kernel
theorem d_S_keepDraft_48 : decode b_S_keepDraft 48 = .ok (.aload_n 0, 1) := by decide +kernel
theorem d_S_keepDraft_49 : decode b_S_keepDraft 49 = .ok (.getfield 28, 3) := by decide +kernel
theorem d_S_keepDraft_52 : decode b_S_keepDraft 52 = .ok (.aload_n 0, 1) := by decide +kernel
theorem d_S_keepDraft_53 : decode b_S_keepDraft 53 = .ok (.getfield 32, 3) := by decide +kernel
theorem d_S_keepDraft_56 : decode b_S_keepDraft 56 = .ok (.iload_n 1, 1) := by decide +kernel
theorem d_S_keepDraft_57 : decode b_S_keepDraft 57 = .ok (.iaload, 1) := by decide +kernel
theorem d_S_keepDraft_58 : decode b_S_keepDraft 58 = .ok (.iload_n 2, 1) := by decide +kernel
theorem d_S_keepDraft_59 : decode b_S_keepDraft 59 = .ok (.invokevirtual 175, 3) := by decide +kernel
theorem d_S_keepDraft_62 : decode b_S_keepDraft 62 = .ok (.istore_n 3, 1) := by decide +kernel
theorem d_S_keepDraft_63 : decode b_S_keepDraft 63 = .ok (.aload_n 0, 1) := by decide +kernel
theorem d_S_keepDraft_64 : decode b_S_keepDraft 64 = .ok (.getfield 32, 3) := by decide +kernel
theorem d_S_keepDraft_67 : decode b_S_keepDraft 67 = .ok (.iload_n 1, 1) := by decide +kernel
theorem d_S_keepDraft_68 : decode b_S_keepDraft 68 = .ok (.iload_n 3, 1) := by decide +kernel
theorem d_S_keepDraft_69 : decode b_S_keepDraft 69 = .ok (.iastore, 1) := by decide +kernel
theorem d_S_keepDraft_70 : decode b_S_keepDraft 70 = .ok (.iload_n 3, 1) := by decide +kernel
theorem d_S_keepDraft_71 : decode b_S_keepDraft 71 = .ok (.ireturn, 1) := by decide +kernel
theorem d_D_settleCommits_0 : decode b_D_settleCommits 0 = .ok (.iconst 0, 1) := by decide +kernel
theorem d_D_settleCommits_1 : decode b_D_settleCommits 1 = .ok (.istore_n 1, 1) := by decide +kernel
theorem d_D_settleCommits_2 : decode b_D_settleCommits 2 = .ok (.iload_n 1, 1) := by decide +kernel
theorem d_D_settleCommits_3 : decode b_D_settleCommits 3 = .ok (.bipush 60, 2) := by decide +kernel
theorem d_D_settleCommits_5 : decode b_D_settleCommits 5 = .ok (.if_icmp .ge 77, 3) := by decide +kernel
theorem d_D_settleCommits_8 : decode b_D_settleCommits 8 = .ok (.aload_n 0, 1) := by decide +kernel
theorem d_D_settleCommits_9 : decode b_D_settleCommits 9 = .ok (.invokevirtual 82, 3) := by decide +kernel
theorem d_D_settleCommits_12 : decode b_D_settleCommits 12 = .ok (.istore_n 2, 1) := by decide +kernel
theorem d_D_settleCommits_13 : decode b_D_settleCommits 13 = .ok (.iload_n 2, 1) := by decide +kernel
theorem d_D_settleCommits_14 : decode b_D_settleCommits 14 = .ok (.iconst (-1), 1) := by decide +kernel
theorem d_D_settleCommits_15 : decode b_D_settleCommits 15 = .ok (.if_icmp .ne 5, 3) := by decide +kernel
theorem d_D_settleCommits_18 : decode b_D_settleCommits 18 = .ok (.iconst 1, 1) := by decide +kernel
theorem d_D_settleCommits_19 : decode b_D_settleCommits 19 = .ok (.ireturn, 1) := by decide +kernel
theorem d_D_settleCommits_20 : decode b_D_settleCommits 20 = .ok (.aload_n 0, 1) := by decide +kernel
theorem d_D_settleCommits_21 : decode b_D_settleCommits 21 = .ok (.getfield 9, 3) := by decide +kernel
theorem d_D_settleCommits_24 : decode b_D_settleCommits 24 = .ok (.invokevirtual 86, 3) := by decide +kernel
theorem d_D_settleCommits_27 : decode b_D_settleCommits 27 = .ok (.ifCond .eq 5, 3) := by decide +kernel
theorem d_D_settleCommits_30 : decode b_D_settleCommits 30 = .ok (.iconst 0, 1) := by decide +kernel
theorem d_D_settleCommits_31 : decode b_D_settleCommits 31 = .ok (.ireturn, 1) := by decide +kernel
theorem d_D_settleCommits_32 : decode b_D_settleCommits 32 = .ok (.aload_n 0, 1) := by decide +kernel
theorem d_D_settleCommits_33 : decode b_D_settleCommits 33 = .ok (.getfield 31, 3) := by decide +kernel
theorem d_D_settleCommits_36 : decode b_D_settleCommits 36 = .ok (.aload_n 0, 1) := by decide +kernel
theorem d_D_settleCommits_37 : decode b_D_settleCommits 37 = .ok (.getfield 9, 3) := by decide +kernel
theorem d_D_settleCommits_40 : decode b_D_settleCommits 40 = .ok (.iload_n 2, 1) := by decide +kernel
theorem d_D_settleCommits_41 : decode b_D_settleCommits 41 = .ok (.invokevirtual 90, 3) := by decide +kernel
theorem d_D_settleCommits_44 : decode b_D_settleCommits 44 = .ok (.ldc2_w 47, 3) := by decide +kernel
theorem d_D_settleCommits_47 : decode b_D_settleCommits 47 = .ok (.lxor, 1) := by decide +kernel
theorem d_D_settleCommits_48 : decode b_D_settleCommits 48 = .ok (.land, 1) := by decide +kernel
theorem d_D_settleCommits_49 : decode b_D_settleCommits 49 = .ok (.lstore_n 3, 1) := by decide +kernel
theorem d_D_settleCommits_50 : decode b_D_settleCommits 50 = .ok (.aload_n 0, 1) := by decide +kernel
theorem d_D_settleCommits_51 : decode b_D_settleCommits 51 = .ok (.iload_n 2, 1) := by decide +kernel
theorem d_D_settleCommits_52 : decode b_D_settleCommits 52 = .ok (.aload_n 0, 1) := by decide +kernel
theorem d_D_settleCommits_53 : decode b_D_settleCommits 53 = .ok (.getfield 9, 3) := by decide +kernel
theorem d_D_settleCommits_56 : decode b_D_settleCommits 56 = .ok (.iload_n 2, 1) := by decide +kernel
theorem d_D_settleCommits_57 : decode b_D_settleCommits 57 = .ok (.aload_n 0, 1) := by decide +kernel
theorem d_D_settleCommits_58 : decode b_D_settleCommits 58 = .ok (.aload_n 0, 1) := by decide +kernel
theorem d_D_settleCommits_59 : decode b_D_settleCommits 59 = .ok (.getfield 9, 3) := by decide +kernel
theorem d_D_settleCommits_62 : decode b_D_settleCommits 62 = .ok (.iload_n 2, 1) := by decide +kernel
theorem d_D_settleCommits_63 : decode b_D_settleCommits 63 = .ok (.invokevirtual 93, 3) := by decide +kernel
theorem d_D_settleCommits_66 : decode b_D_settleCommits 66 = .ok (.lload_n 3, 1) := by decide +kernel
theorem d_D_settleCommits_67 : decode b_D_settleCommits 67 = .ok (.invokevirtual 96, 3) := by decide +kernel
theorem d_D_settleCommits_70 : decode b_D_settleCommits 70 = .ok (.invokevirtual 100, 3) := by decide +kernel
theorem d_D_settleCommits_73 : decode b_D_settleCommits 73 = .ok (.invokevirtual 103, 3) := by decide +kernel
theorem d_D_settleCommits_76 : decode b_D_settleCommits 76 = .ok (.iinc 1 1, 3) := by decide +kernel
theorem d_D_settleCommits_79 : decode b_D_settleCommits 79 = .ok (.goto (-77), 3) := by decide +kernel
theorem d_D_settleCommits_82 : decode b_D_settleCommits 82 = .ok (.iconst 0, 1) := by decide +kernel
theorem d_D_settleCommits_83 : decode b_D_settleCommits 83 = .ok (.ireturn, 1) := by decide +kernel
theorem d_D_lowestOrphan_0 : decode b_D_lowestOrphan 0 = .ok (.iconst 1, 1) := by decide +kernel
theorem d_D_lowestOrphan_1 : decode b_D_lowestOrphan 1 = .ok (.istore_n 1, 1) := by decide +kernel
theorem d_D_lowestOrphan_2 : decode b_D_lowestOrphan 2 = .ok (.iload_n 1, 1) := by decide +kernel
theorem d_D_lowestOrphan_3 : decode b_D_lowestOrphan 3 = .ok (.aload_n 0, 1) := by decide +kernel
theorem d_D_lowestOrphan_4 : decode b_D_lowestOrphan 4 = .ok (.getfield 9, 3) := by decide +kernel
theorem d_D_lowestOrphan_7 : decode b_D_lowestOrphan 7 = .ok (.getfield 59, 3) := by decide +kernel
theorem d_D_lowestOrphan_10 : decode b_D_lowestOrphan 10 = .ok (.if_icmp .ge 34, 3) := by decide +kernel
theorem d_D_lowestOrphan_13 : decode b_D_lowestOrphan 13 = .ok (.aload_n 0, 1) := by decide +kernel
theorem d_D_lowestOrphan_14 : decode b_D_lowestOrphan 14 = .ok (.iload_n 1, 1) := by decide +kernel
theorem d_D_lowestOrphan_15 : decode b_D_lowestOrphan 15 = .ok (.invokevirtual 107, 3) := by decide +kernel
theorem d_D_lowestOrphan_18 : decode b_D_lowestOrphan 18 = .ok (.ifCond .eq 20, 3) := by decide +kernel
theorem d_D_lowestOrphan_21 : decode b_D_lowestOrphan 21 = .ok (.aload_n 0, 1) := by decide +kernel
theorem d_D_lowestOrphan_22 : decode b_D_lowestOrphan 22 = .ok (.aload_n 0, 1) := by decide +kernel
theorem d_D_lowestOrphan_23 : decode b_D_lowestOrphan 23 = .ok (.getfield 9, 3) := by decide +kernel
theorem d_D_lowestOrphan_26 : decode b_D_lowestOrphan 26 = .ok (.iload_n 1, 1) := by decide +kernel
theorem d_D_lowestOrphan_27 : decode b_D_lowestOrphan 27 = .ok (.invokevirtual 93, 3) := by decide +kernel
theorem d_D_lowestOrphan_30 : decode b_D_lowestOrphan 30 = .ok (.invokevirtual 107, 3) := by decide +kernel
theorem d_D_lowestOrphan_33 : decode b_D_lowestOrphan 33 = .ok (.ifCond .ne 5, 3) := by decide +kernel
theorem d_D_lowestOrphan_36 : decode b_D_lowestOrphan 36 = .ok (.iload_n 1, 1) := by decide +kernel
theorem d_D_lowestOrphan_37 : decode b_D_lowestOrphan 37 = .ok (.ireturn, 1) := by decide +kernel
theorem d_D_lowestOrphan_38 : decode b_D_lowestOrphan 38 = .ok (.iinc 1 1, 3) := by decide +kernel
theorem d_D_lowestOrphan_41 : decode b_D_lowestOrphan 41 = .ok (.goto (-39), 3) := by decide +kernel
theorem d_D_lowestOrphan_44 : decode b_D_lowestOrphan 44 = .ok (.iconst (-1), 1) := by decide +kernel
theorem d_D_lowestOrphan_45 : decode b_D_lowestOrphan 45 = .ok (.ireturn, 1) := by decide +kernel
theorem d_C_parentOf_0 : decode b_C_parentOf 0 = .ok (.aload_n 0, 1) := by decide +kernel
theorem d_C_parentOf_1 : decode b_C_parentOf 1 = .ok (.iload_n 1, 1) := by decide +kernel
theorem d_C_parentOf_2 : decode b_C_parentOf 2 = .ok (.invokevirtual 29, 3) := by decide +kernel
theorem d_C_parentOf_5 : decode b_C_parentOf 5 = .ok (.ifCond .eq 12, 3) := by decide +kernel
theorem d_C_parentOf_8 : decode b_C_parentOf 8 = .ok (.aload_n 0, 1) := by decide +kernel
theorem d_C_parentOf_9 : decode b_C_parentOf 9 = .ok (.getfield 9, 3) := by decide +kernel
theorem d_C_parentOf_12 : decode b_C_parentOf 12 = .ok (.iload_n 1, 1) := by decide +kernel
theorem d_C_parentOf_13 : decode b_C_parentOf 13 = .ok (.iaload, 1) := by decide +kernel
theorem d_C_parentOf_14 : decode b_C_parentOf 14 = .ok (.goto 4, 3) := by decide +kernel
theorem d_C_parentOf_17 : decode b_C_parentOf 17 = .ok (.iconst (-1), 1) := by decide +kernel
theorem d_C_parentOf_18 : decode b_C_parentOf 18 = .ok (.ireturn, 1) := by decide +kernel
theorem d_C_withAllThatComesOf_0 : decode b_C_withAllThatComesOf 0 = .ok (.iload_n 1, 1) := by decide +kernel
theorem d_C_withAllThatComesOf_1 : decode b_C_withAllThatComesOf 1 = .ok (.invokestatic 47, 3) := by decide +kernel
theorem d_C_withAllThatComesOf_4 : decode b_C_withAllThatComesOf 4 = .ok (.lstore_n 2, 1) := by decide +kernel
theorem d_C_withAllThatComesOf_5 : decode b_C_withAllThatComesOf 5 = .ok (.iload_n 1, 1) := by decide +kernel
theorem d_C_withAllThatComesOf_6 : decode b_C_withAllThatComesOf 6 = .ok (.iconst 1, 1) := by decide +kernel
theorem d_C_withAllThatComesOf_7 : decode b_C_withAllThatComesOf 7 = .ok (.iadd, 1) := by decide +kernel
theorem d_C_withAllThatComesOf_8 : decode b_C_withAllThatComesOf 8 = .ok (.istore 4, 2) := by decide +kernel
theorem d_C_withAllThatComesOf_10 : decode b_C_withAllThatComesOf 10 = .ok (.iload 4, 2) := by decide +kernel
theorem d_C_withAllThatComesOf_12 : decode b_C_withAllThatComesOf 12 = .ok (.aload_n 0, 1) := by decide +kernel
theorem d_C_withAllThatComesOf_13 : decode b_C_withAllThatComesOf 13 = .ok (.getfield 22, 3) := by decide +kernel
theorem d_C_withAllThatComesOf_16 : decode b_C_withAllThatComesOf 16 = .ok (.if_icmp .ge 30, 3) := by decide +kernel
theorem d_C_withAllThatComesOf_19 : decode b_C_withAllThatComesOf 19 = .ok (.aload_n 0, 1) := by decide +kernel
theorem d_C_withAllThatComesOf_20 : decode b_C_withAllThatComesOf 20 = .ok (.iload 4, 2) := by decide +kernel
theorem d_C_withAllThatComesOf_22 : decode b_C_withAllThatComesOf 22 = .ok (.invokevirtual 51, 3) := by decide +kernel
theorem d_C_withAllThatComesOf_25 : decode b_C_withAllThatComesOf 25 = .ok (.lload_n 2, 1) := by decide +kernel
theorem d_C_withAllThatComesOf_26 : decode b_C_withAllThatComesOf 26 = .ok (.invokestatic 55, 3) := by decide +kernel
theorem d_C_withAllThatComesOf_29 : decode b_C_withAllThatComesOf 29 = .ok (.ifCond .eq 11, 3) := by decide +kernel
theorem d_C_withAllThatComesOf_32 : decode b_C_withAllThatComesOf 32 = .ok (.lload_n 2, 1) := by decide +kernel
theorem d_C_withAllThatComesOf_33 : decode b_C_withAllThatComesOf 33 = .ok (.iload 4, 2) := by decide +kernel
theorem d_C_withAllThatComesOf_35 : decode b_C_withAllThatComesOf 35 = .ok (.invokestatic 47, 3) := by decide +kernel
theorem d_C_withAllThatComesOf_38 : decode b_C_withAllThatComesOf 38 = .ok (.lor, 1) := by decide +kernel
theorem d_C_withAllThatComesOf_39 : decode b_C_withAllThatComesOf 39 = .ok (.lstore_n 2, 1) := by decide +kernel
theorem d_C_withAllThatComesOf_40 : decode b_C_withAllThatComesOf 40 = .ok (.iinc 4 1, 3) := by decide +kernel
theorem d_C_withAllThatComesOf_43 : decode b_C_withAllThatComesOf 43 = .ok (.goto (-33), 3) := by decide +kernel
theorem d_C_withAllThatComesOf_46 : decode b_C_withAllThatComesOf 46 = .ok (.lload_n 2, 1) := by decide +kernel
theorem d_C_withAllThatComesOf_47 : decode b_C_withAllThatComesOf 47 = .ok (.lreturn, 1) := by decide +kernel
theorem d_D_placeOf_0 : decode b_D_placeOf 0 = .ok (.iload_n 1, 1) := by decide +kernel
theorem d_D_placeOf_1 : decode b_D_placeOf 1 = .ok (.istore 4, 2) := by decide +kernel
theorem d_D_placeOf_3 : decode b_D_placeOf 3 = .ok (.iconst 0, 1) := by decide +kernel
theorem d_D_placeOf_4 : decode b_D_placeOf 4 = .ok (.istore 5, 2) := by decide +kernel
theorem d_D_placeOf_6 : decode b_D_placeOf 6 = .ok (.iload 5, 2) := by decide +kernel
theorem d_D_placeOf_8 : decode b_D_placeOf 8 = .ok (.bipush 120, 2) := by decide +kernel
theorem d_D_placeOf_10 : decode b_D_placeOf 10 = .ok (.if_icmp .ge 27, 3) := by decide +kernel
theorem d_D_placeOf_13 : decode b_D_placeOf 13 = .ok (.aload_n 0, 1) := by decide +kernel
theorem d_D_placeOf_14 : decode b_D_placeOf 14 = .ok (.iload 4, 2) := by decide +kernel
theorem d_D_placeOf_16 : decode b_D_placeOf 16 = .ok (.invokevirtual 107, 3) := by decide +kernel
theorem d_D_placeOf_19 : decode b_D_placeOf 19 = .ok (.ifCond .ne 18, 3) := by decide +kernel
theorem d_D_placeOf_22 : decode b_D_placeOf 22 = .ok (.aload_n 0, 1) := by decide +kernel
theorem d_D_placeOf_23 : decode b_D_placeOf 23 = .ok (.iload 4, 2) := by decide +kernel
theorem d_D_placeOf_25 : decode b_D_placeOf 25 = .ok (.lload_n 2, 1) := by decide +kernel
theorem d_D_placeOf_26 : decode b_D_placeOf 26 = .ok (.invokevirtual 110, 3) := by decide +kernel
theorem d_D_placeOf_29 : decode b_D_placeOf 29 = .ok (.istore 4, 2) := by decide +kernel
theorem d_D_placeOf_31 : decode b_D_placeOf 31 = .ok (.iinc 5 1, 3) := by decide +kernel
theorem d_D_placeOf_34 : decode b_D_placeOf 34 = .ok (.goto (-28), 3) := by decide +kernel
theorem d_D_placeOf_37 : decode b_D_placeOf 37 = .ok (.aload_n 0, 1) := by decide +kernel
theorem d_D_placeOf_38 : decode b_D_placeOf 38 = .ok (.iload 4, 2) := by decide +kernel
theorem d_D_placeOf_40 : decode b_D_placeOf 40 = .ok (.invokevirtual 107, 3) := by decide +kernel
theorem d_D_placeOf_43 : decode b_D_placeOf 43 = .ok (.ifCond .eq 8, 3) := by decide +kernel
theorem d_D_placeOf_46 : decode b_D_placeOf 46 = .ok (.iload 4, 2) := by decide +kernel
theorem d_D_placeOf_48 : decode b_D_placeOf 48 = .ok (.goto 4, 3) := by decide +kernel
theorem d_D_placeOf_51 : decode b_D_placeOf 51 = .ok (.iconst 0, 1) := by decide +kernel
theorem d_D_placeOf_52 : decode b_D_placeOf 52 = .ok (.ireturn, 1) := by decide +kernel
theorem d_D_nextTowardsPlace_0 : decode b_D_nextTowardsPlace 0 = .ok (.aload_n 0, 1) := by decide +kernel
theorem d_D_nextTowardsPlace_1 : decode b_D_nextTowardsPlace 1 = .ok (.getfield 9, 3) := by decide +kernel
theorem d_D_nextTowardsPlace_4 : decode b_D_nextTowardsPlace 4 = .ok (.iload_n 1, 1) := by decide +kernel
theorem d_D_nextTowardsPlace_5 : decode b_D_nextTowardsPlace 5 = .ok (.invokevirtual 74, 3) := by decide +kernel
theorem d_D_nextTowardsPlace_8 : decode b_D_nextTowardsPlace 8 = .ok (.ifCond .ne 5, 3) := by decide +kernel
theorem d_D_nextTowardsPlace_11 : decode b_D_nextTowardsPlace 11 = .ok (.iconst 0, 1) := by decide +kernel
theorem d_D_nextTowardsPlace_12 : decode b_D_nextTowardsPlace 12 = .ok (.ireturn, 1) := by decide +kernel
theorem d_D_nextTowardsPlace_13 : decode b_D_nextTowardsPlace 13 = .ok (.aload_n 0, 1) := by decide +kernel
theorem d_D_nextTowardsPlace_14 : decode b_D_nextTowardsPlace 14 = .ok (.getfield 19, 3) := by decide +kernel
theorem d_D_nextTowardsPlace_17 : decode b_D_nextTowardsPlace 17 = .ok (.iload_n 1, 1) := by decide +kernel
theorem d_D_nextTowardsPlace_18 : decode b_D_nextTowardsPlace 18 = .ok (.iaload, 1) := by decide +kernel
theorem d_D_nextTowardsPlace_19 : decode b_D_nextTowardsPlace 19 = .ok (.iconst (-1), 1) := by decide +kernel
theorem d_D_nextTowardsPlace_20 : decode b_D_nextTowardsPlace 20 = .ok (.if_icmp .eq 10, 3) := by decide +kernel
theorem d_D_nextTowardsPlace_23 : decode b_D_nextTowardsPlace 23 = .ok (.aload_n 0, 1) := by decide +kernel
theorem d_D_nextTowardsPlace_24 : decode b_D_nextTowardsPlace 24 = .ok (.getfield 19, 3) := by decide +kernel
theorem d_D_nextTowardsPlace_27 : decode b_D_nextTowardsPlace 27 = .ok (.iload_n 1, 1) := by decide +kernel
theorem d_D_nextTowardsPlace_28 : decode b_D_nextTowardsPlace 28 = .ok (.iaload, 1) := by decide +kernel
theorem d_D_nextTowardsPlace_29 : decode b_D_nextTowardsPlace 29 = .ok (.ireturn, 1) := by decide +kernel
theorem d_D_nextTowardsPlace_30 : decode b_D_nextTowardsPlace 30 = .ok (.aload_n 0, 1) := by decide +kernel
theorem d_D_nextTowardsPlace_31 : decode b_D_nextTowardsPlace 31 = .ok (.getfield 9, 3) := by decide +kernel
theorem d_D_nextTowardsPlace_34 : decode b_D_nextTowardsPlace 34 = .ok (.aload_n 0, 1) := by decide +kernel
theorem d_D_nextTowardsPlace_35 : decode b_D_nextTowardsPlace 35 = .ok (.getfield 9, 3) := by decide +kernel
theorem d_D_nextTowardsPlace_38 : decode b_D_nextTowardsPlace 38 = .ok (.iload_n 1, 1) := by decide +kernel
theorem d_D_nextTowardsPlace_39 : decode b_D_nextTowardsPlace 39 = .ok (.invokevirtual 113, 3) := by decide +kernel
theorem d_D_nextTowardsPlace_42 : decode b_D_nextTowardsPlace 42 = .ok (.lload_n 2, 1) := by decide +kernel
theorem d_D_nextTowardsPlace_43 : decode b_D_nextTowardsPlace 43 = .ok (.invokevirtual 116, 3) := by decide +kernel
theorem d_D_nextTowardsPlace_46 : decode b_D_nextTowardsPlace 46 = .ok (.istore 4, 2) := by decide +kernel
theorem d_D_nextTowardsPlace_48 : decode b_D_nextTowardsPlace 48 = .ok (.iload 4, 2) := by decide +kernel
theorem d_D_nextTowardsPlace_50 : decode b_D_nextTowardsPlace 50 = .ok (.iconst (-1), 1) := by decide +kernel
theorem d_D_nextTowardsPlace_51 : decode b_D_nextTowardsPlace 51 = .ok (.if_icmp .eq 8, 3) := by decide +kernel
theorem d_D_nextTowardsPlace_54 : decode b_D_nextTowardsPlace 54 = .ok (.iload 4, 2) := by decide +kernel
theorem d_D_nextTowardsPlace_56 : decode b_D_nextTowardsPlace 56 = .ok (.goto 11, 3) := by decide +kernel
theorem d_D_nextTowardsPlace_59 : decode b_D_nextTowardsPlace 59 = .ok (.aload_n 0, 1) := by decide +kernel
theorem d_D_nextTowardsPlace_60 : decode b_D_nextTowardsPlace 60 = .ok (.getfield 9, 3) := by decide +kernel
theorem d_D_nextTowardsPlace_63 : decode b_D_nextTowardsPlace 63 = .ok (.iload_n 1, 1) := by decide +kernel
theorem d_D_nextTowardsPlace_64 : decode b_D_nextTowardsPlace 64 = .ok (.invokevirtual 93, 3) := by decide +kernel
theorem d_D_nextTowardsPlace_67 : decode b_D_nextTowardsPlace 67 = .ok (.ireturn, 1) := by decide +kernel
theorem d_C_changeOf_0 : decode b_C_changeOf 0 = .ok (.aload_n 0, 1) := by decide +kernel
theorem d_C_changeOf_1 : decode b_C_changeOf 1 = .ok (.iload_n 1, 1) := by decide +kernel
theorem d_C_changeOf_2 : decode b_C_changeOf 2 = .ok (.invokevirtual 29, 3) := by decide +kernel
theorem d_C_changeOf_5 : decode b_C_changeOf 5 = .ok (.ifCond .eq 12, 3) := by decide +kernel
theorem d_C_changeOf_8 : decode b_C_changeOf 8 = .ok (.aload_n 0, 1) := by decide +kernel
theorem d_C_changeOf_9 : decode b_C_changeOf 9 = .ok (.getfield 15, 3) := by decide +kernel
theorem d_C_changeOf_12 : decode b_C_changeOf 12 = .ok (.iload_n 1, 1) := by decide +kernel
theorem d_C_changeOf_13 : decode b_C_changeOf 13 = .ok (.iaload, 1) := by decide +kernel
theorem d_C_changeOf_14 : decode b_C_changeOf 14 = .ok (.goto 4, 3) := by decide +kernel
theorem d_C_changeOf_17 : decode b_C_changeOf 17 = .ok (.iconst (-1), 1) := by decide +kernel
theorem d_C_changeOf_18 : decode b_C_changeOf 18 = .ok (.ireturn, 1) := by decide +kernel
theorem d_C_latestOfChange_0 : decode b_C_latestOfChange 0 = .ok (.aload_n 0, 1) := by decide +kernel
theorem d_C_latestOfChange_1 : decode b_C_latestOfChange 1 = .ok (.getfield 22, 3) := by decide +kernel
theorem d_C_latestOfChange_4 : decode b_C_latestOfChange 4 = .ok (.iconst 1, 1) := by decide +kernel
theorem d_C_latestOfChange_5 : decode b_C_latestOfChange 5 = .ok (.isub, 1) := by decide +kernel
theorem d_C_latestOfChange_6 : decode b_C_latestOfChange 6 = .ok (.istore 4, 2) := by decide +kernel
theorem d_C_latestOfChange_8 : decode b_C_latestOfChange 8 = .ok (.iload 4, 2) := by decide +kernel
theorem d_C_latestOfChange_10 : decode b_C_latestOfChange 10 = .ok (.ifCond .lt 32, 3) := by decide +kernel
theorem d_C_latestOfChange_13 : decode b_C_latestOfChange 13 = .ok (.aload_n 0, 1) := by decide +kernel
theorem d_C_latestOfChange_14 : decode b_C_latestOfChange 14 = .ok (.getfield 15, 3) := by decide +kernel
theorem d_C_latestOfChange_17 : decode b_C_latestOfChange 17 = .ok (.iload 4, 2) := by decide +kernel
theorem d_C_latestOfChange_19 : decode b_C_latestOfChange 19 = .ok (.iaload, 1) := by decide +kernel
theorem d_C_latestOfChange_20 : decode b_C_latestOfChange 20 = .ok (.iload_n 1, 1) := by decide +kernel
theorem d_C_latestOfChange_21 : decode b_C_latestOfChange 21 = .ok (.if_icmp .ne 15, 3) := by decide +kernel
theorem d_C_latestOfChange_24 : decode b_C_latestOfChange 24 = .ok (.iload 4, 2) := by decide +kernel
theorem d_C_latestOfChange_26 : decode b_C_latestOfChange 26 = .ok (.lload_n 2, 1) := by decide +kernel
theorem d_C_latestOfChange_27 : decode b_C_latestOfChange 27 = .ok (.invokestatic 55, 3) := by decide +kernel
theorem d_C_latestOfChange_30 : decode b_C_latestOfChange 30 = .ok (.ifCond .eq 6, 3) := by decide +kernel
theorem d_C_latestOfChange_33 : decode b_C_latestOfChange 33 = .ok (.iload 4, 2) := by decide +kernel
theorem d_C_latestOfChange_35 : decode b_C_latestOfChange 35 = .ok (.ireturn, 1) := by decide +kernel
theorem d_C_latestOfChange_36 : decode b_C_latestOfChange 36 = .ok (.iinc 4 (-1), 3) := by decide +kernel
theorem d_C_latestOfChange_39 : decode b_C_latestOfChange 39 = .ok (.goto (-31), 3) := by decide +kernel
theorem d_C_latestOfChange_42 : decode b_C_latestOfChange 42 = .ok (.iconst (-1), 1) := by decide +kernel
theorem d_C_latestOfChange_43 : decode b_C_latestOfChange 43 = .ok (.ireturn, 1) := by decide +kernel
theorem d_C_addMoved_0 : decode b_C_addMoved 0 = .ok (.aload_n 0, 1) := by decide +kernel
theorem d_C_addMoved_1 : decode b_C_addMoved 1 = .ok (.iload_n 1, 1) := by decide +kernel
theorem d_C_addMoved_2 : decode b_C_addMoved 2 = .ok (.invokevirtual 51, 3) := by decide +kernel
theorem d_C_addMoved_5 : decode b_C_addMoved 5 = .ok (.istore_n 3, 1) := by decide +kernel
theorem d_C_addMoved_6 : decode b_C_addMoved 6 = .ok (.aload_n 0, 1) := by decide +kernel
theorem d_C_addMoved_7 : decode b_C_addMoved 7 = .ok (.invokevirtual 59, 3) := by decide +kernel
theorem d_C_addMoved_10 : decode b_C_addMoved 10 = .ok (.ifCond .ne 19, 3) := by decide +kernel
theorem d_C_addMoved_13 : decode b_C_addMoved 13 = .ok (.aload_n 0, 1) := by decide +kernel
theorem d_C_addMoved_14 : decode b_C_addMoved 14 = .ok (.iload_n 2, 1) := by decide +kernel
theorem d_C_addMoved_15 : decode b_C_addMoved 15 = .ok (.invokevirtual 29, 3) := by decide +kernel
theorem d_C_addMoved_18 : decode b_C_addMoved 18 = .ok (.ifCond .eq 11, 3) := by decide +kernel
theorem d_C_addMoved_21 : decode b_C_addMoved 21 = .ok (.aload_n 0, 1) := by decide +kernel
theorem d_C_addMoved_22 : decode b_C_addMoved 22 = .ok (.iload_n 3, 1) := by decide +kernel
theorem d_C_addMoved_23 : decode b_C_addMoved 23 = .ok (.invokevirtual 29, 3) := by decide +kernel
theorem d_C_addMoved_26 : decode b_C_addMoved 26 = .ok (.ifCond .ne 5, 3) := by decide +kernel
theorem d_C_addMoved_29 : decode b_C_addMoved 29 = .ok (.iconst (-1), 1) := by decide +kernel
theorem d_C_addMoved_30 : decode b_C_addMoved 30 = .ok (.ireturn, 1) := by decide +kernel
theorem d_C_addMoved_31 : decode b_C_addMoved 31 = .ok (.aload_n 0, 1) := by decide +kernel
theorem d_C_addMoved_32 : decode b_C_addMoved 32 = .ok (.aload_n 0, 1) := by decide +kernel
theorem d_C_addMoved_33 : decode b_C_addMoved 33 = .ok (.iload_n 1, 1) := by decide +kernel
theorem d_C_addMoved_34 : decode b_C_addMoved 34 = .ok (.invokevirtual 73, 3) := by decide +kernel
theorem d_C_addMoved_37 : decode b_C_addMoved 37 = .ok (.iload_n 2, 1) := by decide +kernel
theorem d_C_addMoved_38 : decode b_C_addMoved 38 = .ok (.iload_n 1, 1) := by decide +kernel
theorem d_C_addMoved_39 : decode b_C_addMoved 39 = .ok (.invokevirtual 63, 3) := by decide +kernel
theorem d_C_addMoved_42 : decode b_C_addMoved 42 = .ok (.istore 4, 2) := by decide +kernel
theorem d_C_addMoved_44 : decode b_C_addMoved 44 = .ok (.iconst 0, 1) := by decide +kernel
theorem d_C_addMoved_45 : decode b_C_addMoved 45 = .ok (.istore 5, 2) := by decide +kernel
theorem d_C_addMoved_47 : decode b_C_addMoved 47 = .ok (.iload 5, 2) := by decide +kernel
theorem d_C_addMoved_49 : decode b_C_addMoved 49 = .ok (.iconst 4, 1) := by decide +kernel
theorem d_C_addMoved_50 : decode b_C_addMoved 50 = .ok (.if_icmp .ge 19, 3) := by decide +kernel
theorem d_C_addMoved_53 : decode b_C_addMoved 53 = .ok (.aload_n 0, 1) := by decide +kernel
theorem d_C_addMoved_54 : decode b_C_addMoved 54 = .ok (.iload 4, 2) := by decide +kernel
theorem d_C_addMoved_56 : decode b_C_addMoved 56 = .ok (.iload 5, 2) := by decide +kernel
theorem d_C_addMoved_58 : decode b_C_addMoved 58 = .ok (.iload_n 2, 1) := by decide +kernel
theorem d_C_addMoved_59 : decode b_C_addMoved 59 = .ok (.iload_n 3, 1) := by decide +kernel
theorem d_C_addMoved_60 : decode b_C_addMoved 60 = .ok (.invokevirtual 76, 3) := by decide +kernel
theorem d_C_addMoved_63 : decode b_C_addMoved 63 = .ok (.iinc 5 1, 3) := by decide +kernel
theorem d_C_addMoved_66 : decode b_C_addMoved 66 = .ok (.goto (-19), 3) := by decide +kernel
theorem d_C_addMoved_69 : decode b_C_addMoved 69 = .ok (.iload 4, 2) := by decide +kernel
theorem d_C_addMoved_71 : decode b_C_addMoved 71 = .ok (.ireturn, 1) := by decide +kernel
theorem d_C_addDifference_0 : decode b_C_addDifference 0 = .ok (.iconst 0, 1) := by decide +kernel
theorem d_C_addDifference_1 : decode b_C_addDifference 1 = .ok (.istore 5, 2) := by decide +kernel
theorem d_C_addDifference_3 : decode b_C_addDifference 3 = .ok (.iconst 0, 1) := by decide +kernel
theorem d_C_addDifference_4 : decode b_C_addDifference 4 = .ok (.istore 6, 2) := by decide +kernel
theorem d_C_addDifference_6 : decode b_C_addDifference 6 = .ok (.iconst 0, 1) := by decide +kernel
theorem d_C_addDifference_7 : decode b_C_addDifference 7 = .ok (.istore 7, 2) := by decide +kernel
theorem d_C_addDifference_9 : decode b_C_addDifference 9 = .ok (.iload 7, 2) := by decide +kernel
theorem d_C_addDifference_11 : decode b_C_addDifference 11 = .ok (.bipush 8, 2) := by decide +kernel
theorem d_C_addDifference_13 : decode b_C_addDifference 13 = .ok (.if_icmp .ge 100, 3) := by decide +kernel
theorem d_C_addDifference_16 : decode b_C_addDifference 16 = .ok (.iload_n 1, 1) := by decide +kernel
theorem d_C_addDifference_17 : decode b_C_addDifference 17 = .ok (.iload_n 2, 1) := by decide +kernel
theorem d_C_addDifference_18 : decode b_C_addDifference 18 = .ok (.invokestatic 39, 3) := by decide +kernel
theorem d_C_addDifference_21 : decode b_C_addDifference 21 = .ok (.iload 7, 2) := by decide +kernel
theorem d_C_addDifference_23 : decode b_C_addDifference 23 = .ok (.iadd, 1) := by decide +kernel
theorem d_C_addDifference_24 : decode b_C_addDifference 24 = .ok (.istore 8, 2) := by decide +kernel
theorem d_C_addDifference_26 : decode b_C_addDifference 26 = .ok (.aload_n 0, 1) := by decide +kernel
theorem d_C_addDifference_27 : decode b_C_addDifference 27 = .ok (.getfield 18, 3) := by decide +kernel
theorem d_C_addDifference_30 : decode b_C_addDifference 30 = .ok (.iload 8, 2) := by decide +kernel
theorem d_C_addDifference_32 : decode b_C_addDifference 32 = .ok (.dup2, 1) := by decide +kernel
theorem d_C_addDifference_33 : decode b_C_addDifference 33 = .ok (.laload, 1) := by decide +kernel
theorem d_C_addDifference_34 : decode b_C_addDifference 34 = .ok (.aload_n 0, 1) := by decide +kernel
theorem d_C_addDifference_35 : decode b_C_addDifference 35 = .ok (.getfield 18, 3) := by decide +kernel
theorem d_C_addDifference_38 : decode b_C_addDifference 38 = .ok (.iload_n 3, 1) := by decide +kernel
theorem d_C_addDifference_39 : decode b_C_addDifference 39 = .ok (.iload_n 2, 1) := by decide +kernel
theorem d_C_addDifference_40 : decode b_C_addDifference 40 = .ok (.invokestatic 39, 3) := by decide +kernel
theorem d_C_addDifference_43 : decode b_C_addDifference 43 = .ok (.iload 7, 2) := by decide +kernel
theorem d_C_addDifference_45 : decode b_C_addDifference 45 = .ok (.iadd, 1) := by decide +kernel
theorem d_C_addDifference_46 : decode b_C_addDifference 46 = .ok (.laload, 1) := by decide +kernel
theorem d_C_addDifference_47 : decode b_C_addDifference 47 = .ok (.aload_n 0, 1) := by decide +kernel
theorem d_C_addDifference_48 : decode b_C_addDifference 48 = .ok (.getfield 18, 3) := by decide +kernel
theorem d_C_addDifference_51 : decode b_C_addDifference 51 = .ok (.iload 4, 2) := by decide +kernel
theorem d_C_addDifference_53 : decode b_C_addDifference 53 = .ok (.iload_n 2, 1) := by decide +kernel
theorem d_C_addDifference_54 : decode b_C_addDifference 54 = .ok (.invokestatic 39, 3) := by decide +kernel
theorem d_C_addDifference_57 : decode b_C_addDifference 57 = .ok (.iload 7, 2) := by decide +kernel
theorem d_C_addDifference_59 : decode b_C_addDifference 59 = .ok (.iadd, 1) := by decide +kernel
theorem d_C_addDifference_60 : decode b_C_addDifference 60 = .ok (.laload, 1) := by decide +kernel
theorem d_C_addDifference_61 : decode b_C_addDifference 61 = .ok (.lsub, 1) := by decide +kernel
theorem d_C_addDifference_62 : decode b_C_addDifference 62 = .ok (.ladd, 1) := by decide +kernel
theorem d_C_addDifference_63 : decode b_C_addDifference 63 = .ok (.lastore, 1) := by decide +kernel
theorem d_C_addDifference_64 : decode b_C_addDifference 64 = .ok (.iload 5, 2) := by decide +kernel
theorem d_C_addDifference_66 : decode b_C_addDifference 66 = .ok (.aload_n 0, 1) := by decide +kernel
theorem d_C_addDifference_67 : decode b_C_addDifference 67 = .ok (.getfield 18, 3) := by decide +kernel
theorem d_C_addDifference_70 : decode b_C_addDifference 70 = .ok (.iload 8, 2) := by decide +kernel
theorem d_C_addDifference_72 : decode b_C_addDifference 72 = .ok (.laload, 1) := by decide +kernel
theorem d_C_addDifference_73 : decode b_C_addDifference 73 = .ok (.lconst 0, 1) := by decide +kernel
theorem d_C_addDifference_74 : decode b_C_addDifference 74 = .ok (.lcmp, 1) := by decide +kernel
theorem d_C_addDifference_75 : decode b_C_addDifference 75 = .ok (.ifCond .eq 7, 3) := by decide +kernel
theorem d_C_addDifference_78 : decode b_C_addDifference 78 = .ok (.iconst 1, 1) := by decide +kernel
theorem d_C_addDifference_79 : decode b_C_addDifference 79 = .ok (.goto 4, 3) := by decide +kernel
theorem d_C_addDifference_82 : decode b_C_addDifference 82 = .ok (.iconst 0, 1) := by decide +kernel
theorem d_C_addDifference_83 : decode b_C_addDifference 83 = .ok (.iadd, 1) := by decide +kernel
theorem d_C_addDifference_84 : decode b_C_addDifference 84 = .ok (.istore 5, 2) := by decide +kernel
theorem d_C_addDifference_86 : decode b_C_addDifference 86 = .ok (.aload_n 0, 1) := by decide +kernel
theorem d_C_addDifference_87 : decode b_C_addDifference 87 = .ok (.getfield 18, 3) := by decide +kernel
theorem d_C_addDifference_90 : decode b_C_addDifference 90 = .ok (.iload 8, 2) := by decide +kernel
theorem d_C_addDifference_92 : decode b_C_addDifference 92 = .ok (.laload, 1) := by decide +kernel
theorem d_C_addDifference_93 : decode b_C_addDifference 93 = .ok (.lconst 0, 1) := by decide +kernel
theorem d_C_addDifference_94 : decode b_C_addDifference 94 = .ok (.lcmp, 1) := by decide +kernel
theorem d_C_addDifference_95 : decode b_C_addDifference 95 = .ok (.ifCond .le 8, 3) := by decide +kernel
theorem d_C_addDifference_98 : decode b_C_addDifference 98 = .ok (.iload 7, 2) := by decide +kernel
theorem d_C_addDifference_100 : decode b_C_addDifference 100 = .ok (.goto 5, 3) := by decide +kernel
theorem d_C_addDifference_103 : decode b_C_addDifference 103 = .ok (.iload 6, 2) := by decide +kernel
theorem d_C_addDifference_105 : decode b_C_addDifference 105 = .ok (.istore 6, 2) := by decide +kernel
theorem d_C_addDifference_107 : decode b_C_addDifference 107 = .ok (.iinc 7 1, 3) := by decide +kernel
theorem d_C_addDifference_110 : decode b_C_addDifference 110 = .ok (.goto (-101), 3) := by decide +kernel
theorem d_C_addDifference_113 : decode b_C_addDifference 113 = .ok (.iload 5, 2) := by decide +kernel
theorem d_C_addDifference_115 : decode b_C_addDifference 115 = .ok (.iconst 2, 1) := by decide +kernel
theorem d_C_addDifference_116 : decode b_C_addDifference 116 = .ok (.if_icmp .ne 11, 3) := by decide +kernel
theorem d_C_addDifference_119 : decode b_C_addDifference 119 = .ok (.aload_n 0, 1) := by decide +kernel
theorem d_C_addDifference_120 : decode b_C_addDifference 120 = .ok (.iload_n 1, 1) := by decide +kernel
theorem d_C_addDifference_121 : decode b_C_addDifference 121 = .ok (.iload_n 2, 1) := by decide +kernel
theorem d_C_addDifference_122 : decode b_C_addDifference 122 = .ok (.iload 6, 2) := by decide +kernel
theorem d_C_addDifference_124 : decode b_C_addDifference 124 = .ok (.invokevirtual 80, 3) := by decide +kernel
theorem d_C_addDifference_127 : decode b_C_addDifference 127 = .ok (.return_, 1) := by decide +kernel
theorem d_C_makePlain_0 : decode b_C_makePlain 0 = .ok (.aload_n 0, 1) := by decide +kernel
theorem d_C_makePlain_1 : decode b_C_makePlain 1 = .ok (.iload_n 1, 1) := by decide +kernel
theorem d_C_makePlain_2 : decode b_C_makePlain 2 = .ok (.invokevirtual 29, 3) := by decide +kernel
theorem d_C_makePlain_5 : decode b_C_makePlain 5 = .ok (.ifCond .eq 17, 3) := by decide +kernel
theorem d_C_makePlain_8 : decode b_C_makePlain 8 = .ok (.iload_n 2, 1) := by decide +kernel
theorem d_C_makePlain_9 : decode b_C_makePlain 9 = .ok (.invokestatic 33, 3) := by decide +kernel
theorem d_C_makePlain_12 : decode b_C_makePlain 12 = .ok (.ifCond .eq 10, 3) := by decide +kernel
theorem d_C_makePlain_15 : decode b_C_makePlain 15 = .ok (.iload_n 3, 1) := by decide +kernel
theorem d_C_makePlain_16 : decode b_C_makePlain 16 = .ok (.invokestatic 36, 3) := by decide +kernel
theorem d_C_makePlain_19 : decode b_C_makePlain 19 = .ok (.ifCond .ne 4, 3) := by decide +kernel
theorem d_C_makePlain_22 : decode b_C_makePlain 22 = .ok (.return_, 1) := by decide +kernel
theorem d_C_makePlain_23 : decode b_C_makePlain 23 = .ok (.iconst 0, 1) := by decide +kernel
theorem d_C_makePlain_24 : decode b_C_makePlain 24 = .ok (.istore 4, 2) := by decide +kernel
theorem d_C_makePlain_26 : decode b_C_makePlain 26 = .ok (.iload 4, 2) := by decide +kernel
theorem d_C_makePlain_28 : decode b_C_makePlain 28 = .ok (.bipush 8, 2) := by decide +kernel
theorem d_C_makePlain_30 : decode b_C_makePlain 30 = .ok (.if_icmp .ge 33, 3) := by decide +kernel
theorem d_C_makePlain_33 : decode b_C_makePlain 33 = .ok (.aload_n 0, 1) := by decide +kernel
theorem d_C_makePlain_34 : decode b_C_makePlain 34 = .ok (.getfield 18, 3) := by decide +kernel
theorem d_C_makePlain_37 : decode b_C_makePlain 37 = .ok (.iload_n 1, 1) := by decide +kernel
theorem d_C_makePlain_38 : decode b_C_makePlain 38 = .ok (.iload_n 2, 1) := by decide +kernel
theorem d_C_makePlain_39 : decode b_C_makePlain 39 = .ok (.invokestatic 39, 3) := by decide +kernel
theorem d_C_makePlain_42 : decode b_C_makePlain 42 = .ok (.iload 4, 2) := by decide +kernel
theorem d_C_makePlain_44 : decode b_C_makePlain 44 = .ok (.iadd, 1) := by decide +kernel
theorem d_C_makePlain_45 : decode b_C_makePlain 45 = .ok (.iload 4, 2) := by decide +kernel
theorem d_C_makePlain_47 : decode b_C_makePlain 47 = .ok (.iload_n 3, 1) := by decide +kernel
theorem d_C_makePlain_48 : decode b_C_makePlain 48 = .ok (.if_icmp .ne 7, 3) := by decide +kernel
theorem d_C_makePlain_51 : decode b_C_makePlain 51 = .ok (.lconst 1, 1) := by decide +kernel
theorem d_C_makePlain_52 : decode b_C_makePlain 52 = .ok (.goto 4, 3) := by decide +kernel
theorem d_C_makePlain_55 : decode b_C_makePlain 55 = .ok (.lconst 0, 1) := by decide +kernel
theorem d_C_makePlain_56 : decode b_C_makePlain 56 = .ok (.lastore, 1) := by decide +kernel
theorem d_C_makePlain_57 : decode b_C_makePlain 57 = .ok (.iinc 4 1, 3) := by decide +kernel
theorem d_C_makePlain_60 : decode b_C_makePlain 60 = .ok (.goto (-34), 3) := by decide +kernel
theorem d_C_makePlain_63 : decode b_C_makePlain 63 = .ok (.return_, 1) := by decide +kernel
theorem d_S_isPath_0 : decode b_S_isPath 0 = .ok (.iload_n 0, 1) := by decide +kernel
theorem d_S_isPath_1 : decode b_S_isPath 1 = .ok (.ifCond .lt 12, 3) := by decide +kernel
theorem d_S_isPath_4 : decode b_S_isPath 4 = .ok (.iload_n 0, 1) := by decide +kernel
theorem d_S_isPath_5 : decode b_S_isPath 5 = .ok (.iconst 4, 1) := by decide +kernel
theorem d_S_isPath_6 : decode b_S_isPath 6 = .ok (.if_icmp .ge 7, 3) := by decide +kernel
theorem d_S_isPath_9 : decode b_S_isPath 9 = .ok (.iconst 1, 1) := by decide +kernel
theorem d_S_isPath_10 : decode b_S_isPath 10 = .ok (.goto 4, 3) := by decide +kernel
theorem d_S_isPath_13 : decode b_S_isPath 13 = .ok (.iconst 0, 1) := by decide +kernel
theorem d_S_isPath_14 : decode b_S_isPath 14 = .ok (.ireturn, 1) := by decide +kernel
theorem d_S_isValue_0 : decode b_S_isValue 0 = .ok (.iload_n 0, 1) := by decide +kernel
theorem d_S_isValue_1 : decode b_S_isValue 1 = .ok (.ifCond .lt 13, 3) := by decide +kernel
theorem d_S_isValue_4 : decode b_S_isValue 4 = .ok (.iload_n 0, 1) := by decide +kernel
theorem d_S_isValue_5 : decode b_S_isValue 5 = .ok (.bipush 8, 2) := by decide +kernel
theorem d_S_isValue_7 : decode b_S_isValue 7 = .ok (.if_icmp .ge 7, 3) := by decide +kernel
theorem d_S_isValue_10 : decode b_S_isValue 10 = .ok (.iconst 1, 1) := by decide +kernel
theorem d_S_isValue_11 : decode b_S_isValue 11 = .ok (.goto 4, 3) := by decide +kernel
theorem d_S_isValue_14 : decode b_S_isValue 14 = .ok (.iconst 0, 1) := by decide +kernel
theorem d_S_isValue_15 : decode b_S_isValue 15 = .ok (.ireturn, 1) := by decide +kernel
theorem d_D_replace_0 : decode b_D_replace 0 = .ok (.aload_n 0, 1) := by decide +kernel
theorem d_D_replace_1 : decode b_D_replace 1 = .ok (.getfield 9, 3) := by decide +kernel
theorem d_D_replace_4 : decode b_D_replace 4 = .ok (.iload_n 1, 1) := by decide +kernel
theorem d_D_replace_5 : decode b_D_replace 5 = .ok (.invokevirtual 74, 3) := by decide +kernel
theorem d_D_replace_8 : decode b_D_replace 8 = .ok (.ifCond .eq 14, 3) := by decide +kernel
theorem d_D_replace_11 : decode b_D_replace 11 = .ok (.aload_n 0, 1) := by decide +kernel
theorem d_D_replace_12 : decode b_D_replace 12 = .ok (.getfield 9, 3) := by decide +kernel
theorem d_D_replace_15 : decode b_D_replace 15 = .ok (.iload_n 2, 1) := by decide +kernel
theorem d_D_replace_16 : decode b_D_replace 16 = .ok (.invokevirtual 74, 3) := by decide +kernel
theorem d_D_replace_19 : decode b_D_replace 19 = .ok (.ifCond .ne 4, 3) := by decide +kernel
theorem d_D_replace_22 : decode b_D_replace 22 = .ok (.return_, 1) := by decide +kernel
theorem d_D_replace_23 : decode b_D_replace 23 = .ok (.aload_n 0, 1) := by decide +kernel
theorem d_D_replace_24 : decode b_D_replace 24 = .ok (.dup, 1) := by decide +kernel
theorem d_D_replace_25 : decode b_D_replace 25 = .ok (.getfield 31, 3) := by decide +kernel
theorem d_D_replace_28 : decode b_D_replace 28 = .ok (.iload_n 1, 1) := by decide +kernel
theorem d_D_replace_29 : decode b_D_replace 29 = .ok (.invokestatic 71, 3) := by decide +kernel
theorem d_D_replace_32 : decode b_D_replace 32 = .ok (.ldc2_w 47, 3) := by decide +kernel
theorem d_D_replace_35 : decode b_D_replace 35 = .ok (.lxor, 1) := by decide +kernel
theorem d_D_replace_36 : decode b_D_replace 36 = .ok (.land, 1) := by decide +kernel
theorem d_D_replace_37 : decode b_D_replace 37 = .ok (.putfield 31, 3) := by decide +kernel
theorem d_D_replace_40 : decode b_D_replace 40 = .ok (.aload_n 0, 1) := by decide +kernel
theorem d_D_replace_41 : decode b_D_replace 41 = .ok (.iload_n 2, 1) := by decide +kernel
theorem d_D_replace_42 : decode b_D_replace 42 = .ok (.invokevirtual 78, 3) := by decide +kernel
theorem d_D_replace_45 : decode b_D_replace 45 = .ok (.aload_n 0, 1) := by decide +kernel
theorem d_D_replace_46 : decode b_D_replace 46 = .ok (.getfield 19, 3) := by decide +kernel
theorem d_D_replace_49 : decode b_D_replace 49 = .ok (.iload_n 1, 1) := by decide +kernel
theorem d_D_replace_50 : decode b_D_replace 50 = .ok (.iload_n 2, 1) := by decide +kernel
theorem d_D_replace_51 : decode b_D_replace 51 = .ok (.iastore, 1) := by decide +kernel
theorem d_D_replace_52 : decode b_D_replace 52 = .ok (.return_, 1) := by decide +kernel
theorem d_C_dropFrom_0 : decode b_C_dropFrom 0 = .ok (.aload_n 0, 1) := by decide +kernel
theorem d_C_dropFrom_1 : decode b_C_dropFrom 1 = .ok (.iload_n 1, 1) := by decide +kernel
theorem d_C_dropFrom_2 : decode b_C_dropFrom 2 = .ok (.putfield 22, 3) := by decide +kernel
theorem d_C_dropFrom_5 : decode b_C_dropFrom 5 = .ok (.return_, 1) := by decide +kernel
theorem d_D_settlePointers_0 : decode b_D_settlePointers 0 = .ok (.aload_n 0, 1) := by decide +kernel
theorem d_D_settlePointers_1 : decode b_D_settlePointers 1 = .ok (.aload_n 0, 1) := by decide +kernel
theorem d_D_settlePointers_2 : decode b_D_settlePointers 2 = .ok (.aload_n 0, 1) := by decide +kernel
theorem d_D_settlePointers_3 : decode b_D_settlePointers 3 = .ok (.getfield 39, 3) := by decide +kernel
theorem d_D_settlePointers_6 : decode b_D_settlePointers 6 = .ok (.aload_n 0, 1) := by decide +kernel
theorem d_D_settlePointers_7 : decode b_D_settlePointers 7 = .ok (.getfield 31, 3) := by decide +kernel
theorem d_D_settlePointers_10 : decode b_D_settlePointers 10 = .ok (.invokevirtual 96, 3) := by decide +kernel
theorem d_D_settlePointers_13 : decode b_D_settlePointers 13 = .ok (.putfield 39, 3) := by decide +kernel
theorem d_D_settlePointers_16 : decode b_D_settlePointers 16 = .ok (.iconst 0, 1) := by decide +kernel
