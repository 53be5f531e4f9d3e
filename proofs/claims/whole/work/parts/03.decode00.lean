theorem d_S_init_0 : decode b_S_init 0 = .ok (.aload_n 0, 1) := by decide +kernel
theorem d_S_init_1 : decode b_S_init 1 = .ok (.invokespecial 1, 3) := by decide +kernel
theorem d_S_init_4 : decode b_S_init 4 = .ok (.aload_n 0, 1) := by decide +kernel
theorem d_S_init_5 : decode b_S_init 5 = .ok (.new 7, 3) := by decide +kernel
theorem d_S_init_8 : decode b_S_init 8 = .ok (.dup, 1) := by decide +kernel
theorem d_S_init_9 : decode b_S_init 9 = .ok (.invokespecial 9, 3) := by decide +kernel
theorem d_S_init_12 : decode b_S_init 12 = .ok (.putfield 10, 3) := by decide +kernel
theorem d_S_init_15 : decode b_S_init 15 = .ok (.aload_n 0, 1) := by decide +kernel
theorem d_S_init_16 : decode b_S_init 16 = .ok (.new 16, 3) := by decide +kernel
theorem d_S_init_19 : decode b_S_init 19 = .ok (.dup, 1) := by decide +kernel
theorem d_S_init_20 : decode b_S_init 20 = .ok (.invokespecial 18, 3) := by decide +kernel
theorem d_S_init_23 : decode b_S_init 23 = .ok (.putfield 19, 3) := by decide +kernel
theorem d_S_init_26 : decode b_S_init 26 = .ok (.aload_n 0, 1) := by decide +kernel
theorem d_S_init_27 : decode b_S_init 27 = .ok (.new 23, 3) := by decide +kernel
theorem d_S_init_30 : decode b_S_init 30 = .ok (.dup, 1) := by decide +kernel
theorem d_S_init_31 : decode b_S_init 31 = .ok (.aload_n 0, 1) := by decide +kernel
theorem d_S_init_32 : decode b_S_init 32 = .ok (.getfield 10, 3) := by decide +kernel
theorem d_S_init_35 : decode b_S_init 35 = .ok (.invokespecial 25, 3) := by decide +kernel
theorem d_S_init_38 : decode b_S_init 38 = .ok (.putfield 28, 3) := by decide +kernel
theorem d_S_init_41 : decode b_S_init 41 = .ok (.aload_n 0, 1) := by decide +kernel
theorem d_S_init_42 : decode b_S_init 42 = .ok (.iconst 2, 1) := by decide +kernel
theorem d_S_init_43 : decode b_S_init 43 = .ok (.newarray .int, 2) := by decide +kernel
theorem d_S_init_45 : decode b_S_init 45 = .ok (.dup, 1) := by decide +kernel
theorem d_S_init_46 : decode b_S_init 46 = .ok (.iconst 0, 1) := by decide +kernel
theorem d_S_init_47 : decode b_S_init 47 = .ok (.iconst 0, 1) := by decide +kernel
theorem d_S_init_48 : decode b_S_init 48 = .ok (.iastore, 1) := by decide +kernel
theorem d_S_init_49 : decode b_S_init 49 = .ok (.dup, 1) := by decide +kernel
theorem d_S_init_50 : decode b_S_init 50 = .ok (.iconst 1, 1) := by decide +kernel
theorem d_S_init_51 : decode b_S_init 51 = .ok (.iconst (-1), 1) := by decide +kernel
theorem d_S_init_52 : decode b_S_init 52 = .ok (.iastore, 1) := by decide +kernel
theorem d_S_init_53 : decode b_S_init 53 = .ok (.putfield 32, 3) := by decide +kernel
theorem d_S_init_56 : decode b_S_init 56 = .ok (.aload_n 0, 1) := by decide +kernel
theorem d_S_init_57 : decode b_S_init 57 = .ok (.iconst 0, 1) := by decide +kernel
theorem d_S_init_58 : decode b_S_init 58 = .ok (.putfield 36, 3) := by decide +kernel
theorem d_S_init_61 : decode b_S_init 61 = .ok (.aload_n 0, 1) := by decide +kernel
theorem d_S_init_62 : decode b_S_init 62 = .ok (.iconst (-1), 1) := by decide +kernel
theorem d_S_init_63 : decode b_S_init 63 = .ok (.putfield 40, 3) := by decide +kernel
theorem d_S_init_66 : decode b_S_init 66 = .ok (.return_, 1) := by decide +kernel
theorem d_C_init_0 : decode b_C_init 0 = .ok (.aload_n 0, 1) := by decide +kernel
theorem d_C_init_1 : decode b_C_init 1 = .ok (.invokespecial 3, 3) := by decide +kernel
theorem d_C_init_4 : decode b_C_init 4 = .ok (.aload_n 0, 1) := by decide +kernel
theorem d_C_init_5 : decode b_C_init 5 = .ok (.bipush 60, 2) := by decide +kernel
theorem d_C_init_7 : decode b_C_init 7 = .ok (.newarray .int, 2) := by decide +kernel
theorem d_C_init_9 : decode b_C_init 9 = .ok (.putfield 9, 3) := by decide +kernel
theorem d_C_init_12 : decode b_C_init 12 = .ok (.aload_n 0, 1) := by decide +kernel
theorem d_C_init_13 : decode b_C_init 13 = .ok (.bipush 60, 2) := by decide +kernel
theorem d_C_init_15 : decode b_C_init 15 = .ok (.newarray .int, 2) := by decide +kernel
theorem d_C_init_17 : decode b_C_init 17 = .ok (.putfield 15, 3) := by decide +kernel
theorem d_C_init_20 : decode b_C_init 20 = .ok (.aload_n 0, 1) := by decide +kernel
theorem d_C_init_21 : decode b_C_init 21 = .ok (.sipush 1920, 3) := by decide +kernel
theorem d_C_init_24 : decode b_C_init 24 = .ok (.newarray .long, 2) := by decide +kernel
theorem d_C_init_26 : decode b_C_init 26 = .ok (.putfield 18, 3) := by decide +kernel
theorem d_C_init_29 : decode b_C_init 29 = .ok (.aload_n 0, 1) := by decide +kernel
theorem d_C_init_30 : decode b_C_init 30 = .ok (.getfield 9, 3) := by decide +kernel
theorem d_C_init_33 : decode b_C_init 33 = .ok (.iconst 0, 1) := by decide +kernel
theorem d_C_init_34 : decode b_C_init 34 = .ok (.iconst (-1), 1) := by decide +kernel
theorem d_C_init_35 : decode b_C_init 35 = .ok (.iastore, 1) := by decide +kernel
theorem d_C_init_36 : decode b_C_init 36 = .ok (.iconst 0, 1) := by decide +kernel
theorem d_C_init_37 : decode b_C_init 37 = .ok (.istore_n 1, 1) := by decide +kernel
theorem d_C_init_38 : decode b_C_init 38 = .ok (.iload_n 1, 1) := by decide +kernel
theorem d_C_init_39 : decode b_C_init 39 = .ok (.iconst 4, 1) := by decide +kernel
theorem d_C_init_40 : decode b_C_init 40 = .ok (.if_icmp .ge 19, 3) := by decide +kernel
theorem d_C_init_43 : decode b_C_init 43 = .ok (.aload_n 0, 1) := by decide +kernel
theorem d_C_init_44 : decode b_C_init 44 = .ok (.getfield 18, 3) := by decide +kernel
theorem d_C_init_47 : decode b_C_init 47 = .ok (.iload_n 1, 1) := by decide +kernel
theorem d_C_init_48 : decode b_C_init 48 = .ok (.bipush 8, 2) := by decide +kernel
theorem d_C_init_50 : decode b_C_init 50 = .ok (.imul, 1) := by decide +kernel
theorem d_C_init_51 : decode b_C_init 51 = .ok (.lconst 1, 1) := by decide +kernel
theorem d_C_init_52 : decode b_C_init 52 = .ok (.lastore, 1) := by decide +kernel
theorem d_C_init_53 : decode b_C_init 53 = .ok (.iinc 1 1, 3) := by decide +kernel
theorem d_C_init_56 : decode b_C_init 56 = .ok (.goto (-18), 3) := by decide +kernel
theorem d_C_init_59 : decode b_C_init 59 = .ok (.aload_n 0, 1) := by decide +kernel
theorem d_C_init_60 : decode b_C_init 60 = .ok (.iconst 1, 1) := by decide +kernel
theorem d_C_init_61 : decode b_C_init 61 = .ok (.putfield 22, 3) := by decide +kernel
theorem d_C_init_64 : decode b_C_init 64 = .ok (.aload_n 0, 1) := by decide +kernel
theorem d_C_init_65 : decode b_C_init 65 = .ok (.iconst 0, 1) := by decide +kernel
theorem d_C_init_66 : decode b_C_init 66 = .ok (.putfield 26, 3) := by decide +kernel
theorem d_C_init_69 : decode b_C_init 69 = .ok (.return_, 1) := by decide +kernel
theorem d_O_init_0 : decode b_O_init 0 = .ok (.aload_n 0, 1) := by decide +kernel
theorem d_O_init_1 : decode b_O_init 1 = .ok (.invokespecial 3, 3) := by decide +kernel
theorem d_O_init_4 : decode b_O_init 4 = .ok (.aload_n 0, 1) := by decide +kernel
theorem d_O_init_5 : decode b_O_init 5 = .ok (.bipush 100, 2) := by decide +kernel
theorem d_O_init_7 : decode b_O_init 7 = .ok (.newarray .int, 2) := by decide +kernel
theorem d_O_init_9 : decode b_O_init 9 = .ok (.putfield 9, 3) := by decide +kernel
theorem d_O_init_12 : decode b_O_init 12 = .ok (.aload_n 0, 1) := by decide +kernel
theorem d_O_init_13 : decode b_O_init 13 = .ok (.bipush 100, 2) := by decide +kernel
theorem d_O_init_15 : decode b_O_init 15 = .ok (.newarray .int, 2) := by decide +kernel
theorem d_O_init_17 : decode b_O_init 17 = .ok (.putfield 15, 3) := by decide +kernel
theorem d_O_init_20 : decode b_O_init 20 = .ok (.aload_n 0, 1) := by decide +kernel
theorem d_O_init_21 : decode b_O_init 21 = .ok (.bipush 100, 2) := by decide +kernel
theorem d_O_init_23 : decode b_O_init 23 = .ok (.newarray .long, 2) := by decide +kernel
theorem d_O_init_25 : decode b_O_init 25 = .ok (.putfield 18, 3) := by decide +kernel
theorem d_O_init_28 : decode b_O_init 28 = .ok (.aload_n 0, 1) := by decide +kernel
theorem d_O_init_29 : decode b_O_init 29 = .ok (.bipush 100, 2) := by decide +kernel
theorem d_O_init_31 : decode b_O_init 31 = .ok (.newarray .int, 2) := by decide +kernel
theorem d_O_init_33 : decode b_O_init 33 = .ok (.putfield 22, 3) := by decide +kernel
theorem d_O_init_36 : decode b_O_init 36 = .ok (.aload_n 0, 1) := by decide +kernel
theorem d_O_init_37 : decode b_O_init 37 = .ok (.sipush 300, 3) := by decide +kernel
theorem d_O_init_40 : decode b_O_init 40 = .ok (.newarray .int, 2) := by decide +kernel
theorem d_O_init_42 : decode b_O_init 42 = .ok (.putfield 25, 3) := by decide +kernel
theorem d_O_init_45 : decode b_O_init 45 = .ok (.aload_n 0, 1) := by decide +kernel
theorem d_O_init_46 : decode b_O_init 46 = .ok (.getfield 9, 3) := by decide +kernel
theorem d_O_init_49 : decode b_O_init 49 = .ok (.iconst 0, 1) := by decide +kernel
theorem d_O_init_50 : decode b_O_init 50 = .ok (.iconst (-1), 1) := by decide +kernel
theorem d_O_init_51 : decode b_O_init 51 = .ok (.iastore, 1) := by decide +kernel
theorem d_O_init_52 : decode b_O_init 52 = .ok (.aload_n 0, 1) := by decide +kernel
theorem d_O_init_53 : decode b_O_init 53 = .ok (.getfield 15, 3) := by decide +kernel
theorem d_O_init_56 : decode b_O_init 56 = .ok (.iconst 0, 1) := by decide +kernel
theorem d_O_init_57 : decode b_O_init 57 = .ok (.iconst (-1), 1) := by decide +kernel
theorem d_O_init_58 : decode b_O_init 58 = .ok (.iastore, 1) := by decide +kernel
theorem d_O_init_59 : decode b_O_init 59 = .ok (.aload_n 0, 1) := by decide +kernel
theorem d_O_init_60 : decode b_O_init 60 = .ok (.getfield 18, 3) := by decide +kernel
theorem d_O_init_63 : decode b_O_init 63 = .ok (.iconst 0, 1) := by decide +kernel
theorem d_O_init_64 : decode b_O_init 64 = .ok (.iconst 0, 1) := by decide +kernel
theorem d_O_init_65 : decode b_O_init 65 = .ok (.invokestatic 28, 3) := by decide +kernel
theorem d_O_init_68 : decode b_O_init 68 = .ok (.lastore, 1) := by decide +kernel
theorem d_O_init_69 : decode b_O_init 69 = .ok (.aload_n 0, 1) := by decide +kernel
theorem d_O_init_70 : decode b_O_init 70 = .ok (.getfield 22, 3) := by decide +kernel
theorem d_O_init_73 : decode b_O_init 73 = .ok (.iconst 0, 1) := by decide +kernel
theorem d_O_init_74 : decode b_O_init 74 = .ok (.iconst 0, 1) := by decide +kernel
theorem d_O_init_75 : decode b_O_init 75 = .ok (.iastore, 1) := by decide +kernel
theorem d_O_init_76 : decode b_O_init 76 = .ok (.iconst 0, 1) := by decide +kernel
theorem d_O_init_77 : decode b_O_init 77 = .ok (.istore_n 1, 1) := by decide +kernel
theorem d_O_init_78 : decode b_O_init 78 = .ok (.iload_n 1, 1) := by decide +kernel
theorem d_O_init_79 : decode b_O_init 79 = .ok (.iconst 3, 1) := by decide +kernel
theorem d_O_init_80 : decode b_O_init 80 = .ok (.if_icmp .ge 16, 3) := by decide +kernel
theorem d_O_init_83 : decode b_O_init 83 = .ok (.aload_n 0, 1) := by decide +kernel
theorem d_O_init_84 : decode b_O_init 84 = .ok (.getfield 25, 3) := by decide +kernel
theorem d_O_init_87 : decode b_O_init 87 = .ok (.iload_n 1, 1) := by decide +kernel
theorem d_O_init_88 : decode b_O_init 88 = .ok (.iconst (-1), 1) := by decide +kernel
theorem d_O_init_89 : decode b_O_init 89 = .ok (.iastore, 1) := by decide +kernel
theorem d_O_init_90 : decode b_O_init 90 = .ok (.iinc 1 1, 3) := by decide +kernel
theorem d_O_init_93 : decode b_O_init 93 = .ok (.goto (-15), 3) := by decide +kernel
theorem d_O_init_96 : decode b_O_init 96 = .ok (.aload_n 0, 1) := by decide +kernel
theorem d_O_init_97 : decode b_O_init 97 = .ok (.iconst 1, 1) := by decide +kernel
theorem d_O_init_98 : decode b_O_init 98 = .ok (.putfield 32, 3) := by decide +kernel
theorem d_O_init_101 : decode b_O_init 101 = .ok (.return_, 1) := by decide +kernel
theorem d_S_bit_0 : decode b_S_bit 0 = .ok (.lconst 1, 1) := by decide +kernel
theorem d_S_bit_1 : decode b_S_bit 1 = .ok (.iload_n 0, 1) := by decide +kernel
theorem d_S_bit_2 : decode b_S_bit 2 = .ok (.lshl, 1) := by decide +kernel
theorem d_S_bit_3 : decode b_S_bit 3 = .ok (.lreturn, 1) := by decide +kernel
theorem d_D_init_0 : decode b_D_init 0 = .ok (.aload_n 0, 1) := by decide +kernel
theorem d_D_init_1 : decode b_D_init 1 = .ok (.invokespecial 3, 3) := by decide +kernel
theorem d_D_init_4 : decode b_D_init 4 = .ok (.aload_n 0, 1) := by decide +kernel
theorem d_D_init_5 : decode b_D_init 5 = .ok (.aload_n 1, 1) := by decide +kernel
theorem d_D_init_6 : decode b_D_init 6 = .ok (.putfield 9, 3) := by decide +kernel
theorem d_D_init_9 : decode b_D_init 9 = .ok (.aload_n 0, 1) := by decide +kernel
theorem d_D_init_10 : decode b_D_init 10 = .ok (.iconst 3, 1) := by decide +kernel
theorem d_D_init_11 : decode b_D_init 11 = .ok (.newarray .int, 2) := by decide +kernel
theorem d_D_init_13 : decode b_D_init 13 = .ok (.putfield 15, 3) := by decide +kernel
theorem d_D_init_16 : decode b_D_init 16 = .ok (.aload_n 0, 1) := by decide +kernel
theorem d_D_init_17 : decode b_D_init 17 = .ok (.bipush 60, 2) := by decide +kernel
theorem d_D_init_19 : decode b_D_init 19 = .ok (.newarray .int, 2) := by decide +kernel
theorem d_D_init_21 : decode b_D_init 21 = .ok (.putfield 19, 3) := by decide +kernel
theorem d_D_init_24 : decode b_D_init 24 = .ok (.return_, 1) := by decide +kernel
theorem d_S_create_0 : decode b_S_create 0 = .ok (.aload_n 0, 1) := by decide +kernel
theorem d_S_create_1 : decode b_S_create 1 = .ok (.invokevirtual 43, 3) := by decide +kernel
theorem d_S_create_4 : decode b_S_create 4 = .ok (.aload_n 0, 1) := by decide +kernel
theorem d_S_create_5 : decode b_S_create 5 = .ok (.getfield 28, 3) := by decide +kernel
theorem d_S_create_8 : decode b_S_create 8 = .ok (.iload_n 1, 1) := by decide +kernel
theorem d_S_create_9 : decode b_S_create 9 = .ok (.invokevirtual 46, 3) := by decide +kernel
theorem d_S_create_12 : decode b_S_create 12 = .ok (.ifCond .ne 5, 3) := by decide +kernel
theorem d_S_create_15 : decode b_S_create 15 = .ok (.iconst (-1), 1) := by decide +kernel
theorem d_S_create_16 : decode b_S_create 16 = .ok (.ireturn, 1) := by decide +kernel
theorem d_S_create_17 : decode b_S_create 17 = .ok (.aload_n 0, 1) := by decide +kernel
theorem d_S_create_18 : decode b_S_create 18 = .ok (.invokevirtual 50, 3) := by decide +kernel
theorem d_S_create_21 : decode b_S_create 21 = .ok (.ifCond .ne 6, 3) := by decide +kernel
theorem d_S_create_24 : decode b_S_create 24 = .ok (.bipush (-3), 2) := by decide +kernel
theorem d_S_create_26 : decode b_S_create 26 = .ok (.ireturn, 1) := by decide +kernel
theorem d_S_create_27 : decode b_S_create 27 = .ok (.aload_n 0, 1) := by decide +kernel
theorem d_S_create_28 : decode b_S_create 28 = .ok (.getfield 10, 3) := by decide +kernel
theorem d_S_create_31 : decode b_S_create 31 = .ok (.iload_n 1, 1) := by decide +kernel
theorem d_S_create_32 : decode b_S_create 32 = .ok (.invokevirtual 54, 3) := by decide +kernel
theorem d_S_create_35 : decode b_S_create 35 = .ok (.istore_n 2, 1) := by decide +kernel
theorem d_S_create_36 : decode b_S_create 36 = .ok (.aload_n 0, 1) := by decide +kernel
theorem d_S_create_37 : decode b_S_create 37 = .ok (.getfield 28, 3) := by decide +kernel
theorem d_S_create_40 : decode b_S_create 40 = .ok (.iload_n 2, 1) := by decide +kernel
theorem d_S_create_41 : decode b_S_create 41 = .ok (.invokevirtual 58, 3) := by decide +kernel
theorem d_S_create_44 : decode b_S_create 44 = .ok (.aload_n 0, 1) := by decide +kernel
theorem d_S_create_45 : decode b_S_create 45 = .ok (.getfield 28, 3) := by decide +kernel
theorem d_S_create_48 : decode b_S_create 48 = .ok (.iload_n 2, 1) := by decide +kernel
theorem d_S_create_49 : decode b_S_create 49 = .ok (.invokevirtual 62, 3) := by decide +kernel
theorem d_S_create_52 : decode b_S_create 52 = .ok (.aload_n 0, 1) := by decide +kernel
theorem d_S_create_53 : decode b_S_create 53 = .ok (.aload_n 0, 1) := by decide +kernel
theorem d_S_create_54 : decode b_S_create 54 = .ok (.getfield 36, 3) := by decide +kernel
theorem d_S_create_57 : decode b_S_create 57 = .ok (.iconst (-1), 1) := by decide +kernel
theorem d_S_create_58 : decode b_S_create 58 = .ok (.invokevirtual 65, 3) := by decide +kernel
theorem d_S_create_61 : decode b_S_create 61 = .ok (.ireturn, 1) := by decide +kernel
theorem d_S_openDraft_0 : decode b_S_openDraft 0 = .ok (.aload_n 0, 1) := by decide +kernel
theorem d_S_openDraft_1 : decode b_S_openDraft 1 = .ok (.getfield 28, 3) := by decide +kernel
theorem d_S_openDraft_4 : decode b_S_openDraft 4 = .ok (.aload_n 0, 1) := by decide +kernel
theorem d_S_openDraft_5 : decode b_S_openDraft 5 = .ok (.getfield 19, 3) := by decide +kernel
theorem d_S_openDraft_8 : decode b_S_openDraft 8 = .ok (.aload_n 0, 1) := by decide +kernel
theorem d_S_openDraft_9 : decode b_S_openDraft 9 = .ok (.getfield 32, 3) := by decide +kernel
theorem d_S_openDraft_12 : decode b_S_openDraft 12 = .ok (.aload_n 0, 1) := by decide +kernel
theorem d_S_openDraft_13 : decode b_S_openDraft 13 = .ok (.getfield 36, 3) := by decide +kernel
theorem d_S_openDraft_16 : decode b_S_openDraft 16 = .ok (.iaload, 1) := by decide +kernel
theorem d_S_openDraft_17 : decode b_S_openDraft 17 = .ok (.invokevirtual 126, 3) := by decide +kernel
theorem d_S_openDraft_20 : decode b_S_openDraft 20 = .ok (.return_, 1) := by decide +kernel
theorem d_D_open_0 : decode b_D_open 0 = .ok (.aload_n 0, 1) := by decide +kernel
theorem d_D_open_1 : decode b_D_open 1 = .ok (.invokevirtual 22, 3) := by decide +kernel
theorem d_D_open_4 : decode b_D_open 4 = .ok (.aload_n 0, 1) := by decide +kernel
theorem d_D_open_5 : decode b_D_open 5 = .ok (.aload_n 1, 1) := by decide +kernel
theorem d_D_open_6 : decode b_D_open 6 = .ok (.iload_n 2, 1) := by decide +kernel
theorem d_D_open_7 : decode b_D_open 7 = .ok (.invokevirtual 25, 3) := by decide +kernel
theorem d_D_open_10 : decode b_D_open 10 = .ok (.putfield 31, 3) := by decide +kernel
theorem d_D_open_13 : decode b_D_open 13 = .ok (.aload_n 0, 1) := by decide +kernel
theorem d_D_open_14 : decode b_D_open 14 = .ok (.aload_n 1, 1) := by decide +kernel
theorem d_D_open_15 : decode b_D_open 15 = .ok (.iload_n 2, 1) := by decide +kernel
theorem d_D_open_16 : decode b_D_open 16 = .ok (.invokevirtual 35, 3) := by decide +kernel
theorem d_D_open_19 : decode b_D_open 19 = .ok (.putfield 39, 3) := by decide +kernel
theorem d_D_open_22 : decode b_D_open 22 = .ok (.iconst 0, 1) := by decide +kernel
theorem d_D_open_23 : decode b_D_open 23 = .ok (.istore_n 3, 1) := by decide +kernel
theorem d_D_open_24 : decode b_D_open 24 = .ok (.iload_n 3, 1) := by decide +kernel
theorem d_D_open_25 : decode b_D_open 25 = .ok (.iconst 3, 1) := by decide +kernel
theorem d_D_open_26 : decode b_D_open 26 = .ok (.if_icmp .ge 21, 3) := by decide +kernel
theorem d_D_open_29 : decode b_D_open 29 = .ok (.aload_n 0, 1) := by decide +kernel
theorem d_D_open_30 : decode b_D_open 30 = .ok (.getfield 15, 3) := by decide +kernel
theorem d_D_open_33 : decode b_D_open 33 = .ok (.iload_n 3, 1) := by decide +kernel
theorem d_D_open_34 : decode b_D_open 34 = .ok (.aload_n 1, 1) := by decide +kernel
theorem d_D_open_35 : decode b_D_open 35 = .ok (.iload_n 2, 1) := by decide +kernel
theorem d_D_open_36 : decode b_D_open 36 = .ok (.iload_n 3, 1) := by decide +kernel
theorem d_D_open_37 : decode b_D_open 37 = .ok (.invokevirtual 43, 3) := by decide +kernel
theorem d_D_open_40 : decode b_D_open 40 = .ok (.iastore, 1) := by decide +kernel
theorem d_D_open_41 : decode b_D_open 41 = .ok (.iinc 3 1, 3) := by decide +kernel
theorem d_D_open_44 : decode b_D_open 44 = .ok (.goto (-20), 3) := by decide +kernel
theorem d_D_open_47 : decode b_D_open 47 = .ok (.return_, 1) := by decide +kernel
theorem d_D_start_0 : decode b_D_start 0 = .ok (.aload_n 0, 1) := by decide +kernel
theorem d_D_start_1 : decode b_D_start 1 = .ok (.getfield 19, 3) := by decide +kernel
theorem d_D_start_4 : decode b_D_start 4 = .ok (.iconst (-1), 1) := by decide +kernel
theorem d_D_start_5 : decode b_D_start 5 = .ok (.invokestatic 53, 3) := by decide +kernel
theorem d_D_start_8 : decode b_D_start 8 = .ok (.aload_n 0, 1) := by decide +kernel
theorem d_D_start_9 : decode b_D_start 9 = .ok (.aload_n 0, 1) := by decide +kernel
theorem d_D_start_10 : decode b_D_start 10 = .ok (.getfield 9, 3) := by decide +kernel
theorem d_D_start_13 : decode b_D_start 13 = .ok (.getfield 59, 3) := by decide +kernel
theorem d_D_start_16 : decode b_D_start 16 = .ok (.putfield 64, 3) := by decide +kernel
theorem d_D_start_19 : decode b_D_start 19 = .ok (.return_, 1) := by decide +kernel
theorem d_A_fill_0 : decode b_A_fill 0 = .ok (.iconst 0, 1) := by decide +kernel
theorem d_A_fill_1 : decode b_A_fill 1 = .ok (.istore_n 2, 1) := by decide +kernel
theorem d_A_fill_2 : decode b_A_fill 2 = .ok (.aload_n 0, 1) := by decide +kernel
theorem d_A_fill_3 : decode b_A_fill 3 = .ok (.arraylength, 1) := by decide +kernel
theorem d_A_fill_4 : decode b_A_fill 4 = .ok (.istore_n 3, 1) := by decide +kernel
theorem d_A_fill_5 : decode b_A_fill 5 = .ok (.iload_n 2, 1) := by decide +kernel
theorem d_A_fill_6 : decode b_A_fill 6 = .ok (.iload_n 3, 1) := by decide +kernel
theorem d_A_fill_7 : decode b_A_fill 7 = .ok (.if_icmp .ge 13, 3) := by decide +kernel
theorem d_A_fill_10 : decode b_A_fill 10 = .ok (.aload_n 0, 1) := by decide +kernel
theorem d_A_fill_11 : decode b_A_fill 11 = .ok (.iload_n 2, 1) := by decide +kernel
theorem d_A_fill_12 : decode b_A_fill 12 = .ok (.iload_n 1, 1) := by decide +kernel
theorem d_A_fill_13 : decode b_A_fill 13 = .ok (.iastore, 1) := by decide +kernel
theorem d_A_fill_14 : decode b_A_fill 14 = .ok (.iinc 2 1, 3) := by decide +kernel
theorem d_A_fill_17 : decode b_A_fill 17 = .ok (.goto (-12), 3) := by decide +kernel
theorem d_A_fill_20 : decode b_A_fill 20 = .ok (.return_, 1) := by decide +kernel
theorem d_O_shownIn_0 : decode b_O_shownIn 0 = .ok (.aload_n 0, 1) := by decide +kernel
theorem d_O_shownIn_1 : decode b_O_shownIn 1 = .ok (.iload_n 1, 1) := by decide +kernel
theorem d_O_shownIn_2 : decode b_O_shownIn 2 = .ok (.invokevirtual 36, 3) := by decide +kernel
theorem d_O_shownIn_5 : decode b_O_shownIn 5 = .ok (.ifCond .eq 12, 3) := by decide +kernel
theorem d_O_shownIn_8 : decode b_O_shownIn 8 = .ok (.aload_n 0, 1) := by decide +kernel
theorem d_O_shownIn_9 : decode b_O_shownIn 9 = .ok (.getfield 18, 3) := by decide +kernel
theorem d_O_shownIn_12 : decode b_O_shownIn 12 = .ok (.iload_n 1, 1) := by decide +kernel
theorem d_O_shownIn_13 : decode b_O_shownIn 13 = .ok (.laload, 1) := by decide +kernel
theorem d_O_shownIn_14 : decode b_O_shownIn 14 = .ok (.goto 4, 3) := by decide +kernel
theorem d_O_shownIn_17 : decode b_O_shownIn 17 = .ok (.lconst 0, 1) := by decide +kernel
theorem d_O_shownIn_18 : decode b_O_shownIn 18 = .ok (.lreturn, 1) := by decide +kernel
theorem d_O_has_0 : decode b_O_has 0 = .ok (.iload_n 1, 1) := by decide +kernel
theorem d_O_has_1 : decode b_O_has 1 = .ok (.ifCond .lt 15, 3) := by decide +kernel
theorem d_O_has_4 : decode b_O_has 4 = .ok (.iload_n 1, 1) := by decide +kernel
theorem d_O_has_5 : decode b_O_has 5 = .ok (.aload_n 0, 1) := by decide +kernel
theorem d_O_has_6 : decode b_O_has 6 = .ok (.getfield 32, 3) := by decide +kernel
theorem d_O_has_9 : decode b_O_has 9 = .ok (.if_icmp .ge 7, 3) := by decide +kernel
theorem d_O_has_12 : decode b_O_has 12 = .ok (.iconst 1, 1) := by decide +kernel
theorem d_O_has_13 : decode b_O_has 13 = .ok (.goto 4, 3) := by decide +kernel
theorem d_O_has_16 : decode b_O_has 16 = .ok (.iconst 0, 1) := by decide +kernel
theorem d_O_has_17 : decode b_O_has 17 = .ok (.ireturn, 1) := by decide +kernel
theorem d_O_workingIn_0 : decode b_O_workingIn 0 = .ok (.aload_n 0, 1) := by decide +kernel
theorem d_O_workingIn_1 : decode b_O_workingIn 1 = .ok (.iload_n 1, 1) := by decide +kernel
theorem d_O_workingIn_2 : decode b_O_workingIn 2 = .ok (.invokevirtual 36, 3) := by decide +kernel
theorem d_O_workingIn_5 : decode b_O_workingIn 5 = .ok (.ifCond .eq 12, 3) := by decide +kernel
theorem d_O_workingIn_8 : decode b_O_workingIn 8 = .ok (.aload_n 0, 1) := by decide +kernel
theorem d_O_workingIn_9 : decode b_O_workingIn 9 = .ok (.getfield 22, 3) := by decide +kernel
theorem d_O_workingIn_12 : decode b_O_workingIn 12 = .ok (.iload_n 1, 1) := by decide +kernel
theorem d_O_workingIn_13 : decode b_O_workingIn 13 = .ok (.iaload, 1) := by decide +kernel
theorem d_O_workingIn_14 : decode b_O_workingIn 14 = .ok (.goto 4, 3) := by decide +kernel
theorem d_O_workingIn_17 : decode b_O_workingIn 17 = .ok (.iconst (-1), 1) := by decide +kernel
theorem d_O_workingIn_18 : decode b_O_workingIn 18 = .ok (.ireturn, 1) := by decide +kernel
theorem d_O_markIn_0 : decode b_O_markIn 0 = .ok (.aload_n 0, 1) := by decide +kernel
theorem d_O_markIn_1 : decode b_O_markIn 1 = .ok (.iload_n 1, 1) := by decide +kernel
theorem d_O_markIn_2 : decode b_O_markIn 2 = .ok (.invokevirtual 36, 3) := by decide +kernel
theorem d_O_markIn_5 : decode b_O_markIn 5 = .ok (.ifCond .eq 23, 3) := by decide +kernel
theorem d_O_markIn_8 : decode b_O_markIn 8 = .ok (.iload_n 2, 1) := by decide +kernel
theorem d_O_markIn_9 : decode b_O_markIn 9 = .ok (.invokestatic 40, 3) := by decide +kernel
theorem d_O_markIn_12 : decode b_O_markIn 12 = .ok (.ifCond .eq 16, 3) := by decide +kernel
theorem d_O_markIn_15 : decode b_O_markIn 15 = .ok (.aload_n 0, 1) := by decide +kernel
theorem d_O_markIn_16 : decode b_O_markIn 16 = .ok (.getfield 25, 3) := by decide +kernel
theorem d_O_markIn_19 : decode b_O_markIn 19 = .ok (.iload_n 1, 1) := by decide +kernel
theorem d_O_markIn_20 : decode b_O_markIn 20 = .ok (.iconst 3, 1) := by decide +kernel
theorem d_O_markIn_21 : decode b_O_markIn 21 = .ok (.imul, 1) := by decide +kernel
theorem d_O_markIn_22 : decode b_O_markIn 22 = .ok (.iload_n 2, 1) := by decide +kernel
theorem d_O_markIn_23 : decode b_O_markIn 23 = .ok (.iadd, 1) := by decide +kernel
theorem d_O_markIn_24 : decode b_O_markIn 24 = .ok (.iaload, 1) := by decide +kernel
theorem d_O_markIn_25 : decode b_O_markIn 25 = .ok (.goto 4, 3) := by decide +kernel
theorem d_O_markIn_28 : decode b_O_markIn 28 = .ok (.iconst (-1), 1) := by decide +kernel
theorem d_O_markIn_29 : decode b_O_markIn 29 = .ok (.ireturn, 1) := by decide +kernel
theorem d_S_isMark_0 : decode b_S_isMark 0 = .ok (.iload_n 0, 1) := by decide +kernel
theorem d_S_isMark_1 : decode b_S_isMark 1 = .ok (.ifCond .lt 12, 3) := by decide +kernel
theorem d_S_isMark_4 : decode b_S_isMark 4 = .ok (.iload_n 0, 1) := by decide +kernel
theorem d_S_isMark_5 : decode b_S_isMark 5 = .ok (.iconst 3, 1) := by decide +kernel
theorem d_S_isMark_6 : decode b_S_isMark 6 = .ok (.if_icmp .ge 7, 3) := by decide +kernel
theorem d_S_isMark_9 : decode b_S_isMark 9 = .ok (.iconst 1, 1) := by decide +kernel
theorem d_S_isMark_10 : decode b_S_isMark 10 = .ok (.goto 4, 3) := by decide +kernel
theorem d_S_isMark_13 : decode b_S_isMark 13 = .ok (.iconst 0, 1) := by decide +kernel
theorem d_S_isMark_14 : decode b_S_isMark 14 = .ok (.ireturn, 1) := by decide +kernel
theorem d_D_shows_0 : decode b_D_shows 0 = .ok (.iload_n 1, 1) := by decide +kernel
theorem d_D_shows_1 : decode b_D_shows 1 = .ok (.aload_n 0, 1) := by decide +kernel
theorem d_D_shows_2 : decode b_D_shows 2 = .ok (.getfield 31, 3) := by decide +kernel
theorem d_D_shows_5 : decode b_D_shows 5 = .ok (.invokestatic 67, 3) := by decide +kernel
theorem d_D_shows_8 : decode b_D_shows 8 = .ok (.ireturn, 1) := by decide +kernel
theorem d_S_isIn_0 : decode b_S_isIn 0 = .ok (.iload_n 0, 1) := by decide +kernel
theorem d_S_isIn_1 : decode b_S_isIn 1 = .ok (.ifCond .lt 23, 3) := by decide +kernel
theorem d_S_isIn_4 : decode b_S_isIn 4 = .ok (.iload_n 0, 1) := by decide +kernel
theorem d_S_isIn_5 : decode b_S_isIn 5 = .ok (.bipush 60, 2) := by decide +kernel
theorem d_S_isIn_7 : decode b_S_isIn 7 = .ok (.if_icmp .ge 17, 3) := by decide +kernel
theorem d_S_isIn_10 : decode b_S_isIn 10 = .ok (.lload_n 1, 1) := by decide +kernel
theorem d_S_isIn_11 : decode b_S_isIn 11 = .ok (.iload_n 0, 1) := by decide +kernel
theorem d_S_isIn_12 : decode b_S_isIn 12 = .ok (.lshr, 1) := by decide +kernel
theorem d_S_isIn_13 : decode b_S_isIn 13 = .ok (.lconst 1, 1) := by decide +kernel
theorem d_S_isIn_14 : decode b_S_isIn 14 = .ok (.land, 1) := by decide +kernel
theorem d_S_isIn_15 : decode b_S_isIn 15 = .ok (.lconst 0, 1) := by decide +kernel
theorem d_S_isIn_16 : decode b_S_isIn 16 = .ok (.lcmp, 1) := by decide +kernel
theorem d_S_isIn_17 : decode b_S_isIn 17 = .ok (.ifCond .eq 7, 3) := by decide +kernel
theorem d_S_isIn_20 : decode b_S_isIn 20 = .ok (.iconst 1, 1) := by decide +kernel
theorem d_S_isIn_21 : decode b_S_isIn 21 = .ok (.goto 4, 3) := by decide +kernel
theorem d_S_isIn_24 : decode b_S_isIn 24 = .ok (.iconst 0, 1) := by decide +kernel
theorem d_S_isIn_25 : decode b_S_isIn 25 = .ok (.ireturn, 1) := by decide +kernel
theorem d_S_hasRoomForCommit_0 : decode b_S_hasRoomForCommit 0 = .ok (.aload_n 0, 1) := by decide +kernel
theorem d_S_hasRoomForCommit_1 : decode b_S_hasRoomForCommit 1 = .ok (.getfield 10, 3) := by decide +kernel
theorem d_S_hasRoomForCommit_4 : decode b_S_hasRoomForCommit 4 = .ok (.invokevirtual 159, 3) := by decide +kernel
theorem d_S_hasRoomForCommit_7 : decode b_S_hasRoomForCommit 7 = .ok (.ifCond .ne 17, 3) := by decide +kernel
theorem d_S_hasRoomForCommit_10 : decode b_S_hasRoomForCommit 10 = .ok (.aload_n 0, 1) := by decide +kernel
theorem d_S_hasRoomForCommit_11 : decode b_S_hasRoomForCommit 11 = .ok (.getfield 19, 3) := by decide +kernel
theorem d_S_hasRoomForCommit_14 : decode b_S_hasRoomForCommit 14 = .ok (.invokevirtual 162, 3) := by decide +kernel
theorem d_S_hasRoomForCommit_17 : decode b_S_hasRoomForCommit 17 = .ok (.ifCond .ne 7, 3) := by decide +kernel
theorem d_S_hasRoomForCommit_20 : decode b_S_hasRoomForCommit 20 = .ok (.iconst 1, 1) := by decide +kernel
theorem d_S_hasRoomForCommit_21 : decode b_S_hasRoomForCommit 21 = .ok (.goto 4, 3) := by decide +kernel
theorem d_S_hasRoomForCommit_24 : decode b_S_hasRoomForCommit 24 = .ok (.iconst 0, 1) := by decide +kernel
theorem d_S_hasRoomForCommit_25 : decode b_S_hasRoomForCommit 25 = .ok (.ireturn, 1) := by decide +kernel
theorem d_C_isFull_0 : decode b_C_isFull 0 = .ok (.aload_n 0, 1) := by decide +kernel
theorem d_C_isFull_1 : decode b_C_isFull 1 = .ok (.getfield 22, 3) := by decide +kernel
theorem d_C_isFull_4 : decode b_C_isFull 4 = .ok (.bipush 60, 2) := by decide +kernel
theorem d_C_isFull_6 : decode b_C_isFull 6 = .ok (.if_icmp .lt 7, 3) := by decide +kernel
theorem d_C_isFull_9 : decode b_C_isFull 9 = .ok (.iconst 1, 1) := by decide +kernel
theorem d_C_isFull_10 : decode b_C_isFull 10 = .ok (.goto 4, 3) := by decide +kernel
theorem d_C_isFull_13 : decode b_C_isFull 13 = .ok (.iconst 0, 1) := by decide +kernel
theorem d_C_isFull_14 : decode b_C_isFull 14 = .ok (.ireturn, 1) := by decide +kernel
theorem d_O_isFull_0 : decode b_O_isFull 0 = .ok (.aload_n 0, 1) := by decide +kernel
theorem d_O_isFull_1 : decode b_O_isFull 1 = .ok (.getfield 32, 3) := by decide +kernel
theorem d_O_isFull_4 : decode b_O_isFull 4 = .ok (.bipush 100, 2) := by decide +kernel
theorem d_O_isFull_6 : decode b_O_isFull 6 = .ok (.if_icmp .lt 7, 3) := by decide +kernel
theorem d_O_isFull_9 : decode b_O_isFull 9 = .ok (.iconst 1, 1) := by decide +kernel
theorem d_O_isFull_10 : decode b_O_isFull 10 = .ok (.goto 4, 3) := by decide +kernel
theorem d_O_isFull_13 : decode b_O_isFull 13 = .ok (.iconst 0, 1) := by decide +kernel
theorem d_O_isFull_14 : decode b_O_isFull 14 = .ok (.ireturn, 1) := by decide +kernel
theorem d_C_addNewChange_0 : decode b_C_addNewChange 0 = .ok (.aload_n 0, 1) := by decide +kernel
theorem d_C_addNewChange_1 : decode b_C_addNewChange 1 = .ok (.invokevirtual 59, 3) := by decide +kernel
theorem d_C_addNewChange_4 : decode b_C_addNewChange 4 = .ok (.ifCond .eq 5, 3) := by decide +kernel
theorem d_C_addNewChange_7 : decode b_C_addNewChange 7 = .ok (.iconst (-1), 1) := by decide +kernel
theorem d_C_addNewChange_8 : decode b_C_addNewChange 8 = .ok (.ireturn, 1) := by decide +kernel
theorem d_C_addNewChange_9 : decode b_C_addNewChange 9 = .ok (.aload_n 0, 1) := by decide +kernel
theorem d_C_addNewChange_10 : decode b_C_addNewChange 10 = .ok (.dup, 1) := by decide +kernel
theorem d_C_addNewChange_11 : decode b_C_addNewChange 11 = .ok (.getfield 26, 3) := by decide +kernel
theorem d_C_addNewChange_14 : decode b_C_addNewChange 14 = .ok (.iconst 1, 1) := by decide +kernel
theorem d_C_addNewChange_15 : decode b_C_addNewChange 15 = .ok (.iadd, 1) := by decide +kernel
theorem d_C_addNewChange_16 : decode b_C_addNewChange 16 = .ok (.putfield 26, 3) := by decide +kernel
theorem d_C_addNewChange_19 : decode b_C_addNewChange 19 = .ok (.aload_n 0, 1) := by decide +kernel
theorem d_C_addNewChange_20 : decode b_C_addNewChange 20 = .ok (.aload_n 0, 1) := by decide +kernel
theorem d_C_addNewChange_21 : decode b_C_addNewChange 21 = .ok (.getfield 26, 3) := by decide +kernel
theorem d_C_addNewChange_24 : decode b_C_addNewChange 24 = .ok (.iload_n 1, 1) := by decide +kernel
theorem d_C_addNewChange_25 : decode b_C_addNewChange 25 = .ok (.iload_n 1, 1) := by decide +kernel
theorem d_C_addNewChange_26 : decode b_C_addNewChange 26 = .ok (.invokevirtual 63, 3) := by decide +kernel
theorem d_C_addNewChange_29 : decode b_C_addNewChange 29 = .ok (.ireturn, 1) := by decide +kernel
theorem d_C_addCopy_0 : decode b_C_addCopy 0 = .ok (.aload_n 0, 1) := by decide +kernel
theorem d_C_addCopy_1 : decode b_C_addCopy 1 = .ok (.invokevirtual 59, 3) := by decide +kernel
theorem d_C_addCopy_4 : decode b_C_addCopy 4 = .ok (.ifCond .ne 11, 3) := by decide +kernel
theorem d_C_addCopy_7 : decode b_C_addCopy 7 = .ok (.aload_n 0, 1) := by decide +kernel
theorem d_C_addCopy_8 : decode b_C_addCopy 8 = .ok (.iload_n 3, 1) := by decide +kernel
theorem d_C_addCopy_9 : decode b_C_addCopy 9 = .ok (.invokevirtual 29, 3) := by decide +kernel
theorem d_C_addCopy_12 : decode b_C_addCopy 12 = .ok (.ifCond .ne 5, 3) := by decide +kernel
theorem d_C_addCopy_15 : decode b_C_addCopy 15 = .ok (.iconst (-1), 1) := by decide +kernel
theorem d_C_addCopy_16 : decode b_C_addCopy 16 = .ok (.ireturn, 1) := by decide +kernel
theorem d_C_addCopy_17 : decode b_C_addCopy 17 = .ok (.aload_n 0, 1) := by decide +kernel
theorem d_C_addCopy_18 : decode b_C_addCopy 18 = .ok (.getfield 22, 3) := by decide +kernel
theorem d_C_addCopy_21 : decode b_C_addCopy 21 = .ok (.istore 4, 2) := by decide +kernel
theorem d_C_addCopy_23 : decode b_C_addCopy 23 = .ok (.aload_n 0, 1) := by decide +kernel
theorem d_C_addCopy_24 : decode b_C_addCopy 24 = .ok (.dup, 1) := by decide +kernel
theorem d_C_addCopy_25 : decode b_C_addCopy 25 = .ok (.getfield 22, 3) := by decide +kernel
theorem d_C_addCopy_28 : decode b_C_addCopy 28 = .ok (.iconst 1, 1) := by decide +kernel
theorem d_C_addCopy_29 : decode b_C_addCopy 29 = .ok (.iadd, 1) := by decide +kernel
theorem d_C_addCopy_30 : decode b_C_addCopy 30 = .ok (.putfield 22, 3) := by decide +kernel
theorem d_C_addCopy_33 : decode b_C_addCopy 33 = .ok (.aload_n 0, 1) := by decide +kernel
theorem d_C_addCopy_34 : decode b_C_addCopy 34 = .ok (.getfield 15, 3) := by decide +kernel
theorem d_C_addCopy_37 : decode b_C_addCopy 37 = .ok (.iload 4, 2) := by decide +kernel
theorem d_C_addCopy_39 : decode b_C_addCopy 39 = .ok (.iload_n 1, 1) := by decide +kernel
theorem d_C_addCopy_40 : decode b_C_addCopy 40 = .ok (.iastore, 1) := by decide +kernel
theorem d_C_addCopy_41 : decode b_C_addCopy 41 = .ok (.aload_n 0, 1) := by decide +kernel
theorem d_C_addCopy_42 : decode b_C_addCopy 42 = .ok (.getfield 9, 3) := by decide +kernel
theorem d_C_addCopy_45 : decode b_C_addCopy 45 = .ok (.iload 4, 2) := by decide +kernel
theorem d_C_addCopy_47 : decode b_C_addCopy 47 = .ok (.iload_n 2, 1) := by decide +kernel
theorem d_C_addCopy_48 : decode b_C_addCopy 48 = .ok (.iastore, 1) := by decide +kernel
theorem d_C_addCopy_49 : decode b_C_addCopy 49 = .ok (.aload_n 0, 1) := by decide +kernel
theorem d_C_addCopy_50 : decode b_C_addCopy 50 = .ok (.getfield 18, 3) := by decide +kernel
theorem d_C_addCopy_53 : decode b_C_addCopy 53 = .ok (.iload_n 3, 1) := by decide +kernel
theorem d_C_addCopy_54 : decode b_C_addCopy 54 = .ok (.iconst 0, 1) := by decide +kernel
theorem d_C_addCopy_55 : decode b_C_addCopy 55 = .ok (.invokestatic 39, 3) := by decide +kernel
theorem d_C_addCopy_58 : decode b_C_addCopy 58 = .ok (.aload_n 0, 1) := by decide +kernel
theorem d_C_addCopy_59 : decode b_C_addCopy 59 = .ok (.getfield 18, 3) := by decide +kernel
theorem d_C_addCopy_62 : decode b_C_addCopy 62 = .ok (.iload 4, 2) := by decide +kernel
theorem d_C_addCopy_64 : decode b_C_addCopy 64 = .ok (.iconst 0, 1) := by decide +kernel
theorem d_C_addCopy_65 : decode b_C_addCopy 65 = .ok (.invokestatic 39, 3) := by decide +kernel
theorem d_C_addCopy_68 : decode b_C_addCopy 68 = .ok (.bipush 32, 2) := by decide +kernel
theorem d_C_addCopy_70 : decode b_C_addCopy 70 = .ok (.invokestatic 67, 3) := by decide +kernel
theorem d_C_addCopy_73 : decode b_C_addCopy 73 = .ok (.iload 4, 2) := by decide +kernel
theorem d_C_addCopy_75 : decode b_C_addCopy 75 = .ok (.ireturn, 1) := by decide +kernel
theorem d_C_has_0 : decode b_C_has 0 = .ok (.iload_n 1, 1) := by decide +kernel
theorem d_C_has_1 : decode b_C_has 1 = .ok (.ifCond .lt 15, 3) := by decide +kernel
theorem d_C_has_4 : decode b_C_has 4 = .ok (.iload_n 1, 1) := by decide +kernel
theorem d_C_has_5 : decode b_C_has 5 = .ok (.aload_n 0, 1) := by decide +kernel
theorem d_C_has_6 : decode b_C_has 6 = .ok (.getfield 22, 3) := by decide +kernel
theorem d_C_has_9 : decode b_C_has 9 = .ok (.if_icmp .ge 7, 3) := by decide +kernel
theorem d_C_has_12 : decode b_C_has 12 = .ok (.iconst 1, 1) := by decide +kernel
theorem d_C_has_13 : decode b_C_has 13 = .ok (.goto 4, 3) := by decide +kernel
theorem d_C_has_16 : decode b_C_has 16 = .ok (.iconst 0, 1) := by decide +kernel
theorem d_C_has_17 : decode b_C_has 17 = .ok (.ireturn, 1) := by decide +kernel
theorem d_C_start_0 : decode b_C_start 0 = .ok (.iload_n 0, 1) := by decide +kernel
theorem d_C_start_1 : decode b_C_start 1 = .ok (.iconst 4, 1) := by decide +kernel
theorem d_C_start_2 : decode b_C_start 2 = .ok (.imul, 1) := by decide +kernel
theorem d_C_start_3 : decode b_C_start 3 = .ok (.iload_n 1, 1) := by decide +kernel
theorem d_C_start_4 : decode b_C_start 4 = .ok (.iadd, 1) := by decide +kernel
theorem d_C_start_5 : decode b_C_start 5 = .ok (.bipush 8, 2) := by decide +kernel
theorem d_C_start_7 : decode b_C_start 7 = .ok (.imul, 1) := by decide +kernel
theorem d_C_start_8 : decode b_C_start 8 = .ok (.ireturn, 1) := by decide +kernel
theorem d_D_show_0 : decode b_D_show 0 = .ok (.aload_n 0, 1) := by decide +kernel
theorem d_D_show_1 : decode b_D_show 1 = .ok (.dup, 1) := by decide +kernel
theorem d_D_show_2 : decode b_D_show 2 = .ok (.getfield 31, 3) := by decide +kernel
theorem d_D_show_5 : decode b_D_show 5 = .ok (.iload_n 1, 1) := by decide +kernel
theorem d_D_show_6 : decode b_D_show 6 = .ok (.invokestatic 71, 3) := by decide +kernel
theorem d_D_show_9 : decode b_D_show 9 = .ok (.lor, 1) := by decide +kernel
theorem d_D_show_10 : decode b_D_show 10 = .ok (.putfield 31, 3) := by decide +kernel
theorem d_D_show_13 : decode b_D_show 13 = .ok (.return_, 1) := by decide +kernel
theorem d_D_workOn_0 : decode b_D_workOn 0 = .ok (.aload_n 0, 1) := by decide +kernel
theorem d_D_workOn_1 : decode b_D_workOn 1 = .ok (.iload_n 1, 1) := by decide +kernel
theorem d_D_workOn_2 : decode b_D_workOn 2 = .ok (.putfield 39, 3) := by decide +kernel
