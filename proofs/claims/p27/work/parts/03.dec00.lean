theorem dX0_init_0 : decode cX0_init 0 = .ok (.aload_n 0, 1) := by decide +kernel
theorem dX0_init_1 : decode cX0_init 1 = .ok (.invokespecial 3, 3) := by decide +kernel
theorem dX0_init_4 : decode cX0_init 4 = .ok (.aload_n 0, 1) := by decide +kernel
theorem dX0_init_5 : decode cX0_init 5 = .ok (.new 9, 3) := by decide +kernel
theorem dX0_init_8 : decode cX0_init 8 = .ok (.dup, 1) := by decide +kernel
theorem dX0_init_9 : decode cX0_init 9 = .ok (.invokespecial 11, 3) := by decide +kernel
theorem dX0_init_12 : decode cX0_init 12 = .ok (.putfield 12, 3) := by decide +kernel
theorem dX0_init_15 : decode cX0_init 15 = .ok (.aload_n 0, 1) := by decide +kernel
theorem dX0_init_16 : decode cX0_init 16 = .ok (.iconst 3, 1) := by decide +kernel
theorem dX0_init_17 : decode cX0_init 17 = .ok (.newarray .int, 2) := by decide +kernel
theorem dX0_init_19 : decode cX0_init 19 = .ok (.putfield 18, 3) := by decide +kernel
theorem dX0_init_22 : decode cX0_init 22 = .ok (.aload_n 0, 1) := by decide +kernel
theorem dX0_init_23 : decode cX0_init 23 = .ok (.new 22, 3) := by decide +kernel
theorem dX0_init_26 : decode cX0_init 26 = .ok (.dup, 1) := by decide +kernel
theorem dX0_init_27 : decode cX0_init 27 = .ok (.invokespecial 24, 3) := by decide +kernel
theorem dX0_init_30 : decode cX0_init 30 = .ok (.putfield 25, 3) := by decide +kernel
theorem dX0_init_33 : decode cX0_init 33 = .ok (.aload_n 0, 1) := by decide +kernel
theorem dX0_init_34 : decode cX0_init 34 = .ok (.bipush 7, 2) := by decide +kernel
theorem dX0_init_36 : decode cX0_init 36 = .ok (.newarray .long, 2) := by decide +kernel
theorem dX0_init_38 : decode cX0_init 38 = .ok (.putfield 29, 3) := by decide +kernel
theorem dX0_init_41 : decode cX0_init 41 = .ok (.return_, 1) := by decide +kernel
theorem dX0_takeOver_0 : decode cX0_takeOver 0 = .ok (.aload_n 0, 1) := by decide +kernel
theorem dX0_takeOver_1 : decode cX0_takeOver 1 = .ok (.getfield 12, 3) := by decide +kernel
theorem dX0_takeOver_4 : decode cX0_takeOver 4 = .ok (.aload_n 1, 1) := by decide +kernel
theorem dX0_takeOver_5 : decode cX0_takeOver 5 = .ok (.invokevirtual 33, 3) := by decide +kernel
theorem dX0_takeOver_8 : decode cX0_takeOver 8 = .ok (.aload_n 0, 1) := by decide +kernel
theorem dX0_takeOver_9 : decode cX0_takeOver 9 = .ok (.invokevirtual 37, 3) := by decide +kernel
theorem dX0_takeOver_12 : decode cX0_takeOver 12 = .ok (.return_, 1) := by decide +kernel
theorem dX0_solve_0 : decode cX0_solve 0 = .ok (.aload_n 0, 1) := by decide +kernel
theorem dX0_solve_1 : decode cX0_solve 1 = .ok (.iconst 0, 1) := by decide +kernel
theorem dX0_solve_2 : decode cX0_solve 2 = .ok (.putfield 40, 3) := by decide +kernel
theorem dX0_solve_5 : decode cX0_solve 5 = .ok (.iconst 0, 1) := by decide +kernel
theorem dX0_solve_6 : decode cX0_solve 6 = .ok (.istore_n 1, 1) := by decide +kernel
theorem dX0_solve_7 : decode cX0_solve 7 = .ok (.iload_n 1, 1) := by decide +kernel
theorem dX0_solve_8 : decode cX0_solve 8 = .ok (.aload_n 0, 1) := by decide +kernel
theorem dX0_solve_9 : decode cX0_solve 9 = .ok (.getfield 12, 3) := by decide +kernel
theorem dX0_solve_12 : decode cX0_solve 12 = .ok (.getfield 44, 3) := by decide +kernel
theorem dX0_solve_15 : decode cX0_solve 15 = .ok (.getfield 48, 3) := by decide +kernel
theorem dX0_solve_18 : decode cX0_solve 18 = .ok (.if_icmp .ge 53, 3) := by decide +kernel
theorem dX0_solve_21 : decode cX0_solve 21 = .ok (.aload_n 0, 1) := by decide +kernel
theorem dX0_solve_22 : decode cX0_solve 22 = .ok (.getfield 12, 3) := by decide +kernel
theorem dX0_solve_25 : decode cX0_solve 25 = .ok (.getfield 44, 3) := by decide +kernel
theorem dX0_solve_28 : decode cX0_solve 28 = .ok (.getfield 53, 3) := by decide +kernel
theorem dX0_solve_31 : decode cX0_solve 31 = .ok (.iload_n 1, 1) := by decide +kernel
theorem dX0_solve_32 : decode cX0_solve 32 = .ok (.iaload, 1) := by decide +kernel
theorem dX0_solve_33 : decode cX0_solve 33 = .ok (.iconst 2, 1) := by decide +kernel
theorem dX0_solve_34 : decode cX0_solve 34 = .ok (.if_icmp .ne 31, 3) := by decide +kernel
theorem dX0_solve_37 : decode cX0_solve 37 = .ok (.aload_n 0, 1) := by decide +kernel
theorem dX0_solve_38 : decode cX0_solve 38 = .ok (.getfield 40, 3) := by decide +kernel
theorem dX0_solve_41 : decode cX0_solve 41 = .ok (.iconst 3, 1) := by decide +kernel
theorem dX0_solve_42 : decode cX0_solve 42 = .ok (.if_icmp .ge 23, 3) := by decide +kernel
theorem dX0_solve_45 : decode cX0_solve 45 = .ok (.aload_n 0, 1) := by decide +kernel
theorem dX0_solve_46 : decode cX0_solve 46 = .ok (.getfield 18, 3) := by decide +kernel
theorem dX0_solve_49 : decode cX0_solve 49 = .ok (.aload_n 0, 1) := by decide +kernel
theorem dX0_solve_50 : decode cX0_solve 50 = .ok (.getfield 40, 3) := by decide +kernel
theorem dX0_solve_53 : decode cX0_solve 53 = .ok (.iload_n 1, 1) := by decide +kernel
theorem dX0_solve_54 : decode cX0_solve 54 = .ok (.iastore, 1) := by decide +kernel
theorem dX0_solve_55 : decode cX0_solve 55 = .ok (.aload_n 0, 1) := by decide +kernel
theorem dX0_solve_56 : decode cX0_solve 56 = .ok (.dup, 1) := by decide +kernel
theorem dX0_solve_57 : decode cX0_solve 57 = .ok (.getfield 40, 3) := by decide +kernel
theorem dX0_solve_60 : decode cX0_solve 60 = .ok (.iconst 1, 1) := by decide +kernel
theorem dX0_solve_61 : decode cX0_solve 61 = .ok (.iadd, 1) := by decide +kernel
theorem dX0_solve_62 : decode cX0_solve 62 = .ok (.putfield 40, 3) := by decide +kernel
theorem dX0_solve_65 : decode cX0_solve 65 = .ok (.iinc 1 1, 3) := by decide +kernel
theorem dX0_solve_68 : decode cX0_solve 68 = .ok (.goto (-61), 3) := by decide +kernel
theorem dX0_solve_71 : decode cX0_solve 71 = .ok (.aload_n 0, 1) := by decide +kernel
theorem dX0_solve_72 : decode cX0_solve 72 = .ok (.getfield 25, 3) := by decide +kernel
theorem dX0_solve_75 : decode cX0_solve 75 = .ok (.aload_n 0, 1) := by decide +kernel
theorem dX0_solve_76 : decode cX0_solve 76 = .ok (.getfield 12, 3) := by decide +kernel
theorem dX0_solve_79 : decode cX0_solve 79 = .ok (.getfield 44, 3) := by decide +kernel
theorem dX0_solve_82 : decode cX0_solve 82 = .ok (.aload_n 0, 1) := by decide +kernel
theorem dX0_solve_83 : decode cX0_solve 83 = .ok (.getfield 40, 3) := by decide +kernel
theorem dX0_solve_86 : decode cX0_solve 86 = .ok (.invokevirtual 56, 3) := by decide +kernel
theorem dX0_solve_89 : decode cX0_solve 89 = .ok (.return_, 1) := by decide +kernel
theorem dX0_cases_0 : decode cX0_cases 0 = .ok (.getstatic 59, 3) := by decide +kernel
theorem dX0_cases_3 : decode cX0_cases 3 = .ok (.aload_n 0, 1) := by decide +kernel
theorem dX0_cases_4 : decode cX0_cases 4 = .ok (.getfield 40, 3) := by decide +kernel
theorem dX0_cases_7 : decode cX0_cases 7 = .ok (.iaload, 1) := by decide +kernel
theorem dX0_cases_8 : decode cX0_cases 8 = .ok (.ireturn, 1) := by decide +kernel
theorem dX0_settle_0 : decode cX0_settle 0 = .ok (.aload_n 0, 1) := by decide +kernel
theorem dX0_settle_1 : decode cX0_settle 1 = .ok (.aload_n 0, 1) := by decide +kernel
theorem dX0_settle_2 : decode cX0_settle 2 = .ok (.getfield 12, 3) := by decide +kernel
theorem dX0_settle_5 : decode cX0_settle 5 = .ok (.getfield 62, 3) := by decide +kernel
theorem dX0_settle_8 : decode cX0_settle 8 = .ok (.invokevirtual 65, 3) := by decide +kernel
theorem dX0_settle_11 : decode cX0_settle 11 = .ok (.ifCond .eq 12, 3) := by decide +kernel
theorem dX0_settle_14 : decode cX0_settle 14 = .ok (.aload_n 0, 1) := by decide +kernel
theorem dX0_settle_15 : decode cX0_settle 15 = .ok (.getfield 12, 3) := by decide +kernel
theorem dX0_settle_18 : decode cX0_settle 18 = .ok (.iconst 1, 1) := by decide +kernel
theorem dX0_settle_19 : decode cX0_settle 19 = .ok (.putfield 69, 3) := by decide +kernel
theorem dX0_settle_22 : decode cX0_settle 22 = .ok (.return_, 1) := by decide +kernel
theorem dX0_settle_23 : decode cX0_settle 23 = .ok (.iconst (-1), 1) := by decide +kernel
theorem dX0_settle_24 : decode cX0_settle 24 = .ok (.istore_n 1, 1) := by decide +kernel
theorem dX0_settle_25 : decode cX0_settle 25 = .ok (.iconst 4, 1) := by decide +kernel
theorem dX0_settle_26 : decode cX0_settle 26 = .ok (.istore_n 2, 1) := by decide +kernel
theorem dX0_settle_27 : decode cX0_settle 27 = .ok (.iconst 0, 1) := by decide +kernel
theorem dX0_settle_28 : decode cX0_settle 28 = .ok (.istore_n 3, 1) := by decide +kernel
theorem dX0_settle_29 : decode cX0_settle 29 = .ok (.iload_n 3, 1) := by decide +kernel
theorem dX0_settle_30 : decode cX0_settle 30 = .ok (.aload_n 0, 1) := by decide +kernel
theorem dX0_settle_31 : decode cX0_settle 31 = .ok (.invokevirtual 73, 3) := by decide +kernel
theorem dX0_settle_34 : decode cX0_settle 34 = .ok (.if_icmp .ge 35, 3) := by decide +kernel
theorem dX0_settle_37 : decode cX0_settle 37 = .ok (.aload_n 0, 1) := by decide +kernel
theorem dX0_settle_38 : decode cX0_settle 38 = .ok (.iload_n 3, 1) := by decide +kernel
theorem dX0_settle_39 : decode cX0_settle 39 = .ok (.invokevirtual 77, 3) := by decide +kernel
theorem dX0_settle_42 : decode cX0_settle 42 = .ok (.istore 4, 2) := by decide +kernel
theorem dX0_settle_44 : decode cX0_settle 44 = .ok (.iload 4, 2) := by decide +kernel
theorem dX0_settle_46 : decode cX0_settle 46 = .ok (.iload_n 2, 1) := by decide +kernel
theorem dX0_settle_47 : decode cX0_settle 47 = .ok (.if_icmp .ge 16, 3) := by decide +kernel
theorem dX0_settle_50 : decode cX0_settle 50 = .ok (.aload_n 0, 1) := by decide +kernel
theorem dX0_settle_51 : decode cX0_settle 51 = .ok (.iload_n 3, 1) := by decide +kernel
theorem dX0_settle_52 : decode cX0_settle 52 = .ok (.invokevirtual 65, 3) := by decide +kernel
theorem dX0_settle_55 : decode cX0_settle 55 = .ok (.ifCond .eq 8, 3) := by decide +kernel
theorem dX0_settle_58 : decode cX0_settle 58 = .ok (.iload_n 3, 1) := by decide +kernel
theorem dX0_settle_59 : decode cX0_settle 59 = .ok (.istore_n 1, 1) := by decide +kernel
theorem dX0_settle_60 : decode cX0_settle 60 = .ok (.iload 4, 2) := by decide +kernel
theorem dX0_settle_62 : decode cX0_settle 62 = .ok (.istore_n 2, 1) := by decide +kernel
theorem dX0_settle_63 : decode cX0_settle 63 = .ok (.iinc 3 1, 3) := by decide +kernel
theorem dX0_settle_66 : decode cX0_settle 66 = .ok (.goto (-37), 3) := by decide +kernel
theorem dX0_settle_69 : decode cX0_settle 69 = .ok (.aload_n 0, 1) := by decide +kernel
theorem dX0_settle_70 : decode cX0_settle 70 = .ok (.getfield 12, 3) := by decide +kernel
theorem dX0_settle_73 : decode cX0_settle 73 = .ok (.iload_n 1, 1) := by decide +kernel
theorem dX0_settle_74 : decode cX0_settle 74 = .ok (.iconst (-1), 1) := by decide +kernel
theorem dX0_settle_75 : decode cX0_settle 75 = .ok (.if_icmp .eq 7, 3) := by decide +kernel
theorem dX0_settle_78 : decode cX0_settle 78 = .ok (.iconst 1, 1) := by decide +kernel
theorem dX0_settle_79 : decode cX0_settle 79 = .ok (.goto 4, 3) := by decide +kernel
theorem dX0_settle_82 : decode cX0_settle 82 = .ok (.iconst 0, 1) := by decide +kernel
theorem dX0_settle_83 : decode cX0_settle 83 = .ok (.putfield 69, 3) := by decide +kernel
theorem dX0_settle_86 : decode cX0_settle 86 = .ok (.aload_n 0, 1) := by decide +kernel
theorem dX0_settle_87 : decode cX0_settle 87 = .ok (.getfield 12, 3) := by decide +kernel
theorem dX0_settle_90 : decode cX0_settle 90 = .ok (.getfield 69, 3) := by decide +kernel
theorem dX0_settle_93 : decode cX0_settle 93 = .ok (.ifCond .eq 11, 3) := by decide +kernel
theorem dX0_settle_96 : decode cX0_settle 96 = .ok (.aload_n 0, 1) := by decide +kernel
theorem dX0_settle_97 : decode cX0_settle 97 = .ok (.getfield 12, 3) := by decide +kernel
theorem dX0_settle_100 : decode cX0_settle 100 = .ok (.iload_n 1, 1) := by decide +kernel
theorem dX0_settle_101 : decode cX0_settle 101 = .ok (.putfield 62, 3) := by decide +kernel
theorem dX0_settle_104 : decode cX0_settle 104 = .ok (.return_, 1) := by decide +kernel
theorem dX0_changesTo_0 : decode cX0_changesTo 0 = .ok (.iconst 0, 1) := by decide +kernel
theorem dX0_changesTo_1 : decode cX0_changesTo 1 = .ok (.istore_n 2, 1) := by decide +kernel
theorem dX0_changesTo_2 : decode cX0_changesTo 2 = .ok (.iconst 0, 1) := by decide +kernel
theorem dX0_changesTo_3 : decode cX0_changesTo 3 = .ok (.istore_n 3, 1) := by decide +kernel
theorem dX0_changesTo_4 : decode cX0_changesTo 4 = .ok (.iload_n 3, 1) := by decide +kernel
theorem dX0_changesTo_5 : decode cX0_changesTo 5 = .ok (.aload_n 0, 1) := by decide +kernel
theorem dX0_changesTo_6 : decode cX0_changesTo 6 = .ok (.getfield 40, 3) := by decide +kernel
theorem dX0_changesTo_9 : decode cX0_changesTo 9 = .ok (.if_icmp .ge 31, 3) := by decide +kernel
theorem dX0_changesTo_12 : decode cX0_changesTo 12 = .ok (.iload_n 1, 1) := by decide +kernel
theorem dX0_changesTo_13 : decode cX0_changesTo 13 = .ok (.iload_n 3, 1) := by decide +kernel
theorem dX0_changesTo_14 : decode cX0_changesTo 14 = .ok (.invokestatic 81, 3) := by decide +kernel
theorem dX0_changesTo_17 : decode cX0_changesTo 17 = .ok (.aload_n 0, 1) := by decide +kernel
theorem dX0_changesTo_18 : decode cX0_changesTo 18 = .ok (.getfield 12, 3) := by decide +kernel
theorem dX0_changesTo_21 : decode cX0_changesTo 21 = .ok (.getfield 62, 3) := by decide +kernel
theorem dX0_changesTo_24 : decode cX0_changesTo 24 = .ok (.iload_n 3, 1) := by decide +kernel
theorem dX0_changesTo_25 : decode cX0_changesTo 25 = .ok (.invokestatic 81, 3) := by decide +kernel
theorem dX0_changesTo_28 : decode cX0_changesTo 28 = .ok (.if_icmp .eq 6, 3) := by decide +kernel
theorem dX0_changesTo_31 : decode cX0_changesTo 31 = .ok (.iinc 2 1, 3) := by decide +kernel
theorem dX0_changesTo_34 : decode cX0_changesTo 34 = .ok (.iinc 3 1, 3) := by decide +kernel
theorem dX0_changesTo_37 : decode cX0_changesTo 37 = .ok (.goto (-33), 3) := by decide +kernel
theorem dX0_changesTo_40 : decode cX0_changesTo 40 = .ok (.iload_n 2, 1) := by decide +kernel
theorem dX0_changesTo_41 : decode cX0_changesTo 41 = .ok (.ireturn, 1) := by decide +kernel
theorem dX0_isDetermined_0 : decode cX0_isDetermined 0 = .ok (.aload_n 0, 1) := by decide +kernel
theorem dX0_isDetermined_1 : decode cX0_isDetermined 1 = .ok (.getfield 25, 3) := by decide +kernel
theorem dX0_isDetermined_4 : decode cX0_isDetermined 4 = .ok (.getfield 85, 3) := by decide +kernel
theorem dX0_isDetermined_7 : decode cX0_isDetermined 7 = .ok (.aload_n 0, 1) := by decide +kernel
theorem dX0_isDetermined_8 : decode cX0_isDetermined 8 = .ok (.iload_n 1, 1) := by decide +kernel
theorem dX0_isDetermined_9 : decode cX0_isDetermined 9 = .ok (.invokevirtual 88, 3) := by decide +kernel
theorem dX0_isDetermined_12 : decode cX0_isDetermined 12 = .ok (.laload, 1) := by decide +kernel
theorem dX0_isDetermined_13 : decode cX0_isDetermined 13 = .ok (.lconst 0, 1) := by decide +kernel
theorem dX0_isDetermined_14 : decode cX0_isDetermined 14 = .ok (.lcmp, 1) := by decide +kernel
theorem dX0_isDetermined_15 : decode cX0_isDetermined 15 = .ok (.ifCond .eq 7, 3) := by decide +kernel
theorem dX0_isDetermined_18 : decode cX0_isDetermined 18 = .ok (.iconst 1, 1) := by decide +kernel
theorem dX0_isDetermined_19 : decode cX0_isDetermined 19 = .ok (.goto 4, 3) := by decide +kernel
theorem dX0_isDetermined_22 : decode cX0_isDetermined 22 = .ok (.iconst 0, 1) := by decide +kernel
theorem dX0_isDetermined_23 : decode cX0_isDetermined 23 = .ok (.ireturn, 1) := by decide +kernel
theorem dX0_saturatedIn_0 : decode cX0_saturatedIn 0 = .ok (.iconst 0, 1) := by decide +kernel
theorem dX0_saturatedIn_1 : decode cX0_saturatedIn 1 = .ok (.istore_n 2, 1) := by decide +kernel
theorem dX0_saturatedIn_2 : decode cX0_saturatedIn 2 = .ok (.iconst 0, 1) := by decide +kernel
theorem dX0_saturatedIn_3 : decode cX0_saturatedIn 3 = .ok (.istore_n 3, 1) := by decide +kernel
theorem dX0_saturatedIn_4 : decode cX0_saturatedIn 4 = .ok (.iload_n 3, 1) := by decide +kernel
theorem dX0_saturatedIn_5 : decode cX0_saturatedIn 5 = .ok (.aload_n 0, 1) := by decide +kernel
theorem dX0_saturatedIn_6 : decode cX0_saturatedIn 6 = .ok (.getfield 40, 3) := by decide +kernel
theorem dX0_saturatedIn_9 : decode cX0_saturatedIn 9 = .ok (.if_icmp .ge 23, 3) := by decide +kernel
theorem dX0_saturatedIn_12 : decode cX0_saturatedIn 12 = .ok (.iload_n 1, 1) := by decide +kernel
theorem dX0_saturatedIn_13 : decode cX0_saturatedIn 13 = .ok (.iload_n 3, 1) := by decide +kernel
theorem dX0_saturatedIn_14 : decode cX0_saturatedIn 14 = .ok (.invokestatic 81, 3) := by decide +kernel
theorem dX0_saturatedIn_17 : decode cX0_saturatedIn 17 = .ok (.ifCond .eq 9, 3) := by decide +kernel
theorem dX0_saturatedIn_20 : decode cX0_saturatedIn 20 = .ok (.iload_n 2, 1) := by decide +kernel
theorem dX0_saturatedIn_21 : decode cX0_saturatedIn 21 = .ok (.iconst 1, 1) := by decide +kernel
theorem dX0_saturatedIn_22 : decode cX0_saturatedIn 22 = .ok (.iload_n 3, 1) := by decide +kernel
theorem dX0_saturatedIn_23 : decode cX0_saturatedIn 23 = .ok (.ishl, 1) := by decide +kernel
theorem dX0_saturatedIn_24 : decode cX0_saturatedIn 24 = .ok (.ior, 1) := by decide +kernel
theorem dX0_saturatedIn_25 : decode cX0_saturatedIn 25 = .ok (.istore_n 2, 1) := by decide +kernel
theorem dX0_saturatedIn_26 : decode cX0_saturatedIn 26 = .ok (.iinc 3 1, 3) := by decide +kernel
theorem dX0_saturatedIn_29 : decode cX0_saturatedIn 29 = .ok (.goto (-25), 3) := by decide +kernel
theorem dX0_saturatedIn_32 : decode cX0_saturatedIn 32 = .ok (.iload_n 2, 1) := by decide +kernel
theorem dX0_saturatedIn_33 : decode cX0_saturatedIn 33 = .ok (.ireturn, 1) := by decide +kernel
theorem dX0_choose_0 : decode cX0_choose 0 = .ok (.aload_n 0, 1) := by decide +kernel
theorem dX0_choose_1 : decode cX0_choose 1 = .ok (.aload_n 0, 1) := by decide +kernel
theorem dX0_choose_2 : decode cX0_choose 2 = .ok (.iload_n 1, 1) := by decide +kernel
theorem dX0_choose_3 : decode cX0_choose 3 = .ok (.invokevirtual 88, 3) := by decide +kernel
theorem dX0_choose_6 : decode cX0_choose 6 = .ok (.putfield 91, 3) := by decide +kernel
theorem dX0_choose_9 : decode cX0_choose 9 = .ok (.aload_n 0, 1) := by decide +kernel
theorem dX0_choose_10 : decode cX0_choose 10 = .ok (.getfield 29, 3) := by decide +kernel
theorem dX0_choose_13 : decode cX0_choose 13 = .ok (.lconst 0, 1) := by decide +kernel
theorem dX0_choose_14 : decode cX0_choose 14 = .ok (.invokestatic 94, 3) := by decide +kernel
theorem dX0_choose_17 : decode cX0_choose 17 = .ok (.aload_n 0, 1) := by decide +kernel
theorem dX0_choose_18 : decode cX0_choose 18 = .ok (.getfield 12, 3) := by decide +kernel
theorem dX0_choose_21 : decode cX0_choose 21 = .ok (.getfield 44, 3) := by decide +kernel
theorem dX0_choose_24 : decode cX0_choose 24 = .ok (.astore_n 2, 1) := by decide +kernel
theorem dX0_choose_25 : decode cX0_choose 25 = .ok (.iconst 0, 1) := by decide +kernel
theorem dX0_choose_26 : decode cX0_choose 26 = .ok (.istore_n 3, 1) := by decide +kernel
theorem dX0_choose_27 : decode cX0_choose 27 = .ok (.iload_n 3, 1) := by decide +kernel
theorem dX0_choose_28 : decode cX0_choose 28 = .ok (.aload_n 2, 1) := by decide +kernel
theorem dX0_choose_29 : decode cX0_choose 29 = .ok (.getfield 48, 3) := by decide +kernel
theorem dX0_choose_32 : decode cX0_choose 32 = .ok (.if_icmp .ge 37, 3) := by decide +kernel
theorem dX0_choose_35 : decode cX0_choose 35 = .ok (.aload_n 2, 1) := by decide +kernel
theorem dX0_choose_36 : decode cX0_choose 36 = .ok (.getfield 53, 3) := by decide +kernel
theorem dX0_choose_39 : decode cX0_choose 39 = .ok (.iload_n 3, 1) := by decide +kernel
theorem dX0_choose_40 : decode cX0_choose 40 = .ok (.iaload, 1) := by decide +kernel
theorem dX0_choose_41 : decode cX0_choose 41 = .ok (.iconst 1, 1) := by decide +kernel
theorem dX0_choose_42 : decode cX0_choose 42 = .ok (.if_icmp .ne 21, 3) := by decide +kernel
theorem dX0_choose_45 : decode cX0_choose 45 = .ok (.aload_n 0, 1) := by decide +kernel
theorem dX0_choose_46 : decode cX0_choose 46 = .ok (.getfield 29, 3) := by decide +kernel
theorem dX0_choose_49 : decode cX0_choose 49 = .ok (.aload_n 2, 1) := by decide +kernel
theorem dX0_choose_50 : decode cX0_choose 50 = .ok (.getfield 100, 3) := by decide +kernel
theorem dX0_choose_53 : decode cX0_choose 53 = .ok (.iload_n 3, 1) := by decide +kernel
theorem dX0_choose_54 : decode cX0_choose 54 = .ok (.iaload, 1) := by decide +kernel
theorem dX0_choose_55 : decode cX0_choose 55 = .ok (.aload_n 2, 1) := by decide +kernel
theorem dX0_choose_56 : decode cX0_choose 56 = .ok (.getfield 103, 3) := by decide +kernel
theorem dX0_choose_59 : decode cX0_choose 59 = .ok (.iload_n 3, 1) := by decide +kernel
theorem dX0_choose_60 : decode cX0_choose 60 = .ok (.iaload, 1) := by decide +kernel
theorem dX0_choose_61 : decode cX0_choose 61 = .ok (.i2l, 1) := by decide +kernel
theorem dX0_choose_62 : decode cX0_choose 62 = .ok (.lastore, 1) := by decide +kernel
theorem dX0_choose_63 : decode cX0_choose 63 = .ok (.iinc 3 1, 3) := by decide +kernel
theorem dX0_choose_66 : decode cX0_choose 66 = .ok (.goto (-39), 3) := by decide +kernel
theorem dX0_choose_69 : decode cX0_choose 69 = .ok (.iconst 0, 1) := by decide +kernel
theorem dX0_choose_70 : decode cX0_choose 70 = .ok (.istore_n 3, 1) := by decide +kernel
theorem dX0_choose_71 : decode cX0_choose 71 = .ok (.iload_n 3, 1) := by decide +kernel
theorem dX0_choose_72 : decode cX0_choose 72 = .ok (.aload_n 0, 1) := by decide +kernel
theorem dX0_choose_73 : decode cX0_choose 73 = .ok (.getfield 40, 3) := by decide +kernel
theorem dX0_choose_76 : decode cX0_choose 76 = .ok (.if_icmp .ge 75, 3) := by decide +kernel
theorem dX0_choose_79 : decode cX0_choose 79 = .ok (.aload_n 2, 1) := by decide +kernel
theorem dX0_choose_80 : decode cX0_choose 80 = .ok (.getfield 103, 3) := by decide +kernel
theorem dX0_choose_83 : decode cX0_choose 83 = .ok (.aload_n 0, 1) := by decide +kernel
theorem dX0_choose_84 : decode cX0_choose 84 = .ok (.getfield 18, 3) := by decide +kernel
theorem dX0_choose_87 : decode cX0_choose 87 = .ok (.iload_n 3, 1) := by decide +kernel
theorem dX0_choose_88 : decode cX0_choose 88 = .ok (.iaload, 1) := by decide +kernel
theorem dX0_choose_89 : decode cX0_choose 89 = .ok (.iaload, 1) := by decide +kernel
theorem dX0_choose_90 : decode cX0_choose 90 = .ok (.istore 4, 2) := by decide +kernel
theorem dX0_choose_92 : decode cX0_choose 92 = .ok (.iload_n 1, 1) := by decide +kernel
theorem dX0_choose_93 : decode cX0_choose 93 = .ok (.iload_n 3, 1) := by decide +kernel
theorem dX0_choose_94 : decode cX0_choose 94 = .ok (.invokestatic 81, 3) := by decide +kernel
theorem dX0_choose_97 : decode cX0_choose 97 = .ok (.istore 5, 2) := by decide +kernel
theorem dX0_choose_99 : decode cX0_choose 99 = .ok (.iload 5, 2) := by decide +kernel
theorem dX0_choose_101 : decode cX0_choose 101 = .ok (.iconst 1, 1) := by decide +kernel
theorem dX0_choose_102 : decode cX0_choose 102 = .ok (.if_icmp .ne 21, 3) := by decide +kernel
theorem dX0_choose_105 : decode cX0_choose 105 = .ok (.aload_n 0, 1) := by decide +kernel
theorem dX0_choose_106 : decode cX0_choose 106 = .ok (.getfield 29, 3) := by decide +kernel
theorem dX0_choose_109 : decode cX0_choose 109 = .ok (.iload 4, 2) := by decide +kernel
theorem dX0_choose_111 : decode cX0_choose 111 = .ok (.aload_n 0, 1) := by decide +kernel
theorem dX0_choose_112 : decode cX0_choose 112 = .ok (.getfield 12, 3) := by decide +kernel
theorem dX0_choose_115 : decode cX0_choose 115 = .ok (.getfield 106, 3) := by decide +kernel
theorem dX0_choose_118 : decode cX0_choose 118 = .ok (.i2l, 1) := by decide +kernel
theorem dX0_choose_119 : decode cX0_choose 119 = .ok (.lastore, 1) := by decide +kernel
theorem dX0_choose_120 : decode cX0_choose 120 = .ok (.goto 25, 3) := by decide +kernel
theorem dX0_choose_123 : decode cX0_choose 123 = .ok (.iload 5, 2) := by decide +kernel
theorem dX0_choose_125 : decode cX0_choose 125 = .ok (.iconst 2, 1) := by decide +kernel
theorem dX0_choose_126 : decode cX0_choose 126 = .ok (.if_icmp .ne 19, 3) := by decide +kernel
theorem dX0_choose_129 : decode cX0_choose 129 = .ok (.aload_n 0, 1) := by decide +kernel
theorem dX0_choose_130 : decode cX0_choose 130 = .ok (.getfield 29, 3) := by decide +kernel
theorem dX0_choose_133 : decode cX0_choose 133 = .ok (.iload 4, 2) := by decide +kernel
theorem dX0_choose_135 : decode cX0_choose 135 = .ok (.aload_n 0, 1) := by decide +kernel
theorem dX0_choose_136 : decode cX0_choose 136 = .ok (.getfield 12, 3) := by decide +kernel
theorem dX0_choose_139 : decode cX0_choose 139 = .ok (.getfield 106, 3) := by decide +kernel
theorem dX0_choose_142 : decode cX0_choose 142 = .ok (.ineg, 1) := by decide +kernel
theorem dX0_choose_143 : decode cX0_choose 143 = .ok (.i2l, 1) := by decide +kernel
theorem dX0_choose_144 : decode cX0_choose 144 = .ok (.lastore, 1) := by decide +kernel
theorem dX0_choose_145 : decode cX0_choose 145 = .ok (.iinc 3 1, 3) := by decide +kernel
theorem dX0_choose_148 : decode cX0_choose 148 = .ok (.goto (-77), 3) := by decide +kernel
theorem dX0_choose_151 : decode cX0_choose 151 = .ok (.return_, 1) := by decide +kernel
theorem dX0_denominator_0 : decode cX0_denominator 0 = .ok (.aload_n 0, 1) := by decide +kernel
theorem dX0_denominator_1 : decode cX0_denominator 1 = .ok (.getfield 25, 3) := by decide +kernel
theorem dX0_denominator_4 : decode cX0_denominator 4 = .ok (.getfield 85, 3) := by decide +kernel
theorem dX0_denominator_7 : decode cX0_denominator 7 = .ok (.aload_n 0, 1) := by decide +kernel
theorem dX0_denominator_8 : decode cX0_denominator 8 = .ok (.getfield 91, 3) := by decide +kernel
theorem dX0_denominator_11 : decode cX0_denominator 11 = .ok (.laload, 1) := by decide +kernel
theorem dX0_denominator_12 : decode cX0_denominator 12 = .ok (.lreturn, 1) := by decide +kernel
theorem dX0_numerator_0 : decode cX0_numerator 0 = .ok (.aload_n 0, 1) := by decide +kernel
theorem dX0_numerator_1 : decode cX0_numerator 1 = .ok (.getfield 25, 3) := by decide +kernel
theorem dX0_numerator_4 : decode cX0_numerator 4 = .ok (.getfield 109, 3) := by decide +kernel
theorem dX0_numerator_7 : decode cX0_numerator 7 = .ok (.aload_n 0, 1) := by decide +kernel
theorem dX0_numerator_8 : decode cX0_numerator 8 = .ok (.getfield 91, 3) := by decide +kernel
theorem dX0_numerator_11 : decode cX0_numerator 11 = .ok (.aaload, 1) := by decide +kernel
theorem dX0_numerator_12 : decode cX0_numerator 12 = .ok (.astore_n 2, 1) := by decide +kernel
theorem dX0_numerator_13 : decode cX0_numerator 13 = .ok (.lconst 0, 1) := by decide +kernel
theorem dX0_numerator_14 : decode cX0_numerator 14 = .ok (.lstore_n 3, 1) := by decide +kernel
theorem dX0_numerator_15 : decode cX0_numerator 15 = .ok (.iconst 0, 1) := by decide +kernel
theorem dX0_numerator_16 : decode cX0_numerator 16 = .ok (.istore 5, 2) := by decide +kernel
theorem dX0_numerator_18 : decode cX0_numerator 18 = .ok (.iload 5, 2) := by decide +kernel
theorem dX0_numerator_20 : decode cX0_numerator 20 = .ok (.bipush 7, 2) := by decide +kernel
theorem dX0_numerator_22 : decode cX0_numerator 22 = .ok (.if_icmp .ge 29, 3) := by decide +kernel
theorem dX0_numerator_25 : decode cX0_numerator 25 = .ok (.lload_n 3, 1) := by decide +kernel
theorem dX0_numerator_26 : decode cX0_numerator 26 = .ok (.aload_n 2, 1) := by decide +kernel
theorem dX0_numerator_27 : decode cX0_numerator 27 = .ok (.bipush 7, 2) := by decide +kernel
theorem dX0_numerator_29 : decode cX0_numerator 29 = .ok (.iload_n 1, 1) := by decide +kernel
theorem dX0_numerator_30 : decode cX0_numerator 30 = .ok (.imul, 1) := by decide +kernel
theorem dX0_numerator_31 : decode cX0_numerator 31 = .ok (.iload 5, 2) := by decide +kernel
theorem dX0_numerator_33 : decode cX0_numerator 33 = .ok (.iadd, 1) := by decide +kernel
theorem dX0_numerator_34 : decode cX0_numerator 34 = .ok (.laload, 1) := by decide +kernel
theorem dX0_numerator_35 : decode cX0_numerator 35 = .ok (.aload_n 0, 1) := by decide +kernel
theorem dX0_numerator_36 : decode cX0_numerator 36 = .ok (.getfield 29, 3) := by decide +kernel
theorem dX0_numerator_39 : decode cX0_numerator 39 = .ok (.iload 5, 2) := by decide +kernel
theorem dX0_numerator_41 : decode cX0_numerator 41 = .ok (.laload, 1) := by decide +kernel
theorem dX0_numerator_42 : decode cX0_numerator 42 = .ok (.lmul, 1) := by decide +kernel
theorem dX0_numerator_43 : decode cX0_numerator 43 = .ok (.ladd, 1) := by decide +kernel
theorem dX0_numerator_44 : decode cX0_numerator 44 = .ok (.lstore_n 3, 1) := by decide +kernel
theorem dX0_numerator_45 : decode cX0_numerator 45 = .ok (.iinc 5 1, 3) := by decide +kernel
theorem dX0_numerator_48 : decode cX0_numerator 48 = .ok (.goto (-30), 3) := by decide +kernel
theorem dX0_numerator_51 : decode cX0_numerator 51 = .ok (.lload_n 3, 1) := by decide +kernel
theorem dX0_numerator_52 : decode cX0_numerator 52 = .ok (.lreturn, 1) := by decide +kernel
theorem dX0_nodeVoltage_0 : decode cX0_nodeVoltage 0 = .ok (.iload_n 2, 1) := by decide +kernel
theorem dX0_nodeVoltage_1 : decode cX0_nodeVoltage 1 = .ok (.ifCond .eq 20, 3) := by decide +kernel
theorem dX0_nodeVoltage_4 : decode cX0_nodeVoltage 4 = .ok (.aload_n 0, 1) := by decide +kernel
theorem dX0_nodeVoltage_5 : decode cX0_nodeVoltage 5 = .ok (.getfield 12, 3) := by decide +kernel
theorem dX0_nodeVoltage_8 : decode cX0_nodeVoltage 8 = .ok (.getfield 44, 3) := by decide +kernel
theorem dX0_nodeVoltage_11 : decode cX0_nodeVoltage 11 = .ok (.invokevirtual 113, 3) := by decide +kernel
theorem dX0_nodeVoltage_14 : decode cX0_nodeVoltage 14 = .ok (.iload_n 2, 1) := by decide +kernel
theorem dX0_nodeVoltage_15 : decode cX0_nodeVoltage 15 = .ok (.invokestatic 116, 3) := by decide +kernel
theorem dX0_nodeVoltage_18 : decode cX0_nodeVoltage 18 = .ok (.ifCond .eq 7, 3) := by decide +kernel
theorem dX0_nodeVoltage_21 : decode cX0_nodeVoltage 21 = .ok (.iconst 1, 1) := by decide +kernel
theorem dX0_nodeVoltage_22 : decode cX0_nodeVoltage 22 = .ok (.goto 4, 3) := by decide +kernel
theorem dX0_nodeVoltage_25 : decode cX0_nodeVoltage 25 = .ok (.iconst 0, 1) := by decide +kernel
theorem dX0_nodeVoltage_26 : decode cX0_nodeVoltage 26 = .ok (.istore 4, 2) := by decide +kernel
theorem dX0_nodeVoltage_28 : decode cX0_nodeVoltage 28 = .ok (.iload 4, 2) := by decide +kernel
theorem dX0_nodeVoltage_30 : decode cX0_nodeVoltage 30 = .ok (.ifCond .eq 11, 3) := by decide +kernel
theorem dX0_nodeVoltage_33 : decode cX0_nodeVoltage 33 = .ok (.aload_n 0, 1) := by decide +kernel
theorem dX0_nodeVoltage_34 : decode cX0_nodeVoltage 34 = .ok (.iload_n 1, 1) := by decide +kernel
theorem dX0_nodeVoltage_35 : decode cX0_nodeVoltage 35 = .ok (.invokevirtual 120, 3) := by decide +kernel
theorem dX0_nodeVoltage_38 : decode cX0_nodeVoltage 38 = .ok (.ifCond .ne 5, 3) := by decide +kernel
theorem dX0_nodeVoltage_41 : decode cX0_nodeVoltage 41 = .ok (.lconst 0, 1) := by decide +kernel
theorem dX0_nodeVoltage_42 : decode cX0_nodeVoltage 42 = .ok (.lreturn, 1) := by decide +kernel
theorem dX0_nodeVoltage_43 : decode cX0_nodeVoltage 43 = .ok (.aload_n 0, 1) := by decide +kernel
theorem dX0_nodeVoltage_44 : decode cX0_nodeVoltage 44 = .ok (.iload_n 1, 1) := by decide +kernel
theorem dX0_nodeVoltage_45 : decode cX0_nodeVoltage 45 = .ok (.invokevirtual 123, 3) := by decide +kernel
theorem dX0_nodeVoltage_48 : decode cX0_nodeVoltage 48 = .ok (.aload_n 0, 1) := by decide +kernel
theorem dX0_nodeVoltage_49 : decode cX0_nodeVoltage 49 = .ok (.iload_n 2, 1) := by decide +kernel
theorem dX0_nodeVoltage_50 : decode cX0_nodeVoltage 50 = .ok (.invokevirtual 127, 3) := by decide +kernel
theorem dX0_nodeVoltage_53 : decode cX0_nodeVoltage 53 = .ok (.aload_n 0, 1) := by decide +kernel
theorem dX0_nodeVoltage_54 : decode cX0_nodeVoltage 54 = .ok (.invokevirtual 130, 3) := by decide +kernel
theorem dX0_nodeVoltage_57 : decode cX0_nodeVoltage 57 = .ok (.iload_n 3, 1) := by decide +kernel
theorem dX0_nodeVoltage_58 : decode cX0_nodeVoltage 58 = .ok (.invokestatic 133, 3) := by decide +kernel
theorem dX0_nodeVoltage_61 : decode cX0_nodeVoltage 61 = .ok (.lreturn, 1) := by decide +kernel
theorem dX0_inputSign_0 : decode cX0_inputSign 0 = .ok (.aload_n 0, 1) := by decide +kernel
theorem dX0_inputSign_1 : decode cX0_inputSign 1 = .ok (.aload_n 0, 1) := by decide +kernel
theorem dX0_inputSign_2 : decode cX0_inputSign 2 = .ok (.getfield 12, 3) := by decide +kernel
theorem dX0_inputSign_5 : decode cX0_inputSign 5 = .ok (.getfield 62, 3) := by decide +kernel
theorem dX0_inputSign_8 : decode cX0_inputSign 8 = .ok (.invokevirtual 123, 3) := by decide +kernel
theorem dX0_inputSign_11 : decode cX0_inputSign 11 = .ok (.aload_n 0, 1) := by decide +kernel
theorem dX0_inputSign_12 : decode cX0_inputSign 12 = .ok (.aload_n 0, 1) := by decide +kernel
theorem dX0_inputSign_13 : decode cX0_inputSign 13 = .ok (.getfield 18, 3) := by decide +kernel
theorem dX0_inputSign_16 : decode cX0_inputSign 16 = .ok (.iload_n 1, 1) := by decide +kernel
theorem dX0_inputSign_17 : decode cX0_inputSign 17 = .ok (.iaload, 1) := by decide +kernel
theorem dX0_inputSign_18 : decode cX0_inputSign 18 = .ok (.invokevirtual 137, 3) := by decide +kernel
theorem dX0_inputSign_21 : decode cX0_inputSign 21 = .ok (.ireturn, 1) := by decide +kernel
theorem dX0_signOfInput_0 : decode cX0_signOfInput 0 = .ok (.aload_n 0, 1) := by decide +kernel
theorem dX0_signOfInput_1 : decode cX0_signOfInput 1 = .ok (.aload_n 0, 1) := by decide +kernel
theorem dX0_signOfInput_2 : decode cX0_signOfInput 2 = .ok (.getfield 12, 3) := by decide +kernel
theorem dX0_signOfInput_5 : decode cX0_signOfInput 5 = .ok (.getfield 44, 3) := by decide +kernel
theorem dX0_signOfInput_8 : decode cX0_signOfInput 8 = .ok (.getfield 100, 3) := by decide +kernel
theorem dX0_signOfInput_11 : decode cX0_signOfInput 11 = .ok (.iload_n 1, 1) := by decide +kernel
theorem dX0_signOfInput_12 : decode cX0_signOfInput 12 = .ok (.iaload, 1) := by decide +kernel
theorem dX0_signOfInput_13 : decode cX0_signOfInput 13 = .ok (.invokevirtual 127, 3) := by decide +kernel
theorem dX0_signOfInput_16 : decode cX0_signOfInput 16 = .ok (.aload_n 0, 1) := by decide +kernel
theorem dX0_signOfInput_17 : decode cX0_signOfInput 17 = .ok (.aload_n 0, 1) := by decide +kernel
theorem dX0_signOfInput_18 : decode cX0_signOfInput 18 = .ok (.getfield 12, 3) := by decide +kernel
theorem dX0_signOfInput_21 : decode cX0_signOfInput 21 = .ok (.getfield 44, 3) := by decide +kernel
theorem dX0_signOfInput_24 : decode cX0_signOfInput 24 = .ok (.getfield 140, 3) := by decide +kernel
theorem dX0_signOfInput_27 : decode cX0_signOfInput 27 = .ok (.iload_n 1, 1) := by decide +kernel
theorem dX0_signOfInput_28 : decode cX0_signOfInput 28 = .ok (.iaload, 1) := by decide +kernel
theorem dX0_signOfInput_29 : decode cX0_signOfInput 29 = .ok (.invokevirtual 127, 3) := by decide +kernel
theorem dX0_signOfInput_32 : decode cX0_signOfInput 32 = .ok (.invokestatic 143, 3) := by decide +kernel
theorem dX0_signOfInput_35 : decode cX0_signOfInput 35 = .ok (.ireturn, 1) := by decide +kernel
theorem dX0_holds_0 : decode cX0_holds 0 = .ok (.aload_n 0, 1) := by decide +kernel
theorem dX0_holds_1 : decode cX0_holds 1 = .ok (.iload_n 1, 1) := by decide +kernel
theorem dX0_holds_2 : decode cX0_holds 2 = .ok (.invokevirtual 149, 3) := by decide +kernel
theorem dX0_holds_5 : decode cX0_holds 5 = .ok (.aload_n 0, 1) := by decide +kernel
theorem dX0_holds_6 : decode cX0_holds 6 = .ok (.getfield 152, 3) := by decide +kernel
theorem dX0_holds_9 : decode cX0_holds 9 = .ok (.ifCond .ne 7, 3) := by decide +kernel
theorem dX0_holds_12 : decode cX0_holds 12 = .ok (.iconst 1, 1) := by decide +kernel
theorem dX0_holds_13 : decode cX0_holds 13 = .ok (.goto 4, 3) := by decide +kernel
theorem dX0_holds_16 : decode cX0_holds 16 = .ok (.iconst 0, 1) := by decide +kernel
theorem dX0_holds_17 : decode cX0_holds 17 = .ok (.ireturn, 1) := by decide +kernel
theorem dX0_judge_0 : decode cX0_judge 0 = .ok (.aload_n 0, 1) := by decide +kernel
theorem dX0_judge_1 : decode cX0_judge 1 = .ok (.iconst (-1), 1) := by decide +kernel
theorem dX0_judge_2 : decode cX0_judge 2 = .ok (.putfield 155, 3) := by decide +kernel
theorem dX0_judge_5 : decode cX0_judge 5 = .ok (.aload_n 0, 1) := by decide +kernel
theorem dX0_judge_6 : decode cX0_judge 6 = .ok (.iload_n 1, 1) := by decide +kernel
theorem dX0_judge_7 : decode cX0_judge 7 = .ok (.invokevirtual 120, 3) := by decide +kernel
theorem dX0_judge_10 : decode cX0_judge 10 = .ok (.ifCond .ne 9, 3) := by decide +kernel
theorem dX0_judge_13 : decode cX0_judge 13 = .ok (.aload_n 0, 1) := by decide +kernel
theorem dX0_judge_14 : decode cX0_judge 14 = .ok (.iconst 1, 1) := by decide +kernel
theorem dX0_judge_15 : decode cX0_judge 15 = .ok (.putfield 152, 3) := by decide +kernel
theorem dX0_judge_18 : decode cX0_judge 18 = .ok (.return_, 1) := by decide +kernel
theorem dX0_judge_19 : decode cX0_judge 19 = .ok (.aload_n 0, 1) := by decide +kernel
theorem dX0_judge_20 : decode cX0_judge 20 = .ok (.iload_n 1, 1) := by decide +kernel
theorem dX0_judge_21 : decode cX0_judge 21 = .ok (.invokevirtual 123, 3) := by decide +kernel
theorem dX0_judge_24 : decode cX0_judge 24 = .ok (.iconst 0, 1) := by decide +kernel
theorem dX0_judge_25 : decode cX0_judge 25 = .ok (.istore_n 2, 1) := by decide +kernel
theorem dX0_judge_26 : decode cX0_judge 26 = .ok (.iload_n 2, 1) := by decide +kernel
theorem dX0_judge_27 : decode cX0_judge 27 = .ok (.aload_n 0, 1) := by decide +kernel
theorem dX0_judge_28 : decode cX0_judge 28 = .ok (.getfield 40, 3) := by decide +kernel
theorem dX0_judge_31 : decode cX0_judge 31 = .ok (.if_icmp .ge 36, 3) := by decide +kernel
theorem dX0_judge_34 : decode cX0_judge 34 = .ok (.aload_n 0, 1) := by decide +kernel
theorem dX0_judge_35 : decode cX0_judge 35 = .ok (.aload_n 0, 1) := by decide +kernel
theorem dX0_judge_36 : decode cX0_judge 36 = .ok (.iload_n 2, 1) := by decide +kernel
theorem dX0_judge_37 : decode cX0_judge 37 = .ok (.iload_n 1, 1) := by decide +kernel
theorem dX0_judge_38 : decode cX0_judge 38 = .ok (.iload_n 2, 1) := by decide +kernel
theorem dX0_judge_39 : decode cX0_judge 39 = .ok (.invokestatic 81, 3) := by decide +kernel
theorem dX0_judge_42 : decode cX0_judge 42 = .ok (.invokevirtual 158, 3) := by decide +kernel
theorem dX0_judge_45 : decode cX0_judge 45 = .ok (.putfield 152, 3) := by decide +kernel
theorem dX0_judge_48 : decode cX0_judge 48 = .ok (.aload_n 0, 1) := by decide +kernel
theorem dX0_judge_49 : decode cX0_judge 49 = .ok (.getfield 152, 3) := by decide +kernel
theorem dX0_judge_52 : decode cX0_judge 52 = .ok (.ifCond .eq 9, 3) := by decide +kernel
theorem dX0_judge_55 : decode cX0_judge 55 = .ok (.aload_n 0, 1) := by decide +kernel
theorem dX0_judge_56 : decode cX0_judge 56 = .ok (.iload_n 2, 1) := by decide +kernel
theorem dX0_judge_57 : decode cX0_judge 57 = .ok (.putfield 155, 3) := by decide +kernel
theorem dX0_judge_60 : decode cX0_judge 60 = .ok (.return_, 1) := by decide +kernel
theorem dX0_judge_61 : decode cX0_judge 61 = .ok (.iinc 2 1, 3) := by decide +kernel
theorem dX0_judge_64 : decode cX0_judge 64 = .ok (.goto (-38), 3) := by decide +kernel
theorem dX0_judge_67 : decode cX0_judge 67 = .ok (.aload_n 0, 1) := by decide +kernel
theorem dX0_judge_68 : decode cX0_judge 68 = .ok (.iconst 0, 1) := by decide +kernel
theorem dX0_judge_69 : decode cX0_judge 69 = .ok (.putfield 152, 3) := by decide +kernel
theorem dX0_judge_72 : decode cX0_judge 72 = .ok (.return_, 1) := by decide +kernel
theorem dX0_faultOf_0 : decode cX0_faultOf 0 = .ok (.aload_n 0, 1) := by decide +kernel
theorem dX0_faultOf_1 : decode cX0_faultOf 1 = .ok (.getfield 18, 3) := by decide +kernel
theorem dX0_faultOf_4 : decode cX0_faultOf 4 = .ok (.iload_n 1, 1) := by decide +kernel
theorem dX0_faultOf_5 : decode cX0_faultOf 5 = .ok (.iaload, 1) := by decide +kernel
theorem dX0_faultOf_6 : decode cX0_faultOf 6 = .ok (.istore_n 3, 1) := by decide +kernel
theorem dX0_faultOf_7 : decode cX0_faultOf 7 = .ok (.iload_n 2, 1) := by decide +kernel
theorem dX0_faultOf_8 : decode cX0_faultOf 8 = .ok (.iconst 1, 1) := by decide +kernel
theorem dX0_faultOf_9 : decode cX0_faultOf 9 = .ok (.if_icmp .ne 17, 3) := by decide +kernel
theorem dX0_faultOf_12 : decode cX0_faultOf 12 = .ok (.aload_n 0, 1) := by decide +kernel
theorem dX0_faultOf_13 : decode cX0_faultOf 13 = .ok (.iload_n 3, 1) := by decide +kernel
theorem dX0_faultOf_14 : decode cX0_faultOf 14 = .ok (.invokevirtual 137, 3) := by decide +kernel
theorem dX0_faultOf_17 : decode cX0_faultOf 17 = .ok (.ifCond .le 7, 3) := by decide +kernel
theorem dX0_faultOf_20 : decode cX0_faultOf 20 = .ok (.iconst 0, 1) := by decide +kernel
theorem dX0_faultOf_21 : decode cX0_faultOf 21 = .ok (.goto 4, 3) := by decide +kernel
theorem dX0_faultOf_24 : decode cX0_faultOf 24 = .ok (.iconst 3, 1) := by decide +kernel
theorem dX0_faultOf_25 : decode cX0_faultOf 25 = .ok (.ireturn, 1) := by decide +kernel
theorem dX0_faultOf_26 : decode cX0_faultOf 26 = .ok (.iload_n 2, 1) := by decide +kernel
theorem dX0_faultOf_27 : decode cX0_faultOf 27 = .ok (.iconst 2, 1) := by decide +kernel
theorem dX0_faultOf_28 : decode cX0_faultOf 28 = .ok (.if_icmp .ne 17, 3) := by decide +kernel
theorem dX0_faultOf_31 : decode cX0_faultOf 31 = .ok (.aload_n 0, 1) := by decide +kernel
theorem dX0_faultOf_32 : decode cX0_faultOf 32 = .ok (.iload_n 3, 1) := by decide +kernel
theorem dX0_faultOf_33 : decode cX0_faultOf 33 = .ok (.invokevirtual 137, 3) := by decide +kernel
theorem dX0_faultOf_36 : decode cX0_faultOf 36 = .ok (.ifCond .ge 7, 3) := by decide +kernel
theorem dX0_faultOf_39 : decode cX0_faultOf 39 = .ok (.iconst 0, 1) := by decide +kernel
theorem dX0_faultOf_40 : decode cX0_faultOf 40 = .ok (.goto 4, 3) := by decide +kernel
theorem dX0_faultOf_43 : decode cX0_faultOf 43 = .ok (.iconst 4, 1) := by decide +kernel
theorem dX0_faultOf_44 : decode cX0_faultOf 44 = .ok (.ireturn, 1) := by decide +kernel
theorem dX0_faultOf_45 : decode cX0_faultOf 45 = .ok (.aload_n 0, 1) := by decide +kernel
theorem dX0_faultOf_46 : decode cX0_faultOf 46 = .ok (.getfield 12, 3) := by decide +kernel
theorem dX0_faultOf_49 : decode cX0_faultOf 49 = .ok (.getfield 106, 3) := by decide +kernel
theorem dX0_faultOf_52 : decode cX0_faultOf 52 = .ok (.i2l, 1) := by decide +kernel
theorem dX0_faultOf_53 : decode cX0_faultOf 53 = .ok (.aload_n 0, 1) := by decide +kernel
theorem dX0_faultOf_54 : decode cX0_faultOf 54 = .ok (.invokevirtual 130, 3) := by decide +kernel
theorem dX0_faultOf_57 : decode cX0_faultOf 57 = .ok (.lmul, 1) := by decide +kernel
theorem dX0_faultOf_58 : decode cX0_faultOf 58 = .ok (.lstore 4, 2) := by decide +kernel
theorem dX0_faultOf_60 : decode cX0_faultOf 60 = .ok (.aload_n 0, 1) := by decide +kernel
theorem dX0_faultOf_61 : decode cX0_faultOf 61 = .ok (.aload_n 0, 1) := by decide +kernel
theorem dX0_faultOf_62 : decode cX0_faultOf 62 = .ok (.getfield 12, 3) := by decide +kernel
theorem dX0_faultOf_65 : decode cX0_faultOf 65 = .ok (.getfield 44, 3) := by decide +kernel
theorem dX0_faultOf_68 : decode cX0_faultOf 68 = .ok (.getfield 103, 3) := by decide +kernel
theorem dX0_faultOf_71 : decode cX0_faultOf 71 = .ok (.iload_n 3, 1) := by decide +kernel
theorem dX0_faultOf_72 : decode cX0_faultOf 72 = .ok (.iaload, 1) := by decide +kernel
theorem dX0_faultOf_73 : decode cX0_faultOf 73 = .ok (.invokevirtual 127, 3) := by decide +kernel
theorem dX0_faultOf_76 : decode cX0_faultOf 76 = .ok (.invokestatic 161, 3) := by decide +kernel
theorem dX0_faultOf_79 : decode cX0_faultOf 79 = .ok (.lload 4, 2) := by decide +kernel
theorem dX0_faultOf_81 : decode cX0_faultOf 81 = .ok (.lcmp, 1) := by decide +kernel
theorem dX0_faultOf_82 : decode cX0_faultOf 82 = .ok (.ifCond .le 5, 3) := by decide +kernel
theorem dX0_faultOf_85 : decode cX0_faultOf 85 = .ok (.iconst 2, 1) := by decide +kernel
theorem dX0_faultOf_86 : decode cX0_faultOf 86 = .ok (.ireturn, 1) := by decide +kernel
theorem dX0_faultOf_87 : decode cX0_faultOf 87 = .ok (.aload_n 0, 1) := by decide +kernel
theorem dX0_faultOf_88 : decode cX0_faultOf 88 = .ok (.iload_n 1, 1) := by decide +kernel
theorem dX0_faultOf_89 : decode cX0_faultOf 89 = .ok (.invokevirtual 167, 3) := by decide +kernel
theorem dX0_faultOf_92 : decode cX0_faultOf 92 = .ok (.ifCond .eq 7, 3) := by decide +kernel
theorem dX0_faultOf_95 : decode cX0_faultOf 95 = .ok (.iconst 0, 1) := by decide +kernel
theorem dX0_faultOf_96 : decode cX0_faultOf 96 = .ok (.goto 4, 3) := by decide +kernel
theorem dX0_faultOf_99 : decode cX0_faultOf 99 = .ok (.iconst 5, 1) := by decide +kernel
theorem dX0_faultOf_100 : decode cX0_faultOf 100 = .ok (.ireturn, 1) := by decide +kernel
theorem dX0_hasNegativeFeedback_0 : decode cX0_hasNegativeFeedback 0 = .ok (.aload_n 0, 1) := by decide +kernel
theorem dX0_hasNegativeFeedback_1 : decode cX0_hasNegativeFeedback 1 = .ok (.getfield 91, 3) := by decide +kernel
theorem dX0_hasNegativeFeedback_4 : decode cX0_hasNegativeFeedback 4 = .ok (.iconst 1, 1) := by decide +kernel
theorem dX0_hasNegativeFeedback_5 : decode cX0_hasNegativeFeedback 5 = .ok (.iload_n 1, 1) := by decide +kernel
theorem dX0_hasNegativeFeedback_6 : decode cX0_hasNegativeFeedback 6 = .ok (.ishl, 1) := by decide +kernel
theorem dX0_hasNegativeFeedback_7 : decode cX0_hasNegativeFeedback 7 = .ok (.ior, 1) := by decide +kernel
theorem dX0_hasNegativeFeedback_8 : decode cX0_hasNegativeFeedback 8 = .ok (.istore_n 2, 1) := by decide +kernel
theorem dX0_hasNegativeFeedback_9 : decode cX0_hasNegativeFeedback 9 = .ok (.aload_n 0, 1) := by decide +kernel
theorem dX0_hasNegativeFeedback_10 : decode cX0_hasNegativeFeedback 10 = .ok (.getfield 12, 3) := by decide +kernel
theorem dX0_hasNegativeFeedback_13 : decode cX0_hasNegativeFeedback 13 = .ok (.getfield 44, 3) := by decide +kernel
theorem dX0_hasNegativeFeedback_16 : decode cX0_hasNegativeFeedback 16 = .ok (.astore_n 3, 1) := by decide +kernel
theorem dX0_hasNegativeFeedback_17 : decode cX0_hasNegativeFeedback 17 = .ok (.aload_n 0, 1) := by decide +kernel
theorem dX0_hasNegativeFeedback_18 : decode cX0_hasNegativeFeedback 18 = .ok (.getfield 18, 3) := by decide +kernel
theorem dX0_hasNegativeFeedback_21 : decode cX0_hasNegativeFeedback 21 = .ok (.iload_n 1, 1) := by decide +kernel
theorem dX0_hasNegativeFeedback_22 : decode cX0_hasNegativeFeedback 22 = .ok (.iaload, 1) := by decide +kernel
theorem dX0_hasNegativeFeedback_23 : decode cX0_hasNegativeFeedback 23 = .ok (.istore 4, 2) := by decide +kernel
theorem dX0_hasNegativeFeedback_25 : decode cX0_hasNegativeFeedback 25 = .ok (.aload_n 3, 1) := by decide +kernel
theorem dX0_hasNegativeFeedback_26 : decode cX0_hasNegativeFeedback 26 = .ok (.getfield 103, 3) := by decide +kernel
theorem dX0_hasNegativeFeedback_29 : decode cX0_hasNegativeFeedback 29 = .ok (.iload 4, 2) := by decide +kernel
theorem dX0_hasNegativeFeedback_31 : decode cX0_hasNegativeFeedback 31 = .ok (.iaload, 1) := by decide +kernel
theorem dX0_hasNegativeFeedback_32 : decode cX0_hasNegativeFeedback 32 = .ok (.istore 5, 2) := by decide +kernel
theorem dX0_hasNegativeFeedback_34 : decode cX0_hasNegativeFeedback 34 = .ok (.aload_n 0, 1) := by decide +kernel
theorem dX0_hasNegativeFeedback_35 : decode cX0_hasNegativeFeedback 35 = .ok (.getfield 25, 3) := by decide +kernel
theorem dX0_hasNegativeFeedback_38 : decode cX0_hasNegativeFeedback 38 = .ok (.getfield 109, 3) := by decide +kernel
theorem dX0_hasNegativeFeedback_41 : decode cX0_hasNegativeFeedback 41 = .ok (.iload_n 2, 1) := by decide +kernel
theorem dX0_hasNegativeFeedback_42 : decode cX0_hasNegativeFeedback 42 = .ok (.aaload, 1) := by decide +kernel
theorem dX0_hasNegativeFeedback_43 : decode cX0_hasNegativeFeedback 43 = .ok (.bipush 7, 2) := by decide +kernel
theorem dX0_hasNegativeFeedback_45 : decode cX0_hasNegativeFeedback 45 = .ok (.aload_n 3, 1) := by decide +kernel
theorem dX0_hasNegativeFeedback_46 : decode cX0_hasNegativeFeedback 46 = .ok (.getfield 100, 3) := by decide +kernel
theorem dX0_hasNegativeFeedback_49 : decode cX0_hasNegativeFeedback 49 = .ok (.iload 4, 2) := by decide +kernel
theorem dX0_hasNegativeFeedback_51 : decode cX0_hasNegativeFeedback 51 = .ok (.iaload, 1) := by decide +kernel
theorem dX0_hasNegativeFeedback_52 : decode cX0_hasNegativeFeedback 52 = .ok (.imul, 1) := by decide +kernel
theorem dX0_hasNegativeFeedback_53 : decode cX0_hasNegativeFeedback 53 = .ok (.iload 5, 2) := by decide +kernel
theorem dX0_hasNegativeFeedback_55 : decode cX0_hasNegativeFeedback 55 = .ok (.iadd, 1) := by decide +kernel
theorem dX0_hasNegativeFeedback_56 : decode cX0_hasNegativeFeedback 56 = .ok (.laload, 1) := by decide +kernel
theorem dX0_hasNegativeFeedback_57 : decode cX0_hasNegativeFeedback 57 = .ok (.lstore 6, 2) := by decide +kernel
theorem dX0_hasNegativeFeedback_59 : decode cX0_hasNegativeFeedback 59 = .ok (.aload_n 0, 1) := by decide +kernel
theorem dX0_hasNegativeFeedback_60 : decode cX0_hasNegativeFeedback 60 = .ok (.getfield 25, 3) := by decide +kernel
theorem dX0_hasNegativeFeedback_63 : decode cX0_hasNegativeFeedback 63 = .ok (.getfield 109, 3) := by decide +kernel
theorem dX0_hasNegativeFeedback_66 : decode cX0_hasNegativeFeedback 66 = .ok (.iload_n 2, 1) := by decide +kernel
theorem dX0_hasNegativeFeedback_67 : decode cX0_hasNegativeFeedback 67 = .ok (.aaload, 1) := by decide +kernel
theorem dX0_hasNegativeFeedback_68 : decode cX0_hasNegativeFeedback 68 = .ok (.bipush 7, 2) := by decide +kernel
theorem dX0_hasNegativeFeedback_70 : decode cX0_hasNegativeFeedback 70 = .ok (.aload_n 3, 1) := by decide +kernel
theorem dX0_hasNegativeFeedback_71 : decode cX0_hasNegativeFeedback 71 = .ok (.getfield 140, 3) := by decide +kernel
theorem dX0_hasNegativeFeedback_74 : decode cX0_hasNegativeFeedback 74 = .ok (.iload 4, 2) := by decide +kernel
theorem dX0_hasNegativeFeedback_76 : decode cX0_hasNegativeFeedback 76 = .ok (.iaload, 1) := by decide +kernel
theorem dX0_hasNegativeFeedback_77 : decode cX0_hasNegativeFeedback 77 = .ok (.imul, 1) := by decide +kernel
theorem dX0_hasNegativeFeedback_78 : decode cX0_hasNegativeFeedback 78 = .ok (.iload 5, 2) := by decide +kernel
theorem dX0_hasNegativeFeedback_80 : decode cX0_hasNegativeFeedback 80 = .ok (.iadd, 1) := by decide +kernel
theorem dX0_hasNegativeFeedback_81 : decode cX0_hasNegativeFeedback 81 = .ok (.laload, 1) := by decide +kernel
theorem dX0_hasNegativeFeedback_82 : decode cX0_hasNegativeFeedback 82 = .ok (.lstore 8, 2) := by decide +kernel
theorem dX0_hasNegativeFeedback_84 : decode cX0_hasNegativeFeedback 84 = .ok (.aload_n 0, 1) := by decide +kernel
theorem dX0_hasNegativeFeedback_85 : decode cX0_hasNegativeFeedback 85 = .ok (.getfield 25, 3) := by decide +kernel
theorem dX0_hasNegativeFeedback_88 : decode cX0_hasNegativeFeedback 88 = .ok (.getfield 85, 3) := by decide +kernel
theorem dX0_hasNegativeFeedback_91 : decode cX0_hasNegativeFeedback 91 = .ok (.iload_n 2, 1) := by decide +kernel
theorem dX0_hasNegativeFeedback_92 : decode cX0_hasNegativeFeedback 92 = .ok (.laload, 1) := by decide +kernel
theorem dX0_hasNegativeFeedback_93 : decode cX0_hasNegativeFeedback 93 = .ok (.lconst 0, 1) := by decide +kernel
theorem dX0_hasNegativeFeedback_94 : decode cX0_hasNegativeFeedback 94 = .ok (.lcmp, 1) := by decide +kernel
theorem dX0_hasNegativeFeedback_95 : decode cX0_hasNegativeFeedback 95 = .ok (.ifCond .eq 15, 3) := by decide +kernel
theorem dX0_hasNegativeFeedback_98 : decode cX0_hasNegativeFeedback 98 = .ok (.lload 6, 2) := by decide +kernel
theorem dX0_hasNegativeFeedback_100 : decode cX0_hasNegativeFeedback 100 = .ok (.lload 8, 2) := by decide +kernel
theorem dX0_hasNegativeFeedback_102 : decode cX0_hasNegativeFeedback 102 = .ok (.lcmp, 1) := by decide +kernel
theorem dX0_hasNegativeFeedback_103 : decode cX0_hasNegativeFeedback 103 = .ok (.ifCond .ge 7, 3) := by decide +kernel
theorem dX0_hasNegativeFeedback_106 : decode cX0_hasNegativeFeedback 106 = .ok (.iconst 1, 1) := by decide +kernel
theorem dX0_hasNegativeFeedback_107 : decode cX0_hasNegativeFeedback 107 = .ok (.goto 4, 3) := by decide +kernel
theorem dX0_hasNegativeFeedback_110 : decode cX0_hasNegativeFeedback 110 = .ok (.iconst 0, 1) := by decide +kernel
theorem dX0_hasNegativeFeedback_111 : decode cX0_hasNegativeFeedback 111 = .ok (.ireturn, 1) := by decide +kernel
theorem dX1_init_0 : decode cX1_init 0 = .ok (.aload_n 0, 1) := by decide +kernel
theorem dX1_init_1 : decode cX1_init 1 = .ok (.invokespecial 3, 3) := by decide +kernel
theorem dX1_init_4 : decode cX1_init 4 = .ok (.aload_n 0, 1) := by decide +kernel
theorem dX1_init_5 : decode cX1_init 5 = .ok (.bipush 8, 2) := by decide +kernel
theorem dX1_init_7 : decode cX1_init 7 = .ok (.anewarray 9, 3) := by decide +kernel
theorem dX1_init_10 : decode cX1_init 10 = .ok (.putfield 11, 3) := by decide +kernel
theorem dX1_init_13 : decode cX1_init 13 = .ok (.iconst 0, 1) := by decide +kernel
theorem dX1_init_14 : decode cX1_init 14 = .ok (.istore_n 1, 1) := by decide +kernel
theorem dX1_init_15 : decode cX1_init 15 = .ok (.iload_n 1, 1) := by decide +kernel
theorem dX1_init_16 : decode cX1_init 16 = .ok (.bipush 8, 2) := by decide +kernel
theorem dX1_init_18 : decode cX1_init 18 = .ok (.if_icmp .ge 22, 3) := by decide +kernel
theorem dX1_init_21 : decode cX1_init 21 = .ok (.aload_n 0, 1) := by decide +kernel
theorem dX1_init_22 : decode cX1_init 22 = .ok (.getfield 11, 3) := by decide +kernel
theorem dX1_init_25 : decode cX1_init 25 = .ok (.iload_n 1, 1) := by decide +kernel
theorem dX1_init_26 : decode cX1_init 26 = .ok (.new 9, 3) := by decide +kernel
theorem dX1_init_29 : decode cX1_init 29 = .ok (.dup, 1) := by decide +kernel
theorem dX1_init_30 : decode cX1_init 30 = .ok (.invokespecial 17, 3) := by decide +kernel
theorem dX1_init_33 : decode cX1_init 33 = .ok (.aastore, 1) := by decide +kernel
theorem dX1_init_34 : decode cX1_init 34 = .ok (.iinc 1 1, 3) := by decide +kernel
theorem dX1_init_37 : decode cX1_init 37 = .ok (.goto (-22), 3) := by decide +kernel
theorem dX1_init_40 : decode cX1_init 40 = .ok (.return_, 1) := by decide +kernel
theorem dX1_record_0 : decode cX1_record 0 = .ok (.aload_n 0, 1) := by decide +kernel
theorem dX1_record_1 : decode cX1_record 1 = .ok (.getfield 11, 3) := by decide +kernel
theorem dX1_record_4 : decode cX1_record 4 = .ok (.aload_n 0, 1) := by decide +kernel
theorem dX1_record_5 : decode cX1_record 5 = .ok (.getfield 18, 3) := by decide +kernel
theorem dX1_record_8 : decode cX1_record 8 = .ok (.aload_n 0, 1) := by decide +kernel
theorem dX1_record_9 : decode cX1_record 9 = .ok (.getfield 22, 3) := by decide +kernel
theorem dX1_record_12 : decode cX1_record 12 = .ok (.iadd, 1) := by decide +kernel
theorem dX1_record_13 : decode cX1_record 13 = .ok (.bipush 8, 2) := by decide +kernel
theorem dX1_record_15 : decode cX1_record 15 = .ok (.irem, 1) := by decide +kernel
theorem dX1_record_16 : decode cX1_record 16 = .ok (.aaload, 1) := by decide +kernel
theorem dX1_record_17 : decode cX1_record 17 = .ok (.aload_n 1, 1) := by decide +kernel
theorem dX1_record_18 : decode cX1_record 18 = .ok (.invokevirtual 25, 3) := by decide +kernel
theorem dX1_record_21 : decode cX1_record 21 = .ok (.aload_n 0, 1) := by decide +kernel
theorem dX1_record_22 : decode cX1_record 22 = .ok (.getfield 22, 3) := by decide +kernel
theorem dX1_record_25 : decode cX1_record 25 = .ok (.bipush 8, 2) := by decide +kernel
theorem dX1_record_27 : decode cX1_record 27 = .ok (.if_icmp .ge 16, 3) := by decide +kernel
theorem dX1_record_30 : decode cX1_record 30 = .ok (.aload_n 0, 1) := by decide +kernel
theorem dX1_record_31 : decode cX1_record 31 = .ok (.dup, 1) := by decide +kernel
theorem dX1_record_32 : decode cX1_record 32 = .ok (.getfield 22, 3) := by decide +kernel
theorem dX1_record_35 : decode cX1_record 35 = .ok (.iconst 1, 1) := by decide +kernel
theorem dX1_record_36 : decode cX1_record 36 = .ok (.iadd, 1) := by decide +kernel
theorem dX1_record_37 : decode cX1_record 37 = .ok (.putfield 22, 3) := by decide +kernel
theorem dX1_record_40 : decode cX1_record 40 = .ok (.goto 16, 3) := by decide +kernel
theorem dX1_record_43 : decode cX1_record 43 = .ok (.aload_n 0, 1) := by decide +kernel
theorem dX1_record_44 : decode cX1_record 44 = .ok (.aload_n 0, 1) := by decide +kernel
theorem dX1_record_45 : decode cX1_record 45 = .ok (.getfield 18, 3) := by decide +kernel
theorem dX1_record_48 : decode cX1_record 48 = .ok (.iconst 1, 1) := by decide +kernel
theorem dX1_record_49 : decode cX1_record 49 = .ok (.iadd, 1) := by decide +kernel
theorem dX1_record_50 : decode cX1_record 50 = .ok (.bipush 8, 2) := by decide +kernel
theorem dX1_record_52 : decode cX1_record 52 = .ok (.irem, 1) := by decide +kernel
theorem dX1_record_53 : decode cX1_record 53 = .ok (.putfield 18, 3) := by decide +kernel
theorem dX1_record_56 : decode cX1_record 56 = .ok (.return_, 1) := by decide +kernel
theorem dX1_removeLatest_0 : decode cX1_removeLatest 0 = .ok (.aload_n 0, 1) := by decide +kernel
theorem dX1_removeLatest_1 : decode cX1_removeLatest 1 = .ok (.dup, 1) := by decide +kernel
theorem dX1_removeLatest_2 : decode cX1_removeLatest 2 = .ok (.getfield 22, 3) := by decide +kernel
theorem dX1_removeLatest_5 : decode cX1_removeLatest 5 = .ok (.iconst 1, 1) := by decide +kernel
theorem dX1_removeLatest_6 : decode cX1_removeLatest 6 = .ok (.isub, 1) := by decide +kernel
theorem dX1_removeLatest_7 : decode cX1_removeLatest 7 = .ok (.putfield 22, 3) := by decide +kernel
theorem dX1_removeLatest_10 : decode cX1_removeLatest 10 = .ok (.aload_n 0, 1) := by decide +kernel
theorem dX1_removeLatest_11 : decode cX1_removeLatest 11 = .ok (.getfield 11, 3) := by decide +kernel
theorem dX1_removeLatest_14 : decode cX1_removeLatest 14 = .ok (.aload_n 0, 1) := by decide +kernel
theorem dX1_removeLatest_15 : decode cX1_removeLatest 15 = .ok (.getfield 18, 3) := by decide +kernel
theorem dX1_removeLatest_18 : decode cX1_removeLatest 18 = .ok (.aload_n 0, 1) := by decide +kernel
theorem dX1_removeLatest_19 : decode cX1_removeLatest 19 = .ok (.getfield 22, 3) := by decide +kernel
theorem dX1_removeLatest_22 : decode cX1_removeLatest 22 = .ok (.iadd, 1) := by decide +kernel
theorem dX1_removeLatest_23 : decode cX1_removeLatest 23 = .ok (.bipush 8, 2) := by decide +kernel
theorem dX1_removeLatest_25 : decode cX1_removeLatest 25 = .ok (.irem, 1) := by decide +kernel
theorem dX1_removeLatest_26 : decode cX1_removeLatest 26 = .ok (.aaload, 1) := by decide +kernel
theorem dX1_removeLatest_27 : decode cX1_removeLatest 27 = .ok (.areturn, 1) := by decide +kernel
theorem dX2_init_0 : decode cX2_init 0 = .ok (.aload_n 0, 1) := by decide +kernel
theorem dX2_init_1 : decode cX2_init 1 = .ok (.invokespecial 3, 3) := by decide +kernel
theorem dX2_init_4 : decode cX2_init 4 = .ok (.aload_n 0, 1) := by decide +kernel
theorem dX2_init_5 : decode cX2_init 5 = .ok (.iload_n 1, 1) := by decide +kernel
theorem dX2_init_6 : decode cX2_init 6 = .ok (.newarray .int, 2) := by decide +kernel
theorem dX2_init_8 : decode cX2_init 8 = .ok (.putfield 9, 3) := by decide +kernel
theorem dX2_init_11 : decode cX2_init 11 = .ok (.aload_n 0, 1) := by decide +kernel
theorem dX2_init_12 : decode cX2_init 12 = .ok (.iload_n 1, 1) := by decide +kernel
theorem dX2_init_13 : decode cX2_init 13 = .ok (.newarray .int, 2) := by decide +kernel
theorem dX2_init_15 : decode cX2_init 15 = .ok (.putfield 15, 3) := by decide +kernel
theorem dX2_init_18 : decode cX2_init 18 = .ok (.aload_n 0, 1) := by decide +kernel
theorem dX2_init_19 : decode cX2_init 19 = .ok (.iload_n 1, 1) := by decide +kernel
theorem dX2_init_20 : decode cX2_init 20 = .ok (.newarray .int, 2) := by decide +kernel
theorem dX2_init_22 : decode cX2_init 22 = .ok (.putfield 18, 3) := by decide +kernel
theorem dX2_init_25 : decode cX2_init 25 = .ok (.aload_n 0, 1) := by decide +kernel
theorem dX2_init_26 : decode cX2_init 26 = .ok (.iload_n 1, 1) := by decide +kernel
theorem dX2_init_27 : decode cX2_init 27 = .ok (.newarray .int, 2) := by decide +kernel
theorem dX2_init_29 : decode cX2_init 29 = .ok (.putfield 21, 3) := by decide +kernel
theorem dX2_init_32 : decode cX2_init 32 = .ok (.return_, 1) := by decide +kernel
theorem dX2_copyFrom_0 : decode cX2_copyFrom 0 = .ok (.aload_n 0, 1) := by decide +kernel
theorem dX2_copyFrom_1 : decode cX2_copyFrom 1 = .ok (.iconst 0, 1) := by decide +kernel
theorem dX2_copyFrom_2 : decode cX2_copyFrom 2 = .ok (.putfield 24, 3) := by decide +kernel
theorem dX2_copyFrom_5 : decode cX2_copyFrom 5 = .ok (.aload_n 0, 1) := by decide +kernel
theorem dX2_copyFrom_6 : decode cX2_copyFrom 6 = .ok (.aload_n 1, 1) := by decide +kernel
theorem dX2_copyFrom_7 : decode cX2_copyFrom 7 = .ok (.invokevirtual 28, 3) := by decide +kernel
theorem dX2_copyFrom_10 : decode cX2_copyFrom 10 = .ok (.return_, 1) := by decide +kernel
theorem dX2_addAll_0 : decode cX2_addAll 0 = .ok (.iconst 0, 1) := by decide +kernel
theorem dX2_addAll_1 : decode cX2_addAll 1 = .ok (.istore_n 2, 1) := by decide +kernel
theorem dX2_addAll_2 : decode cX2_addAll 2 = .ok (.iload_n 2, 1) := by decide +kernel
theorem dX2_addAll_3 : decode cX2_addAll 3 = .ok (.aload_n 1, 1) := by decide +kernel
theorem dX2_addAll_4 : decode cX2_addAll 4 = .ok (.getfield 24, 3) := by decide +kernel
theorem dX2_addAll_7 : decode cX2_addAll 7 = .ok (.if_icmp .ge 37, 3) := by decide +kernel
theorem dX2_addAll_10 : decode cX2_addAll 10 = .ok (.aload_n 0, 1) := by decide +kernel
theorem dX2_addAll_11 : decode cX2_addAll 11 = .ok (.aload_n 1, 1) := by decide +kernel
theorem dX2_addAll_12 : decode cX2_addAll 12 = .ok (.getfield 9, 3) := by decide +kernel
theorem dX2_addAll_15 : decode cX2_addAll 15 = .ok (.iload_n 2, 1) := by decide +kernel
theorem dX2_addAll_16 : decode cX2_addAll 16 = .ok (.iaload, 1) := by decide +kernel
theorem dX2_addAll_17 : decode cX2_addAll 17 = .ok (.aload_n 1, 1) := by decide +kernel
theorem dX2_addAll_18 : decode cX2_addAll 18 = .ok (.getfield 15, 3) := by decide +kernel
theorem dX2_addAll_21 : decode cX2_addAll 21 = .ok (.iload_n 2, 1) := by decide +kernel
theorem dX2_addAll_22 : decode cX2_addAll 22 = .ok (.iaload, 1) := by decide +kernel
theorem dX2_addAll_23 : decode cX2_addAll 23 = .ok (.aload_n 1, 1) := by decide +kernel
theorem dX2_addAll_24 : decode cX2_addAll 24 = .ok (.getfield 18, 3) := by decide +kernel
theorem dX2_addAll_27 : decode cX2_addAll 27 = .ok (.iload_n 2, 1) := by decide +kernel
theorem dX2_addAll_28 : decode cX2_addAll 28 = .ok (.iaload, 1) := by decide +kernel
theorem dX2_addAll_29 : decode cX2_addAll 29 = .ok (.aload_n 1, 1) := by decide +kernel
theorem dX2_addAll_30 : decode cX2_addAll 30 = .ok (.getfield 21, 3) := by decide +kernel
theorem dX2_addAll_33 : decode cX2_addAll 33 = .ok (.iload_n 2, 1) := by decide +kernel
theorem dX2_addAll_34 : decode cX2_addAll 34 = .ok (.iaload, 1) := by decide +kernel
theorem dX2_addAll_35 : decode cX2_addAll 35 = .ok (.invokevirtual 32, 3) := by decide +kernel
theorem dX2_addAll_38 : decode cX2_addAll 38 = .ok (.iinc 2 1, 3) := by decide +kernel
theorem dX2_addAll_41 : decode cX2_addAll 41 = .ok (.goto (-39), 3) := by decide +kernel
theorem dX2_addAll_44 : decode cX2_addAll 44 = .ok (.return_, 1) := by decide +kernel
theorem dX2_add_0 : decode cX2_add 0 = .ok (.aload_n 0, 1) := by decide +kernel
theorem dX2_add_1 : decode cX2_add 1 = .ok (.getfield 24, 3) := by decide +kernel
theorem dX2_add_4 : decode cX2_add 4 = .ok (.aload_n 0, 1) := by decide +kernel
theorem dX2_add_5 : decode cX2_add 5 = .ok (.getfield 9, 3) := by decide +kernel
theorem dX2_add_8 : decode cX2_add 8 = .ok (.arraylength, 1) := by decide +kernel
theorem dX2_add_9 : decode cX2_add 9 = .ok (.if_icmp .lt 4, 3) := by decide +kernel
theorem dX2_add_12 : decode cX2_add 12 = .ok (.return_, 1) := by decide +kernel
theorem dX2_add_13 : decode cX2_add 13 = .ok (.aload_n 0, 1) := by decide +kernel
theorem dX2_add_14 : decode cX2_add 14 = .ok (.getfield 9, 3) := by decide +kernel
theorem dX2_add_17 : decode cX2_add 17 = .ok (.aload_n 0, 1) := by decide +kernel
theorem dX2_add_18 : decode cX2_add 18 = .ok (.getfield 24, 3) := by decide +kernel
theorem dX2_add_21 : decode cX2_add 21 = .ok (.iload_n 1, 1) := by decide +kernel
theorem dX2_add_22 : decode cX2_add 22 = .ok (.iastore, 1) := by decide +kernel
theorem dX2_add_23 : decode cX2_add 23 = .ok (.aload_n 0, 1) := by decide +kernel
theorem dX2_add_24 : decode cX2_add 24 = .ok (.getfield 15, 3) := by decide +kernel
theorem dX2_add_27 : decode cX2_add 27 = .ok (.aload_n 0, 1) := by decide +kernel
theorem dX2_add_28 : decode cX2_add 28 = .ok (.getfield 24, 3) := by decide +kernel
theorem dX2_add_31 : decode cX2_add 31 = .ok (.iload_n 2, 1) := by decide +kernel
theorem dX2_add_32 : decode cX2_add 32 = .ok (.iastore, 1) := by decide +kernel
theorem dX2_add_33 : decode cX2_add 33 = .ok (.aload_n 0, 1) := by decide +kernel
theorem dX2_add_34 : decode cX2_add 34 = .ok (.getfield 18, 3) := by decide +kernel
theorem dX2_add_37 : decode cX2_add 37 = .ok (.aload_n 0, 1) := by decide +kernel
theorem dX2_add_38 : decode cX2_add 38 = .ok (.getfield 24, 3) := by decide +kernel
theorem dX2_add_41 : decode cX2_add 41 = .ok (.iload_n 3, 1) := by decide +kernel
theorem dX2_add_42 : decode cX2_add 42 = .ok (.iastore, 1) := by decide +kernel
theorem dX2_add_43 : decode cX2_add 43 = .ok (.aload_n 0, 1) := by decide +kernel
theorem dX2_add_44 : decode cX2_add 44 = .ok (.getfield 21, 3) := by decide +kernel
theorem dX2_add_47 : decode cX2_add 47 = .ok (.aload_n 0, 1) := by decide +kernel
theorem dX2_add_48 : decode cX2_add 48 = .ok (.getfield 24, 3) := by decide +kernel
theorem dX2_add_51 : decode cX2_add 51 = .ok (.iload 4, 2) := by decide +kernel
theorem dX2_add_53 : decode cX2_add 53 = .ok (.iastore, 1) := by decide +kernel
theorem dX2_add_54 : decode cX2_add 54 = .ok (.aload_n 0, 1) := by decide +kernel
theorem dX2_add_55 : decode cX2_add 55 = .ok (.dup, 1) := by decide +kernel
theorem dX2_add_56 : decode cX2_add 56 = .ok (.getfield 24, 3) := by decide +kernel
theorem dX2_add_59 : decode cX2_add 59 = .ok (.iconst 1, 1) := by decide +kernel
theorem dX2_add_60 : decode cX2_add 60 = .ok (.iadd, 1) := by decide +kernel
theorem dX2_add_61 : decode cX2_add 61 = .ok (.putfield 24, 3) := by decide +kernel
theorem dX2_add_64 : decode cX2_add 64 = .ok (.return_, 1) := by decide +kernel
theorem dX2_removeAt_0 : decode cX2_removeAt 0 = .ok (.iload_n 1, 1) := by decide +kernel
theorem dX2_removeAt_1 : decode cX2_removeAt 1 = .ok (.iconst 1, 1) := by decide +kernel
theorem dX2_removeAt_2 : decode cX2_removeAt 2 = .ok (.iadd, 1) := by decide +kernel
theorem dX2_removeAt_3 : decode cX2_removeAt 3 = .ok (.istore_n 2, 1) := by decide +kernel
theorem dX2_removeAt_4 : decode cX2_removeAt 4 = .ok (.iload_n 2, 1) := by decide +kernel
theorem dX2_removeAt_5 : decode cX2_removeAt 5 = .ok (.aload_n 0, 1) := by decide +kernel
theorem dX2_removeAt_6 : decode cX2_removeAt 6 = .ok (.getfield 24, 3) := by decide +kernel
theorem dX2_removeAt_9 : decode cX2_removeAt 9 = .ok (.if_icmp .ge 65, 3) := by decide +kernel
theorem dX2_removeAt_12 : decode cX2_removeAt 12 = .ok (.aload_n 0, 1) := by decide +kernel
theorem dX2_removeAt_13 : decode cX2_removeAt 13 = .ok (.getfield 9, 3) := by decide +kernel
theorem dX2_removeAt_16 : decode cX2_removeAt 16 = .ok (.iload_n 2, 1) := by decide +kernel
theorem dX2_removeAt_17 : decode cX2_removeAt 17 = .ok (.iconst 1, 1) := by decide +kernel
theorem dX2_removeAt_18 : decode cX2_removeAt 18 = .ok (.isub, 1) := by decide +kernel
theorem dX2_removeAt_19 : decode cX2_removeAt 19 = .ok (.aload_n 0, 1) := by decide +kernel
theorem dX2_removeAt_20 : decode cX2_removeAt 20 = .ok (.getfield 9, 3) := by decide +kernel
theorem dX2_removeAt_23 : decode cX2_removeAt 23 = .ok (.iload_n 2, 1) := by decide +kernel
theorem dX2_removeAt_24 : decode cX2_removeAt 24 = .ok (.iaload, 1) := by decide +kernel
theorem dX2_removeAt_25 : decode cX2_removeAt 25 = .ok (.iastore, 1) := by decide +kernel
theorem dX2_removeAt_26 : decode cX2_removeAt 26 = .ok (.aload_n 0, 1) := by decide +kernel
theorem dX2_removeAt_27 : decode cX2_removeAt 27 = .ok (.getfield 15, 3) := by decide +kernel
theorem dX2_removeAt_30 : decode cX2_removeAt 30 = .ok (.iload_n 2, 1) := by decide +kernel
theorem dX2_removeAt_31 : decode cX2_removeAt 31 = .ok (.iconst 1, 1) := by decide +kernel
theorem dX2_removeAt_32 : decode cX2_removeAt 32 = .ok (.isub, 1) := by decide +kernel
theorem dX2_removeAt_33 : decode cX2_removeAt 33 = .ok (.aload_n 0, 1) := by decide +kernel
theorem dX2_removeAt_34 : decode cX2_removeAt 34 = .ok (.getfield 15, 3) := by decide +kernel
theorem dX2_removeAt_37 : decode cX2_removeAt 37 = .ok (.iload_n 2, 1) := by decide +kernel
theorem dX2_removeAt_38 : decode cX2_removeAt 38 = .ok (.iaload, 1) := by decide +kernel
theorem dX2_removeAt_39 : decode cX2_removeAt 39 = .ok (.iastore, 1) := by decide +kernel
theorem dX2_removeAt_40 : decode cX2_removeAt 40 = .ok (.aload_n 0, 1) := by decide +kernel
theorem dX2_removeAt_41 : decode cX2_removeAt 41 = .ok (.getfield 18, 3) := by decide +kernel
theorem dX2_removeAt_44 : decode cX2_removeAt 44 = .ok (.iload_n 2, 1) := by decide +kernel
theorem dX2_removeAt_45 : decode cX2_removeAt 45 = .ok (.iconst 1, 1) := by decide +kernel
theorem dX2_removeAt_46 : decode cX2_removeAt 46 = .ok (.isub, 1) := by decide +kernel
theorem dX2_removeAt_47 : decode cX2_removeAt 47 = .ok (.aload_n 0, 1) := by decide +kernel
theorem dX2_removeAt_48 : decode cX2_removeAt 48 = .ok (.getfield 18, 3) := by decide +kernel
theorem dX2_removeAt_51 : decode cX2_removeAt 51 = .ok (.iload_n 2, 1) := by decide +kernel
theorem dX2_removeAt_52 : decode cX2_removeAt 52 = .ok (.iaload, 1) := by decide +kernel
theorem dX2_removeAt_53 : decode cX2_removeAt 53 = .ok (.iastore, 1) := by decide +kernel
theorem dX2_removeAt_54 : decode cX2_removeAt 54 = .ok (.aload_n 0, 1) := by decide +kernel
theorem dX2_removeAt_55 : decode cX2_removeAt 55 = .ok (.getfield 21, 3) := by decide +kernel
theorem dX2_removeAt_58 : decode cX2_removeAt 58 = .ok (.iload_n 2, 1) := by decide +kernel
theorem dX2_removeAt_59 : decode cX2_removeAt 59 = .ok (.iconst 1, 1) := by decide +kernel
theorem dX2_removeAt_60 : decode cX2_removeAt 60 = .ok (.isub, 1) := by decide +kernel
theorem dX2_removeAt_61 : decode cX2_removeAt 61 = .ok (.aload_n 0, 1) := by decide +kernel
theorem dX2_removeAt_62 : decode cX2_removeAt 62 = .ok (.getfield 21, 3) := by decide +kernel
theorem dX2_removeAt_65 : decode cX2_removeAt 65 = .ok (.iload_n 2, 1) := by decide +kernel
theorem dX2_removeAt_66 : decode cX2_removeAt 66 = .ok (.iaload, 1) := by decide +kernel
theorem dX2_removeAt_67 : decode cX2_removeAt 67 = .ok (.iastore, 1) := by decide +kernel
theorem dX2_removeAt_68 : decode cX2_removeAt 68 = .ok (.iinc 2 1, 3) := by decide +kernel
theorem dX2_removeAt_71 : decode cX2_removeAt 71 = .ok (.goto (-67), 3) := by decide +kernel
theorem dX2_removeAt_74 : decode cX2_removeAt 74 = .ok (.aload_n 0, 1) := by decide +kernel
theorem dX2_removeAt_75 : decode cX2_removeAt 75 = .ok (.dup, 1) := by decide +kernel
theorem dX2_removeAt_76 : decode cX2_removeAt 76 = .ok (.getfield 24, 3) := by decide +kernel
theorem dX2_removeAt_79 : decode cX2_removeAt 79 = .ok (.iconst 1, 1) := by decide +kernel
theorem dX2_removeAt_80 : decode cX2_removeAt 80 = .ok (.isub, 1) := by decide +kernel
theorem dX2_removeAt_81 : decode cX2_removeAt 81 = .ok (.putfield 24, 3) := by decide +kernel
theorem dX2_removeAt_84 : decode cX2_removeAt 84 = .ok (.return_, 1) := by decide +kernel
theorem dX2_amplifiersBefore_0 : decode cX2_amplifiersBefore 0 = .ok (.iconst 0, 1) := by decide +kernel
theorem dX2_amplifiersBefore_1 : decode cX2_amplifiersBefore 1 = .ok (.istore_n 2, 1) := by decide +kernel
theorem dX2_amplifiersBefore_2 : decode cX2_amplifiersBefore 2 = .ok (.iconst 0, 1) := by decide +kernel
theorem dX2_amplifiersBefore_3 : decode cX2_amplifiersBefore 3 = .ok (.istore_n 3, 1) := by decide +kernel
theorem dX2_amplifiersBefore_4 : decode cX2_amplifiersBefore 4 = .ok (.iload_n 3, 1) := by decide +kernel
theorem dX2_amplifiersBefore_5 : decode cX2_amplifiersBefore 5 = .ok (.iload_n 1, 1) := by decide +kernel
theorem dX2_amplifiersBefore_6 : decode cX2_amplifiersBefore 6 = .ok (.if_icmp .ge 22, 3) := by decide +kernel
theorem dX2_amplifiersBefore_9 : decode cX2_amplifiersBefore 9 = .ok (.aload_n 0, 1) := by decide +kernel
theorem dX2_amplifiersBefore_10 : decode cX2_amplifiersBefore 10 = .ok (.getfield 9, 3) := by decide +kernel
theorem dX2_amplifiersBefore_13 : decode cX2_amplifiersBefore 13 = .ok (.iload_n 3, 1) := by decide +kernel
theorem dX2_amplifiersBefore_14 : decode cX2_amplifiersBefore 14 = .ok (.iaload, 1) := by decide +kernel
theorem dX2_amplifiersBefore_15 : decode cX2_amplifiersBefore 15 = .ok (.iconst 2, 1) := by decide +kernel
theorem dX2_amplifiersBefore_16 : decode cX2_amplifiersBefore 16 = .ok (.if_icmp .ne 6, 3) := by decide +kernel
theorem dX2_amplifiersBefore_19 : decode cX2_amplifiersBefore 19 = .ok (.iinc 2 1, 3) := by decide +kernel
theorem dX2_amplifiersBefore_22 : decode cX2_amplifiersBefore 22 = .ok (.iinc 3 1, 3) := by decide +kernel
theorem dX2_amplifiersBefore_25 : decode cX2_amplifiersBefore 25 = .ok (.goto (-21), 3) := by decide +kernel
theorem dX2_amplifiersBefore_28 : decode cX2_amplifiersBefore 28 = .ok (.iload_n 2, 1) := by decide +kernel
theorem dX2_amplifiersBefore_29 : decode cX2_amplifiersBefore 29 = .ok (.ireturn, 1) := by decide +kernel
theorem dX2_usedNodes_0 : decode cX2_usedNodes 0 = .ok (.iconst 0, 1) := by decide +kernel
theorem dX2_usedNodes_1 : decode cX2_usedNodes 1 = .ok (.istore_n 1, 1) := by decide +kernel
theorem dX2_usedNodes_2 : decode cX2_usedNodes 2 = .ok (.iconst 0, 1) := by decide +kernel
theorem dX2_usedNodes_3 : decode cX2_usedNodes 3 = .ok (.istore_n 2, 1) := by decide +kernel
theorem dX2_usedNodes_4 : decode cX2_usedNodes 4 = .ok (.iload_n 2, 1) := by decide +kernel
theorem dX2_usedNodes_5 : decode cX2_usedNodes 5 = .ok (.aload_n 0, 1) := by decide +kernel
theorem dX2_usedNodes_6 : decode cX2_usedNodes 6 = .ok (.getfield 24, 3) := by decide +kernel
theorem dX2_usedNodes_9 : decode cX2_usedNodes 9 = .ok (.if_icmp .ge 62, 3) := by decide +kernel
theorem dX2_usedNodes_12 : decode cX2_usedNodes 12 = .ok (.iload_n 1, 1) := by decide +kernel
theorem dX2_usedNodes_13 : decode cX2_usedNodes 13 = .ok (.iconst 1, 1) := by decide +kernel
theorem dX2_usedNodes_14 : decode cX2_usedNodes 14 = .ok (.aload_n 0, 1) := by decide +kernel
theorem dX2_usedNodes_15 : decode cX2_usedNodes 15 = .ok (.getfield 15, 3) := by decide +kernel
theorem dX2_usedNodes_18 : decode cX2_usedNodes 18 = .ok (.iload_n 2, 1) := by decide +kernel
theorem dX2_usedNodes_19 : decode cX2_usedNodes 19 = .ok (.iaload, 1) := by decide +kernel
theorem dX2_usedNodes_20 : decode cX2_usedNodes 20 = .ok (.ishl, 1) := by decide +kernel
theorem dX2_usedNodes_21 : decode cX2_usedNodes 21 = .ok (.ior, 1) := by decide +kernel
theorem dX2_usedNodes_22 : decode cX2_usedNodes 22 = .ok (.istore_n 1, 1) := by decide +kernel
theorem dX2_usedNodes_23 : decode cX2_usedNodes 23 = .ok (.aload_n 0, 1) := by decide +kernel
theorem dX2_usedNodes_24 : decode cX2_usedNodes 24 = .ok (.getfield 9, 3) := by decide +kernel
theorem dX2_usedNodes_27 : decode cX2_usedNodes 27 = .ok (.iload_n 2, 1) := by decide +kernel
theorem dX2_usedNodes_28 : decode cX2_usedNodes 28 = .ok (.iaload, 1) := by decide +kernel
theorem dX2_usedNodes_29 : decode cX2_usedNodes 29 = .ok (.iconst 1, 1) := by decide +kernel
theorem dX2_usedNodes_30 : decode cX2_usedNodes 30 = .ok (.if_icmp .eq 14, 3) := by decide +kernel
theorem dX2_usedNodes_33 : decode cX2_usedNodes 33 = .ok (.iload_n 1, 1) := by decide +kernel
theorem dX2_usedNodes_34 : decode cX2_usedNodes 34 = .ok (.iconst 1, 1) := by decide +kernel
theorem dX2_usedNodes_35 : decode cX2_usedNodes 35 = .ok (.aload_n 0, 1) := by decide +kernel
theorem dX2_usedNodes_36 : decode cX2_usedNodes 36 = .ok (.getfield 18, 3) := by decide +kernel
theorem dX2_usedNodes_39 : decode cX2_usedNodes 39 = .ok (.iload_n 2, 1) := by decide +kernel
theorem dX2_usedNodes_40 : decode cX2_usedNodes 40 = .ok (.iaload, 1) := by decide +kernel
theorem dX2_usedNodes_41 : decode cX2_usedNodes 41 = .ok (.ishl, 1) := by decide +kernel
theorem dX2_usedNodes_42 : decode cX2_usedNodes 42 = .ok (.ior, 1) := by decide +kernel
theorem dX2_usedNodes_43 : decode cX2_usedNodes 43 = .ok (.istore_n 1, 1) := by decide +kernel
theorem dX2_usedNodes_44 : decode cX2_usedNodes 44 = .ok (.aload_n 0, 1) := by decide +kernel
theorem dX2_usedNodes_45 : decode cX2_usedNodes 45 = .ok (.getfield 9, 3) := by decide +kernel
theorem dX2_usedNodes_48 : decode cX2_usedNodes 48 = .ok (.iload_n 2, 1) := by decide +kernel
theorem dX2_usedNodes_49 : decode cX2_usedNodes 49 = .ok (.iaload, 1) := by decide +kernel
theorem dX2_usedNodes_50 : decode cX2_usedNodes 50 = .ok (.iconst 2, 1) := by decide +kernel
theorem dX2_usedNodes_51 : decode cX2_usedNodes 51 = .ok (.if_icmp .ne 14, 3) := by decide +kernel
theorem dX2_usedNodes_54 : decode cX2_usedNodes 54 = .ok (.iload_n 1, 1) := by decide +kernel
theorem dX2_usedNodes_55 : decode cX2_usedNodes 55 = .ok (.iconst 1, 1) := by decide +kernel
theorem dX2_usedNodes_56 : decode cX2_usedNodes 56 = .ok (.aload_n 0, 1) := by decide +kernel
theorem dX2_usedNodes_57 : decode cX2_usedNodes 57 = .ok (.getfield 21, 3) := by decide +kernel
theorem dX2_usedNodes_60 : decode cX2_usedNodes 60 = .ok (.iload_n 2, 1) := by decide +kernel
theorem dX2_usedNodes_61 : decode cX2_usedNodes 61 = .ok (.iaload, 1) := by decide +kernel
theorem dX2_usedNodes_62 : decode cX2_usedNodes 62 = .ok (.ishl, 1) := by decide +kernel
theorem dX2_usedNodes_63 : decode cX2_usedNodes 63 = .ok (.ior, 1) := by decide +kernel
theorem dX2_usedNodes_64 : decode cX2_usedNodes 64 = .ok (.istore_n 1, 1) := by decide +kernel
theorem dX2_usedNodes_65 : decode cX2_usedNodes 65 = .ok (.iinc 2 1, 3) := by decide +kernel
theorem dX2_usedNodes_68 : decode cX2_usedNodes 68 = .ok (.goto (-64), 3) := by decide +kernel
theorem dX2_usedNodes_71 : decode cX2_usedNodes 71 = .ok (.iload_n 1, 1) := by decide +kernel
theorem dX2_usedNodes_72 : decode cX2_usedNodes 72 = .ok (.bipush (-2), 2) := by decide +kernel
theorem dX2_usedNodes_74 : decode cX2_usedNodes 74 = .ok (.iand, 1) := by decide +kernel
theorem dX2_usedNodes_75 : decode cX2_usedNodes 75 = .ok (.ireturn, 1) := by decide +kernel
theorem dX2_drivenNode_0 : decode cX2_drivenNode 0 = .ok (.aload_n 0, 1) := by decide +kernel
theorem dX2_drivenNode_1 : decode cX2_drivenNode 1 = .ok (.getfield 9, 3) := by decide +kernel
theorem dX2_drivenNode_4 : decode cX2_drivenNode 4 = .ok (.iload_n 1, 1) := by decide +kernel
theorem dX2_drivenNode_5 : decode cX2_drivenNode 5 = .ok (.iaload, 1) := by decide +kernel
theorem dX2_drivenNode_6 : decode cX2_drivenNode 6 = .ok (.lookupswitch 40 #[(1, 26), (2, 33)], 26) := by decide +kernel
theorem dX2_drivenNode_32 : decode cX2_drivenNode 32 = .ok (.aload_n 0, 1) := by decide +kernel
theorem dX2_drivenNode_33 : decode cX2_drivenNode 33 = .ok (.getfield 15, 3) := by decide +kernel
theorem dX2_drivenNode_36 : decode cX2_drivenNode 36 = .ok (.iload_n 1, 1) := by decide +kernel
theorem dX2_drivenNode_37 : decode cX2_drivenNode 37 = .ok (.iaload, 1) := by decide +kernel
theorem dX2_drivenNode_38 : decode cX2_drivenNode 38 = .ok (.ireturn, 1) := by decide +kernel
theorem dX2_drivenNode_39 : decode cX2_drivenNode 39 = .ok (.aload_n 0, 1) := by decide +kernel
theorem dX2_drivenNode_40 : decode cX2_drivenNode 40 = .ok (.getfield 21, 3) := by decide +kernel
theorem dX2_drivenNode_43 : decode cX2_drivenNode 43 = .ok (.iload_n 1, 1) := by decide +kernel
theorem dX2_drivenNode_44 : decode cX2_drivenNode 44 = .ok (.iaload, 1) := by decide +kernel
theorem dX2_drivenNode_45 : decode cX2_drivenNode 45 = .ok (.ireturn, 1) := by decide +kernel
theorem dX2_drivenNode_46 : decode cX2_drivenNode 46 = .ok (.iconst (-1), 1) := by decide +kernel
theorem dX2_drivenNode_47 : decode cX2_drivenNode 47 = .ok (.ireturn, 1) := by decide +kernel
theorem dX2_drivenNodes_0 : decode cX2_drivenNodes 0 = .ok (.iconst 0, 1) := by decide +kernel
theorem dX2_drivenNodes_1 : decode cX2_drivenNodes 1 = .ok (.istore_n 1, 1) := by decide +kernel
theorem dX2_drivenNodes_2 : decode cX2_drivenNodes 2 = .ok (.iconst 0, 1) := by decide +kernel
theorem dX2_drivenNodes_3 : decode cX2_drivenNodes 3 = .ok (.istore_n 2, 1) := by decide +kernel
theorem dX2_drivenNodes_4 : decode cX2_drivenNodes 4 = .ok (.iload_n 2, 1) := by decide +kernel
theorem dX2_drivenNodes_5 : decode cX2_drivenNodes 5 = .ok (.aload_n 0, 1) := by decide +kernel
theorem dX2_drivenNodes_6 : decode cX2_drivenNodes 6 = .ok (.getfield 24, 3) := by decide +kernel
theorem dX2_drivenNodes_9 : decode cX2_drivenNodes 9 = .ok (.if_icmp .ge 28, 3) := by decide +kernel
theorem dX2_drivenNodes_12 : decode cX2_drivenNodes 12 = .ok (.aload_n 0, 1) := by decide +kernel
theorem dX2_drivenNodes_13 : decode cX2_drivenNodes 13 = .ok (.getfield 9, 3) := by decide +kernel
theorem dX2_drivenNodes_16 : decode cX2_drivenNodes 16 = .ok (.iload_n 2, 1) := by decide +kernel
theorem dX2_drivenNodes_17 : decode cX2_drivenNodes 17 = .ok (.iaload, 1) := by decide +kernel
theorem dX2_drivenNodes_18 : decode cX2_drivenNodes 18 = .ok (.ifCond .eq 13, 3) := by decide +kernel
theorem dX2_drivenNodes_21 : decode cX2_drivenNodes 21 = .ok (.iload_n 1, 1) := by decide +kernel
theorem dX2_drivenNodes_22 : decode cX2_drivenNodes 22 = .ok (.iconst 1, 1) := by decide +kernel
theorem dX2_drivenNodes_23 : decode cX2_drivenNodes 23 = .ok (.aload_n 0, 1) := by decide +kernel
theorem dX2_drivenNodes_24 : decode cX2_drivenNodes 24 = .ok (.iload_n 2, 1) := by decide +kernel
theorem dX2_drivenNodes_25 : decode cX2_drivenNodes 25 = .ok (.invokevirtual 36, 3) := by decide +kernel
theorem dX2_drivenNodes_28 : decode cX2_drivenNodes 28 = .ok (.ishl, 1) := by decide +kernel
theorem dX2_drivenNodes_29 : decode cX2_drivenNodes 29 = .ok (.ior, 1) := by decide +kernel
theorem dX2_drivenNodes_30 : decode cX2_drivenNodes 30 = .ok (.istore_n 1, 1) := by decide +kernel
theorem dX2_drivenNodes_31 : decode cX2_drivenNodes 31 = .ok (.iinc 2 1, 3) := by decide +kernel
theorem dX2_drivenNodes_34 : decode cX2_drivenNodes 34 = .ok (.goto (-30), 3) := by decide +kernel
theorem dX2_drivenNodes_37 : decode cX2_drivenNodes 37 = .ok (.iload_n 1, 1) := by decide +kernel
theorem dX2_drivenNodes_38 : decode cX2_drivenNodes 38 = .ok (.ireturn, 1) := by decide +kernel
theorem dX2_haveNodesAsTold_0 : decode cX2_haveNodesAsTold 0 = .ok (.iconst 0, 1) := by decide +kernel
theorem dX2_haveNodesAsTold_1 : decode cX2_haveNodesAsTold 1 = .ok (.istore_n 1, 1) := by decide +kernel
theorem dX2_haveNodesAsTold_2 : decode cX2_haveNodesAsTold 2 = .ok (.iload_n 1, 1) := by decide +kernel
theorem dX2_haveNodesAsTold_3 : decode cX2_haveNodesAsTold 3 = .ok (.aload_n 0, 1) := by decide +kernel
theorem dX2_haveNodesAsTold_4 : decode cX2_haveNodesAsTold 4 = .ok (.getfield 24, 3) := by decide +kernel
theorem dX2_haveNodesAsTold_7 : decode cX2_haveNodesAsTold 7 = .ok (.if_icmp .ge 19, 3) := by decide +kernel
theorem dX2_haveNodesAsTold_10 : decode cX2_haveNodesAsTold 10 = .ok (.aload_n 0, 1) := by decide +kernel
theorem dX2_haveNodesAsTold_11 : decode cX2_haveNodesAsTold 11 = .ok (.iload_n 1, 1) := by decide +kernel
theorem dX2_haveNodesAsTold_12 : decode cX2_haveNodesAsTold 12 = .ok (.invokevirtual 40, 3) := by decide +kernel
theorem dX2_haveNodesAsTold_15 : decode cX2_haveNodesAsTold 15 = .ok (.ifCond .ne 5, 3) := by decide +kernel
theorem dX2_haveNodesAsTold_18 : decode cX2_haveNodesAsTold 18 = .ok (.iconst 0, 1) := by decide +kernel
theorem dX2_haveNodesAsTold_19 : decode cX2_haveNodesAsTold 19 = .ok (.ireturn, 1) := by decide +kernel
theorem dX2_haveNodesAsTold_20 : decode cX2_haveNodesAsTold 20 = .ok (.iinc 1 1, 3) := by decide +kernel
theorem dX2_haveNodesAsTold_23 : decode cX2_haveNodesAsTold 23 = .ok (.goto (-21), 3) := by decide +kernel
theorem dX2_haveNodesAsTold_26 : decode cX2_haveNodesAsTold 26 = .ok (.iconst 1, 1) := by decide +kernel
theorem dX2_haveNodesAsTold_27 : decode cX2_haveNodesAsTold 27 = .ok (.ireturn, 1) := by decide +kernel
theorem dX2_hasNodesAsTold_0 : decode cX2_hasNodesAsTold 0 = .ok (.aload_n 0, 1) := by decide +kernel
theorem dX2_hasNodesAsTold_1 : decode cX2_hasNodesAsTold 1 = .ok (.getfield 9, 3) := by decide +kernel
theorem dX2_hasNodesAsTold_4 : decode cX2_hasNodesAsTold 4 = .ok (.iload_n 1, 1) := by decide +kernel
theorem dX2_hasNodesAsTold_5 : decode cX2_hasNodesAsTold 5 = .ok (.iaload, 1) := by decide +kernel
theorem dX2_hasNodesAsTold_6 : decode cX2_hasNodesAsTold 6 = .ok (.iconst 1, 1) := by decide +kernel
theorem dX2_hasNodesAsTold_7 : decode cX2_hasNodesAsTold 7 = .ok (.if_icmp .ne 18, 3) := by decide +kernel
theorem dX2_hasNodesAsTold_10 : decode cX2_hasNodesAsTold 10 = .ok (.aload_n 0, 1) := by decide +kernel
theorem dX2_hasNodesAsTold_11 : decode cX2_hasNodesAsTold 11 = .ok (.getfield 15, 3) := by decide +kernel
theorem dX2_hasNodesAsTold_14 : decode cX2_hasNodesAsTold 14 = .ok (.iload_n 1, 1) := by decide +kernel
theorem dX2_hasNodesAsTold_15 : decode cX2_hasNodesAsTold 15 = .ok (.iaload, 1) := by decide +kernel
theorem dX2_hasNodesAsTold_16 : decode cX2_hasNodesAsTold 16 = .ok (.ifCond .eq 7, 3) := by decide +kernel
theorem dX2_hasNodesAsTold_19 : decode cX2_hasNodesAsTold 19 = .ok (.iconst 1, 1) := by decide +kernel
theorem dX2_hasNodesAsTold_20 : decode cX2_hasNodesAsTold 20 = .ok (.goto 4, 3) := by decide +kernel
theorem dX2_hasNodesAsTold_23 : decode cX2_hasNodesAsTold 23 = .ok (.iconst 0, 1) := by decide +kernel
theorem dX2_hasNodesAsTold_24 : decode cX2_hasNodesAsTold 24 = .ok (.ireturn, 1) := by decide +kernel
theorem dX2_hasNodesAsTold_25 : decode cX2_hasNodesAsTold 25 = .ok (.aload_n 0, 1) := by decide +kernel
theorem dX2_hasNodesAsTold_26 : decode cX2_hasNodesAsTold 26 = .ok (.getfield 15, 3) := by decide +kernel
theorem dX2_hasNodesAsTold_29 : decode cX2_hasNodesAsTold 29 = .ok (.iload_n 1, 1) := by decide +kernel
theorem dX2_hasNodesAsTold_30 : decode cX2_hasNodesAsTold 30 = .ok (.iaload, 1) := by decide +kernel
theorem dX2_hasNodesAsTold_31 : decode cX2_hasNodesAsTold 31 = .ok (.aload_n 0, 1) := by decide +kernel
theorem dX2_hasNodesAsTold_32 : decode cX2_hasNodesAsTold 32 = .ok (.getfield 18, 3) := by decide +kernel
theorem dX2_hasNodesAsTold_35 : decode cX2_hasNodesAsTold 35 = .ok (.iload_n 1, 1) := by decide +kernel
theorem dX2_hasNodesAsTold_36 : decode cX2_hasNodesAsTold 36 = .ok (.iaload, 1) := by decide +kernel
theorem dX2_hasNodesAsTold_37 : decode cX2_hasNodesAsTold 37 = .ok (.if_icmp .ne 5, 3) := by decide +kernel
theorem dX2_hasNodesAsTold_40 : decode cX2_hasNodesAsTold 40 = .ok (.iconst 0, 1) := by decide +kernel
theorem dX2_hasNodesAsTold_41 : decode cX2_hasNodesAsTold 41 = .ok (.ireturn, 1) := by decide +kernel
theorem dX2_hasNodesAsTold_42 : decode cX2_hasNodesAsTold 42 = .ok (.aload_n 0, 1) := by decide +kernel
theorem dX2_hasNodesAsTold_43 : decode cX2_hasNodesAsTold 43 = .ok (.getfield 9, 3) := by decide +kernel
theorem dX2_hasNodesAsTold_46 : decode cX2_hasNodesAsTold 46 = .ok (.iload_n 1, 1) := by decide +kernel
theorem dX2_hasNodesAsTold_47 : decode cX2_hasNodesAsTold 47 = .ok (.iaload, 1) := by decide +kernel
theorem dX2_hasNodesAsTold_48 : decode cX2_hasNodesAsTold 48 = .ok (.ifCond .ne 5, 3) := by decide +kernel
theorem dX2_hasNodesAsTold_51 : decode cX2_hasNodesAsTold 51 = .ok (.iconst 1, 1) := by decide +kernel
theorem dX2_hasNodesAsTold_52 : decode cX2_hasNodesAsTold 52 = .ok (.ireturn, 1) := by decide +kernel
theorem dX2_hasNodesAsTold_53 : decode cX2_hasNodesAsTold 53 = .ok (.aload_n 0, 1) := by decide +kernel
theorem dX2_hasNodesAsTold_54 : decode cX2_hasNodesAsTold 54 = .ok (.getfield 21, 3) := by decide +kernel
theorem dX2_hasNodesAsTold_57 : decode cX2_hasNodesAsTold 57 = .ok (.iload_n 1, 1) := by decide +kernel
theorem dX2_hasNodesAsTold_58 : decode cX2_hasNodesAsTold 58 = .ok (.iaload, 1) := by decide +kernel
theorem dX2_hasNodesAsTold_59 : decode cX2_hasNodesAsTold 59 = .ok (.istore_n 2, 1) := by decide +kernel
theorem dX2_hasNodesAsTold_60 : decode cX2_hasNodesAsTold 60 = .ok (.iload_n 2, 1) := by decide +kernel
theorem dX2_hasNodesAsTold_61 : decode cX2_hasNodesAsTold 61 = .ok (.ifCond .eq 27, 3) := by decide +kernel
theorem dX2_hasNodesAsTold_64 : decode cX2_hasNodesAsTold 64 = .ok (.iload_n 2, 1) := by decide +kernel
theorem dX2_hasNodesAsTold_65 : decode cX2_hasNodesAsTold 65 = .ok (.aload_n 0, 1) := by decide +kernel
theorem dX2_hasNodesAsTold_66 : decode cX2_hasNodesAsTold 66 = .ok (.getfield 15, 3) := by decide +kernel
theorem dX2_hasNodesAsTold_69 : decode cX2_hasNodesAsTold 69 = .ok (.iload_n 1, 1) := by decide +kernel
theorem dX2_hasNodesAsTold_70 : decode cX2_hasNodesAsTold 70 = .ok (.iaload, 1) := by decide +kernel
theorem dX2_hasNodesAsTold_71 : decode cX2_hasNodesAsTold 71 = .ok (.if_icmp .eq 17, 3) := by decide +kernel
theorem dX2_hasNodesAsTold_74 : decode cX2_hasNodesAsTold 74 = .ok (.iload_n 2, 1) := by decide +kernel
theorem dX2_hasNodesAsTold_75 : decode cX2_hasNodesAsTold 75 = .ok (.aload_n 0, 1) := by decide +kernel
theorem dX2_hasNodesAsTold_76 : decode cX2_hasNodesAsTold 76 = .ok (.getfield 18, 3) := by decide +kernel
theorem dX2_hasNodesAsTold_79 : decode cX2_hasNodesAsTold 79 = .ok (.iload_n 1, 1) := by decide +kernel
theorem dX2_hasNodesAsTold_80 : decode cX2_hasNodesAsTold 80 = .ok (.iaload, 1) := by decide +kernel
theorem dX2_hasNodesAsTold_81 : decode cX2_hasNodesAsTold 81 = .ok (.if_icmp .eq 7, 3) := by decide +kernel
theorem dX2_hasNodesAsTold_84 : decode cX2_hasNodesAsTold 84 = .ok (.iconst 1, 1) := by decide +kernel
theorem dX2_hasNodesAsTold_85 : decode cX2_hasNodesAsTold 85 = .ok (.goto 4, 3) := by decide +kernel
theorem dX2_hasNodesAsTold_88 : decode cX2_hasNodesAsTold 88 = .ok (.iconst 0, 1) := by decide +kernel
theorem dX2_hasNodesAsTold_89 : decode cX2_hasNodesAsTold 89 = .ok (.ireturn, 1) := by decide +kernel
theorem dX2_haveRoomFor_0 : decode cX2_haveRoomFor 0 = .ok (.aload_n 0, 1) := by decide +kernel
theorem dX2_haveRoomFor_1 : decode cX2_haveRoomFor 1 = .ok (.getfield 24, 3) := by decide +kernel
theorem dX2_haveRoomFor_4 : decode cX2_haveRoomFor 4 = .ok (.aload_n 1, 1) := by decide +kernel
theorem dX2_haveRoomFor_5 : decode cX2_haveRoomFor 5 = .ok (.getfield 24, 3) := by decide +kernel
theorem dX2_haveRoomFor_8 : decode cX2_haveRoomFor 8 = .ok (.iadd, 1) := by decide +kernel
theorem dX2_haveRoomFor_9 : decode cX2_haveRoomFor 9 = .ok (.bipush 12, 2) := by decide +kernel
theorem dX2_haveRoomFor_11 : decode cX2_haveRoomFor 11 = .ok (.if_icmp .le 5, 3) := by decide +kernel
theorem dX2_haveRoomFor_14 : decode cX2_haveRoomFor 14 = .ok (.iconst 0, 1) := by decide +kernel
theorem dX2_haveRoomFor_15 : decode cX2_haveRoomFor 15 = .ok (.ireturn, 1) := by decide +kernel
theorem dX2_haveRoomFor_16 : decode cX2_haveRoomFor 16 = .ok (.aload_n 0, 1) := by decide +kernel
theorem dX2_haveRoomFor_17 : decode cX2_haveRoomFor 17 = .ok (.aload_n 0, 1) := by decide +kernel
theorem dX2_haveRoomFor_18 : decode cX2_haveRoomFor 18 = .ok (.getfield 24, 3) := by decide +kernel
theorem dX2_haveRoomFor_21 : decode cX2_haveRoomFor 21 = .ok (.invokevirtual 44, 3) := by decide +kernel
theorem dX2_haveRoomFor_24 : decode cX2_haveRoomFor 24 = .ok (.aload_n 1, 1) := by decide +kernel
theorem dX2_haveRoomFor_25 : decode cX2_haveRoomFor 25 = .ok (.aload_n 1, 1) := by decide +kernel
theorem dX2_haveRoomFor_26 : decode cX2_haveRoomFor 26 = .ok (.getfield 24, 3) := by decide +kernel
theorem dX2_haveRoomFor_29 : decode cX2_haveRoomFor 29 = .ok (.invokevirtual 44, 3) := by decide +kernel
theorem dX2_haveRoomFor_32 : decode cX2_haveRoomFor 32 = .ok (.iadd, 1) := by decide +kernel
theorem dX2_haveRoomFor_33 : decode cX2_haveRoomFor 33 = .ok (.iconst 3, 1) := by decide +kernel
theorem dX2_haveRoomFor_34 : decode cX2_haveRoomFor 34 = .ok (.if_icmp .le 5, 3) := by decide +kernel
theorem dX2_haveRoomFor_37 : decode cX2_haveRoomFor 37 = .ok (.iconst 0, 1) := by decide +kernel
theorem dX2_haveRoomFor_38 : decode cX2_haveRoomFor 38 = .ok (.ireturn, 1) := by decide +kernel
theorem dX2_haveRoomFor_39 : decode cX2_haveRoomFor 39 = .ok (.aload_n 0, 1) := by decide +kernel
theorem dX2_haveRoomFor_40 : decode cX2_haveRoomFor 40 = .ok (.invokevirtual 47, 3) := by decide +kernel
theorem dX2_haveRoomFor_43 : decode cX2_haveRoomFor 43 = .ok (.istore_n 2, 1) := by decide +kernel
theorem dX2_haveRoomFor_44 : decode cX2_haveRoomFor 44 = .ok (.iconst 0, 1) := by decide +kernel
theorem dX2_haveRoomFor_45 : decode cX2_haveRoomFor 45 = .ok (.istore_n 3, 1) := by decide +kernel
theorem dX2_haveRoomFor_46 : decode cX2_haveRoomFor 46 = .ok (.iload_n 3, 1) := by decide +kernel
theorem dX2_haveRoomFor_47 : decode cX2_haveRoomFor 47 = .ok (.aload_n 1, 1) := by decide +kernel
theorem dX2_haveRoomFor_48 : decode cX2_haveRoomFor 48 = .ok (.getfield 24, 3) := by decide +kernel
theorem dX2_haveRoomFor_51 : decode cX2_haveRoomFor 51 = .ok (.if_icmp .ge 43, 3) := by decide +kernel
theorem dX2_haveRoomFor_54 : decode cX2_haveRoomFor 54 = .ok (.aload_n 1, 1) := by decide +kernel
theorem dX2_haveRoomFor_55 : decode cX2_haveRoomFor 55 = .ok (.getfield 9, 3) := by decide +kernel
theorem dX2_haveRoomFor_58 : decode cX2_haveRoomFor 58 = .ok (.iload_n 3, 1) := by decide +kernel
theorem dX2_haveRoomFor_59 : decode cX2_haveRoomFor 59 = .ok (.iaload, 1) := by decide +kernel
theorem dX2_haveRoomFor_60 : decode cX2_haveRoomFor 60 = .ok (.ifCond .eq 28, 3) := by decide +kernel
theorem dX2_haveRoomFor_63 : decode cX2_haveRoomFor 63 = .ok (.aload_n 1, 1) := by decide +kernel
theorem dX2_haveRoomFor_64 : decode cX2_haveRoomFor 64 = .ok (.iload_n 3, 1) := by decide +kernel
theorem dX2_haveRoomFor_65 : decode cX2_haveRoomFor 65 = .ok (.invokevirtual 36, 3) := by decide +kernel
theorem dX2_haveRoomFor_68 : decode cX2_haveRoomFor 68 = .ok (.istore 4, 2) := by decide +kernel
theorem dX2_haveRoomFor_70 : decode cX2_haveRoomFor 70 = .ok (.iload_n 2, 1) := by decide +kernel
theorem dX2_haveRoomFor_71 : decode cX2_haveRoomFor 71 = .ok (.iload 4, 2) := by decide +kernel
theorem dX2_haveRoomFor_73 : decode cX2_haveRoomFor 73 = .ok (.invokestatic 51, 3) := by decide +kernel
theorem dX2_haveRoomFor_76 : decode cX2_haveRoomFor 76 = .ok (.ifCond .eq 5, 3) := by decide +kernel
theorem dX2_haveRoomFor_79 : decode cX2_haveRoomFor 79 = .ok (.iconst 0, 1) := by decide +kernel
theorem dX2_haveRoomFor_80 : decode cX2_haveRoomFor 80 = .ok (.ireturn, 1) := by decide +kernel
theorem dX2_haveRoomFor_81 : decode cX2_haveRoomFor 81 = .ok (.iload_n 2, 1) := by decide +kernel
theorem dX2_haveRoomFor_82 : decode cX2_haveRoomFor 82 = .ok (.iconst 1, 1) := by decide +kernel
theorem dX2_haveRoomFor_83 : decode cX2_haveRoomFor 83 = .ok (.iload 4, 2) := by decide +kernel
theorem dX2_haveRoomFor_85 : decode cX2_haveRoomFor 85 = .ok (.ishl, 1) := by decide +kernel
theorem dX2_haveRoomFor_86 : decode cX2_haveRoomFor 86 = .ok (.ior, 1) := by decide +kernel
theorem dX2_haveRoomFor_87 : decode cX2_haveRoomFor 87 = .ok (.istore_n 2, 1) := by decide +kernel
theorem dX2_haveRoomFor_88 : decode cX2_haveRoomFor 88 = .ok (.iinc 3 1, 3) := by decide +kernel
theorem dX2_haveRoomFor_91 : decode cX2_haveRoomFor 91 = .ok (.goto (-45), 3) := by decide +kernel
theorem dX2_haveRoomFor_94 : decode cX2_haveRoomFor 94 = .ok (.iconst 1, 1) := by decide +kernel
theorem dX2_haveRoomFor_95 : decode cX2_haveRoomFor 95 = .ok (.ireturn, 1) := by decide +kernel
theorem dX3_init_0 : decode cX3_init 0 = .ok (.aload_n 0, 1) := by decide +kernel
theorem dX3_init_1 : decode cX3_init 1 = .ok (.invokespecial 3, 3) := by decide +kernel
theorem dX3_init_4 : decode cX3_init 4 = .ok (.aload_n 0, 1) := by decide +kernel
theorem dX3_init_5 : decode cX3_init 5 = .ok (.bipush 8, 2) := by decide +kernel
theorem dX3_init_7 : decode cX3_init 7 = .ok (.newarray .long, 2) := by decide +kernel
theorem dX3_init_9 : decode cX3_init 9 = .ok (.putfield 9, 3) := by decide +kernel
theorem dX3_init_12 : decode cX3_init 12 = .ok (.aload_n 0, 1) := by decide +kernel
theorem dX3_init_13 : decode cX3_init 13 = .ok (.bipush 8, 2) := by decide +kernel
theorem dX3_init_15 : decode cX3_init 15 = .ok (.bipush 49, 2) := by decide +kernel
theorem dX3_init_17 : decode cX3_init 17 = .ok (.multianewarray 15 2, 4) := by decide +kernel
theorem dX3_init_21 : decode cX3_init 21 = .ok (.putfield 17, 3) := by decide +kernel
theorem dX3_init_24 : decode cX3_init 24 = .ok (.aload_n 0, 1) := by decide +kernel
theorem dX3_init_25 : decode cX3_init 25 = .ok (.bipush 7, 2) := by decide +kernel
theorem dX3_init_27 : decode cX3_init 27 = .ok (.bipush 14, 2) := by decide +kernel
theorem dX3_init_29 : decode cX3_init 29 = .ok (.multianewarray 15 2, 4) := by decide +kernel
theorem dX3_init_33 : decode cX3_init 33 = .ok (.putfield 20, 3) := by decide +kernel
theorem dX3_init_36 : decode cX3_init 36 = .ok (.return_, 1) := by decide +kernel
theorem dX3_solve_0 : decode cX3_solve 0 = .ok (.iconst 0, 1) := by decide +kernel
theorem dX3_solve_1 : decode cX3_solve 1 = .ok (.istore_n 3, 1) := by decide +kernel
theorem dX3_solve_2 : decode cX3_solve 2 = .ok (.iload_n 3, 1) := by decide +kernel
theorem dX3_solve_3 : decode cX3_solve 3 = .ok (.iconst 1, 1) := by decide +kernel
theorem dX3_solve_4 : decode cX3_solve 4 = .ok (.iload_n 2, 1) := by decide +kernel
theorem dX3_solve_5 : decode cX3_solve 5 = .ok (.ishl, 1) := by decide +kernel
theorem dX3_solve_6 : decode cX3_solve 6 = .ok (.if_icmp .ge 54, 3) := by decide +kernel
theorem dX3_solve_9 : decode cX3_solve 9 = .ok (.aload_n 0, 1) := by decide +kernel
theorem dX3_solve_10 : decode cX3_solve 10 = .ok (.aload_n 1, 1) := by decide +kernel
theorem dX3_solve_11 : decode cX3_solve 11 = .ok (.iload_n 3, 1) := by decide +kernel
theorem dX3_solve_12 : decode cX3_solve 12 = .ok (.invokevirtual 23, 3) := by decide +kernel
theorem dX3_solve_15 : decode cX3_solve 15 = .ok (.aload_n 0, 1) := by decide +kernel
theorem dX3_solve_16 : decode cX3_solve 16 = .ok (.invokevirtual 27, 3) := by decide +kernel
theorem dX3_solve_19 : decode cX3_solve 19 = .ok (.lstore 4, 2) := by decide +kernel
theorem dX3_solve_21 : decode cX3_solve 21 = .ok (.aload_n 0, 1) := by decide +kernel
theorem dX3_solve_22 : decode cX3_solve 22 = .ok (.getfield 9, 3) := by decide +kernel
theorem dX3_solve_25 : decode cX3_solve 25 = .ok (.iload_n 3, 1) := by decide +kernel
theorem dX3_solve_26 : decode cX3_solve 26 = .ok (.lload 4, 2) := by decide +kernel
theorem dX3_solve_28 : decode cX3_solve 28 = .ok (.invokestatic 31, 3) := by decide +kernel
theorem dX3_solve_31 : decode cX3_solve 31 = .ok (.lastore, 1) := by decide +kernel
theorem dX3_solve_32 : decode cX3_solve 32 = .ok (.aload_n 0, 1) := by decide +kernel
theorem dX3_solve_33 : decode cX3_solve 33 = .ok (.aload_n 0, 1) := by decide +kernel
theorem dX3_solve_34 : decode cX3_solve 34 = .ok (.getfield 17, 3) := by decide +kernel
theorem dX3_solve_37 : decode cX3_solve 37 = .ok (.iload_n 3, 1) := by decide +kernel
theorem dX3_solve_38 : decode cX3_solve 38 = .ok (.aaload, 1) := by decide +kernel
theorem dX3_solve_39 : decode cX3_solve 39 = .ok (.lload 4, 2) := by decide +kernel
theorem dX3_solve_41 : decode cX3_solve 41 = .ok (.lconst 0, 1) := by decide +kernel
theorem dX3_solve_42 : decode cX3_solve 42 = .ok (.lcmp, 1) := by decide +kernel
theorem dX3_solve_43 : decode cX3_solve 43 = .ok (.ifCond .ge 7, 3) := by decide +kernel
theorem dX3_solve_46 : decode cX3_solve 46 = .ok (.iconst (-1), 1) := by decide +kernel
theorem dX3_solve_47 : decode cX3_solve 47 = .ok (.goto 4, 3) := by decide +kernel
theorem dX3_solve_50 : decode cX3_solve 50 = .ok (.iconst 1, 1) := by decide +kernel
theorem dX3_solve_51 : decode cX3_solve 51 = .ok (.invokevirtual 37, 3) := by decide +kernel
theorem dX3_solve_54 : decode cX3_solve 54 = .ok (.iinc 3 1, 3) := by decide +kernel
theorem dX3_solve_57 : decode cX3_solve 57 = .ok (.goto (-55), 3) := by decide +kernel
theorem dX3_solve_60 : decode cX3_solve 60 = .ok (.return_, 1) := by decide +kernel
theorem dX3_writeRows_0 : decode cX3_writeRows 0 = .ok (.aload_n 1, 1) := by decide +kernel
theorem dX3_writeRows_1 : decode cX3_writeRows 1 = .ok (.invokevirtual 41, 3) := by decide +kernel
theorem dX3_writeRows_4 : decode cX3_writeRows 4 = .ok (.aload_n 1, 1) := by decide +kernel
theorem dX3_writeRows_5 : decode cX3_writeRows 5 = .ok (.invokevirtual 47, 3) := by decide +kernel
theorem dX3_writeRows_8 : decode cX3_writeRows 8 = .ok (.iconst (-1), 1) := by decide +kernel
theorem dX3_writeRows_9 : decode cX3_writeRows 9 = .ok (.ixor, 1) := by decide +kernel
theorem dX3_writeRows_10 : decode cX3_writeRows 10 = .ok (.iand, 1) := by decide +kernel
theorem dX3_writeRows_11 : decode cX3_writeRows 11 = .ok (.istore_n 3, 1) := by decide +kernel
theorem dX3_writeRows_12 : decode cX3_writeRows 12 = .ok (.iconst 0, 1) := by decide +kernel
theorem dX3_writeRows_13 : decode cX3_writeRows 13 = .ok (.istore 4, 2) := by decide +kernel
theorem dX3_writeRows_15 : decode cX3_writeRows 15 = .ok (.iload 4, 2) := by decide +kernel
theorem dX3_writeRows_17 : decode cX3_writeRows 17 = .ok (.bipush 7, 2) := by decide +kernel
theorem dX3_writeRows_19 : decode cX3_writeRows 19 = .ok (.if_icmp .ge 35, 3) := by decide +kernel
theorem dX3_writeRows_22 : decode cX3_writeRows 22 = .ok (.aload_n 0, 1) := by decide +kernel
theorem dX3_writeRows_23 : decode cX3_writeRows 23 = .ok (.getfield 20, 3) := by decide +kernel
theorem dX3_writeRows_26 : decode cX3_writeRows 26 = .ok (.iload 4, 2) := by decide +kernel
theorem dX3_writeRows_28 : decode cX3_writeRows 28 = .ok (.aaload, 1) := by decide +kernel
theorem dX3_writeRows_29 : decode cX3_writeRows 29 = .ok (.lconst 0, 1) := by decide +kernel
theorem dX3_writeRows_30 : decode cX3_writeRows 30 = .ok (.invokestatic 50, 3) := by decide +kernel
theorem dX3_writeRows_33 : decode cX3_writeRows 33 = .ok (.iload_n 3, 1) := by decide +kernel
theorem dX3_writeRows_34 : decode cX3_writeRows 34 = .ok (.iload 4, 2) := by decide +kernel
theorem dX3_writeRows_36 : decode cX3_writeRows 36 = .ok (.invokestatic 56, 3) := by decide +kernel
theorem dX3_writeRows_39 : decode cX3_writeRows 39 = .ok (.ifCond .ne 9, 3) := by decide +kernel
theorem dX3_writeRows_42 : decode cX3_writeRows 42 = .ok (.aload_n 0, 1) := by decide +kernel
theorem dX3_writeRows_43 : decode cX3_writeRows 43 = .ok (.iload 4, 2) := by decide +kernel
theorem dX3_writeRows_45 : decode cX3_writeRows 45 = .ok (.invokevirtual 60, 3) := by decide +kernel
theorem dX3_writeRows_48 : decode cX3_writeRows 48 = .ok (.iinc 4 1, 3) := by decide +kernel
theorem dX3_writeRows_51 : decode cX3_writeRows 51 = .ok (.goto (-36), 3) := by decide +kernel
theorem dX3_writeRows_54 : decode cX3_writeRows 54 = .ok (.iconst 0, 1) := by decide +kernel
theorem dX3_writeRows_55 : decode cX3_writeRows 55 = .ok (.istore 4, 2) := by decide +kernel
theorem dX3_writeRows_57 : decode cX3_writeRows 57 = .ok (.iconst 0, 1) := by decide +kernel
theorem dX3_writeRows_58 : decode cX3_writeRows 58 = .ok (.istore 5, 2) := by decide +kernel
theorem dX3_writeRows_60 : decode cX3_writeRows 60 = .ok (.iload 5, 2) := by decide +kernel
theorem dX3_writeRows_62 : decode cX3_writeRows 62 = .ok (.aload_n 1, 1) := by decide +kernel
theorem dX3_writeRows_63 : decode cX3_writeRows 63 = .ok (.getfield 64, 3) := by decide +kernel
theorem dX3_writeRows_66 : decode cX3_writeRows 66 = .ok (.if_icmp .ge 122, 3) := by decide +kernel
theorem dX3_writeRows_69 : decode cX3_writeRows 69 = .ok (.aload_n 1, 1) := by decide +kernel
theorem dX3_writeRows_70 : decode cX3_writeRows 70 = .ok (.getfield 68, 3) := by decide +kernel
theorem dX3_writeRows_73 : decode cX3_writeRows 73 = .ok (.iload 5, 2) := by decide +kernel
theorem dX3_writeRows_75 : decode cX3_writeRows 75 = .ok (.iaload, 1) := by decide +kernel
theorem dX3_writeRows_76 : decode cX3_writeRows 76 = .ok (.ifCond .ne 58, 3) := by decide +kernel
theorem dX3_writeRows_79 : decode cX3_writeRows 79 = .ok (.aload_n 0, 1) := by decide +kernel
theorem dX3_writeRows_80 : decode cX3_writeRows 80 = .ok (.aload_n 1, 1) := by decide +kernel
theorem dX3_writeRows_81 : decode cX3_writeRows 81 = .ok (.getfield 72, 3) := by decide +kernel
theorem dX3_writeRows_84 : decode cX3_writeRows 84 = .ok (.iload 5, 2) := by decide +kernel
theorem dX3_writeRows_86 : decode cX3_writeRows 86 = .ok (.iaload, 1) := by decide +kernel
theorem dX3_writeRows_87 : decode cX3_writeRows 87 = .ok (.aload_n 1, 1) := by decide +kernel
theorem dX3_writeRows_88 : decode cX3_writeRows 88 = .ok (.getfield 75, 3) := by decide +kernel
theorem dX3_writeRows_91 : decode cX3_writeRows 91 = .ok (.iload 5, 2) := by decide +kernel
theorem dX3_writeRows_93 : decode cX3_writeRows 93 = .ok (.iaload, 1) := by decide +kernel
theorem dX3_writeRows_94 : decode cX3_writeRows 94 = .ok (.aload_n 1, 1) := by decide +kernel
theorem dX3_writeRows_95 : decode cX3_writeRows 95 = .ok (.getfield 78, 3) := by decide +kernel
theorem dX3_writeRows_98 : decode cX3_writeRows 98 = .ok (.iload 5, 2) := by decide +kernel
theorem dX3_writeRows_100 : decode cX3_writeRows 100 = .ok (.iaload, 1) := by decide +kernel
theorem dX3_writeRows_101 : decode cX3_writeRows 101 = .ok (.iload_n 3, 1) := by decide +kernel
theorem dX3_writeRows_102 : decode cX3_writeRows 102 = .ok (.invokevirtual 81, 3) := by decide +kernel
theorem dX3_writeRows_105 : decode cX3_writeRows 105 = .ok (.aload_n 0, 1) := by decide +kernel
theorem dX3_writeRows_106 : decode cX3_writeRows 106 = .ok (.aload_n 1, 1) := by decide +kernel
theorem dX3_writeRows_107 : decode cX3_writeRows 107 = .ok (.getfield 75, 3) := by decide +kernel
theorem dX3_writeRows_110 : decode cX3_writeRows 110 = .ok (.iload 5, 2) := by decide +kernel
theorem dX3_writeRows_112 : decode cX3_writeRows 112 = .ok (.iaload, 1) := by decide +kernel
theorem dX3_writeRows_113 : decode cX3_writeRows 113 = .ok (.aload_n 1, 1) := by decide +kernel
theorem dX3_writeRows_114 : decode cX3_writeRows 114 = .ok (.getfield 72, 3) := by decide +kernel
theorem dX3_writeRows_117 : decode cX3_writeRows 117 = .ok (.iload 5, 2) := by decide +kernel
theorem dX3_writeRows_119 : decode cX3_writeRows 119 = .ok (.iaload, 1) := by decide +kernel
theorem dX3_writeRows_120 : decode cX3_writeRows 120 = .ok (.aload_n 1, 1) := by decide +kernel
theorem dX3_writeRows_121 : decode cX3_writeRows 121 = .ok (.getfield 78, 3) := by decide +kernel
theorem dX3_writeRows_124 : decode cX3_writeRows 124 = .ok (.iload 5, 2) := by decide +kernel
theorem dX3_writeRows_126 : decode cX3_writeRows 126 = .ok (.iaload, 1) := by decide +kernel
theorem dX3_writeRows_127 : decode cX3_writeRows 127 = .ok (.iload_n 3, 1) := by decide +kernel
theorem dX3_writeRows_128 : decode cX3_writeRows 128 = .ok (.invokevirtual 81, 3) := by decide +kernel
theorem dX3_writeRows_131 : decode cX3_writeRows 131 = .ok (.goto 51, 3) := by decide +kernel
theorem dX3_writeRows_134 : decode cX3_writeRows 134 = .ok (.aload_n 1, 1) := by decide +kernel
theorem dX3_writeRows_135 : decode cX3_writeRows 135 = .ok (.getfield 68, 3) := by decide +kernel
theorem dX3_writeRows_138 : decode cX3_writeRows 138 = .ok (.iload 5, 2) := by decide +kernel
theorem dX3_writeRows_140 : decode cX3_writeRows 140 = .ok (.iaload, 1) := by decide +kernel
theorem dX3_writeRows_141 : decode cX3_writeRows 141 = .ok (.iconst 2, 1) := by decide +kernel
theorem dX3_writeRows_142 : decode cX3_writeRows 142 = .ok (.if_icmp .ne 40, 3) := by decide +kernel
theorem dX3_writeRows_145 : decode cX3_writeRows 145 = .ok (.iload_n 2, 1) := by decide +kernel
theorem dX3_writeRows_146 : decode cX3_writeRows 146 = .ok (.iload 4, 2) := by decide +kernel
theorem dX3_writeRows_148 : decode cX3_writeRows 148 = .ok (.invokestatic 56, 3) := by decide +kernel
theorem dX3_writeRows_151 : decode cX3_writeRows 151 = .ok (.ifCond .ne 28, 3) := by decide +kernel
theorem dX3_writeRows_154 : decode cX3_writeRows 154 = .ok (.aload_n 0, 1) := by decide +kernel
theorem dX3_writeRows_155 : decode cX3_writeRows 155 = .ok (.aload_n 1, 1) := by decide +kernel
theorem dX3_writeRows_156 : decode cX3_writeRows 156 = .ok (.getfield 72, 3) := by decide +kernel
theorem dX3_writeRows_159 : decode cX3_writeRows 159 = .ok (.iload 5, 2) := by decide +kernel
theorem dX3_writeRows_161 : decode cX3_writeRows 161 = .ok (.iaload, 1) := by decide +kernel
theorem dX3_writeRows_162 : decode cX3_writeRows 162 = .ok (.aload_n 1, 1) := by decide +kernel
theorem dX3_writeRows_163 : decode cX3_writeRows 163 = .ok (.getfield 75, 3) := by decide +kernel
theorem dX3_writeRows_166 : decode cX3_writeRows 166 = .ok (.iload 5, 2) := by decide +kernel
theorem dX3_writeRows_168 : decode cX3_writeRows 168 = .ok (.iaload, 1) := by decide +kernel
theorem dX3_writeRows_169 : decode cX3_writeRows 169 = .ok (.aload_n 1, 1) := by decide +kernel
theorem dX3_writeRows_170 : decode cX3_writeRows 170 = .ok (.getfield 78, 3) := by decide +kernel
theorem dX3_writeRows_173 : decode cX3_writeRows 173 = .ok (.iload 5, 2) := by decide +kernel
theorem dX3_writeRows_175 : decode cX3_writeRows 175 = .ok (.iaload, 1) := by decide +kernel
theorem dX3_writeRows_176 : decode cX3_writeRows 176 = .ok (.invokevirtual 85, 3) := by decide +kernel
theorem dX3_writeRows_179 : decode cX3_writeRows 179 = .ok (.iinc 4 1, 3) := by decide +kernel
theorem dX3_writeRows_182 : decode cX3_writeRows 182 = .ok (.iinc 5 1, 3) := by decide +kernel
theorem dX3_writeRows_185 : decode cX3_writeRows 185 = .ok (.goto (-125), 3) := by decide +kernel
theorem dX3_writeRows_188 : decode cX3_writeRows 188 = .ok (.return_, 1) := by decide +kernel
theorem dX3_giveVoltage_0 : decode cX3_giveVoltage 0 = .ok (.aload_n 0, 1) := by decide +kernel
theorem dX3_giveVoltage_1 : decode cX3_giveVoltage 1 = .ok (.getfield 20, 3) := by decide +kernel
theorem dX3_giveVoltage_4 : decode cX3_giveVoltage 4 = .ok (.iload_n 1, 1) := by decide +kernel
theorem dX3_giveVoltage_5 : decode cX3_giveVoltage 5 = .ok (.aaload, 1) := by decide +kernel
theorem dX3_giveVoltage_6 : decode cX3_giveVoltage 6 = .ok (.iload_n 1, 1) := by decide +kernel
theorem dX3_giveVoltage_7 : decode cX3_giveVoltage 7 = .ok (.lconst 1, 1) := by decide +kernel
theorem dX3_giveVoltage_8 : decode cX3_giveVoltage 8 = .ok (.lastore, 1) := by decide +kernel
theorem dX3_giveVoltage_9 : decode cX3_giveVoltage 9 = .ok (.aload_n 0, 1) := by decide +kernel
theorem dX3_giveVoltage_10 : decode cX3_giveVoltage 10 = .ok (.getfield 20, 3) := by decide +kernel
theorem dX3_giveVoltage_13 : decode cX3_giveVoltage 13 = .ok (.iload_n 1, 1) := by decide +kernel
theorem dX3_giveVoltage_14 : decode cX3_giveVoltage 14 = .ok (.aaload, 1) := by decide +kernel
theorem dX3_giveVoltage_15 : decode cX3_giveVoltage 15 = .ok (.bipush 7, 2) := by decide +kernel
theorem dX3_giveVoltage_17 : decode cX3_giveVoltage 17 = .ok (.iload_n 1, 1) := by decide +kernel
theorem dX3_giveVoltage_18 : decode cX3_giveVoltage 18 = .ok (.iadd, 1) := by decide +kernel
theorem dX3_giveVoltage_19 : decode cX3_giveVoltage 19 = .ok (.lconst 1, 1) := by decide +kernel
theorem dX3_giveVoltage_20 : decode cX3_giveVoltage 20 = .ok (.lastore, 1) := by decide +kernel
theorem dX3_giveVoltage_21 : decode cX3_giveVoltage 21 = .ok (.return_, 1) := by decide +kernel
theorem dX3_join_0 : decode cX3_join 0 = .ok (.iload 4, 2) := by decide +kernel
theorem dX3_join_2 : decode cX3_join 2 = .ok (.iload_n 1, 1) := by decide +kernel
theorem dX3_join_3 : decode cX3_join 3 = .ok (.invokestatic 56, 3) := by decide +kernel
theorem dX3_join_6 : decode cX3_join 6 = .ok (.ifCond .eq 29, 3) := by decide +kernel
theorem dX3_join_9 : decode cX3_join 9 = .ok (.aload_n 0, 1) := by decide +kernel
theorem dX3_join_10 : decode cX3_join 10 = .ok (.getfield 20, 3) := by decide +kernel
theorem dX3_join_13 : decode cX3_join 13 = .ok (.iload_n 1, 1) := by decide +kernel
theorem dX3_join_14 : decode cX3_join 14 = .ok (.aaload, 1) := by decide +kernel
theorem dX3_join_15 : decode cX3_join 15 = .ok (.iload_n 1, 1) := by decide +kernel
theorem dX3_join_16 : decode cX3_join 16 = .ok (.dup2, 1) := by decide +kernel
theorem dX3_join_17 : decode cX3_join 17 = .ok (.laload, 1) := by decide +kernel
theorem dX3_join_18 : decode cX3_join 18 = .ok (.iload_n 3, 1) := by decide +kernel
theorem dX3_join_19 : decode cX3_join 19 = .ok (.i2l, 1) := by decide +kernel
theorem dX3_join_20 : decode cX3_join 20 = .ok (.ladd, 1) := by decide +kernel
theorem dX3_join_21 : decode cX3_join 21 = .ok (.lastore, 1) := by decide +kernel
theorem dX3_join_22 : decode cX3_join 22 = .ok (.aload_n 0, 1) := by decide +kernel
theorem dX3_join_23 : decode cX3_join 23 = .ok (.getfield 20, 3) := by decide +kernel
theorem dX3_join_26 : decode cX3_join 26 = .ok (.iload_n 1, 1) := by decide +kernel
theorem dX3_join_27 : decode cX3_join 27 = .ok (.aaload, 1) := by decide +kernel
theorem dX3_join_28 : decode cX3_join 28 = .ok (.iload_n 2, 1) := by decide +kernel
theorem dX3_join_29 : decode cX3_join 29 = .ok (.dup2, 1) := by decide +kernel
theorem dX3_join_30 : decode cX3_join 30 = .ok (.laload, 1) := by decide +kernel
theorem dX3_join_31 : decode cX3_join 31 = .ok (.iload_n 3, 1) := by decide +kernel
theorem dX3_join_32 : decode cX3_join 32 = .ok (.i2l, 1) := by decide +kernel
theorem dX3_join_33 : decode cX3_join 33 = .ok (.lsub, 1) := by decide +kernel
theorem dX3_join_34 : decode cX3_join 34 = .ok (.lastore, 1) := by decide +kernel
theorem dX3_join_35 : decode cX3_join 35 = .ok (.return_, 1) := by decide +kernel
theorem dX3_equateInputs_0 : decode cX3_equateInputs 0 = .ok (.aload_n 0, 1) := by decide +kernel
theorem dX3_equateInputs_1 : decode cX3_equateInputs 1 = .ok (.getfield 20, 3) := by decide +kernel
theorem dX3_equateInputs_4 : decode cX3_equateInputs 4 = .ok (.iload_n 3, 1) := by decide +kernel
theorem dX3_equateInputs_5 : decode cX3_equateInputs 5 = .ok (.aaload, 1) := by decide +kernel
theorem dX3_equateInputs_6 : decode cX3_equateInputs 6 = .ok (.lconst 0, 1) := by decide +kernel
theorem dX3_equateInputs_7 : decode cX3_equateInputs 7 = .ok (.invokestatic 50, 3) := by decide +kernel
theorem dX3_equateInputs_10 : decode cX3_equateInputs 10 = .ok (.aload_n 0, 1) := by decide +kernel
theorem dX3_equateInputs_11 : decode cX3_equateInputs 11 = .ok (.getfield 20, 3) := by decide +kernel
theorem dX3_equateInputs_14 : decode cX3_equateInputs 14 = .ok (.iload_n 3, 1) := by decide +kernel
theorem dX3_equateInputs_15 : decode cX3_equateInputs 15 = .ok (.aaload, 1) := by decide +kernel
theorem dX3_equateInputs_16 : decode cX3_equateInputs 16 = .ok (.iload_n 1, 1) := by decide +kernel
theorem dX3_equateInputs_17 : decode cX3_equateInputs 17 = .ok (.lconst 1, 1) := by decide +kernel
theorem dX3_equateInputs_18 : decode cX3_equateInputs 18 = .ok (.lastore, 1) := by decide +kernel
theorem dX3_equateInputs_19 : decode cX3_equateInputs 19 = .ok (.aload_n 0, 1) := by decide +kernel
theorem dX3_equateInputs_20 : decode cX3_equateInputs 20 = .ok (.getfield 20, 3) := by decide +kernel
theorem dX3_equateInputs_23 : decode cX3_equateInputs 23 = .ok (.iload_n 3, 1) := by decide +kernel
theorem dX3_equateInputs_24 : decode cX3_equateInputs 24 = .ok (.aaload, 1) := by decide +kernel
theorem dX3_equateInputs_25 : decode cX3_equateInputs 25 = .ok (.iload_n 2, 1) := by decide +kernel
theorem dX3_equateInputs_26 : decode cX3_equateInputs 26 = .ok (.ldc2_w 89, 3) := by decide +kernel
theorem dX3_equateInputs_29 : decode cX3_equateInputs 29 = .ok (.lastore, 1) := by decide +kernel
theorem dX3_equateInputs_30 : decode cX3_equateInputs 30 = .ok (.return_, 1) := by decide +kernel
theorem dX3_eliminate_0 : decode cX3_eliminate 0 = .ok (.lconst 1, 1) := by decide +kernel
theorem dX3_eliminate_1 : decode cX3_eliminate 1 = .ok (.lstore_n 1, 1) := by decide +kernel
theorem dX3_eliminate_2 : decode cX3_eliminate 2 = .ok (.iconst 0, 1) := by decide +kernel
theorem dX3_eliminate_3 : decode cX3_eliminate 3 = .ok (.istore_n 3, 1) := by decide +kernel
theorem dX3_eliminate_4 : decode cX3_eliminate 4 = .ok (.iload_n 3, 1) := by decide +kernel
theorem dX3_eliminate_5 : decode cX3_eliminate 5 = .ok (.bipush 7, 2) := by decide +kernel
theorem dX3_eliminate_7 : decode cX3_eliminate 7 = .ok (.if_icmp .ge 34, 3) := by decide +kernel
theorem dX3_eliminate_10 : decode cX3_eliminate 10 = .ok (.aload_n 0, 1) := by decide +kernel
theorem dX3_eliminate_11 : decode cX3_eliminate 11 = .ok (.iload_n 3, 1) := by decide +kernel
theorem dX3_eliminate_12 : decode cX3_eliminate 12 = .ok (.invokevirtual 91, 3) := by decide +kernel
theorem dX3_eliminate_15 : decode cX3_eliminate 15 = .ok (.ifCond .ne 5, 3) := by decide +kernel
theorem dX3_eliminate_18 : decode cX3_eliminate 18 = .ok (.lconst 0, 1) := by decide +kernel
theorem dX3_eliminate_19 : decode cX3_eliminate 19 = .ok (.lreturn, 1) := by decide +kernel
theorem dX3_eliminate_20 : decode cX3_eliminate 20 = .ok (.aload_n 0, 1) := by decide +kernel
theorem dX3_eliminate_21 : decode cX3_eliminate 21 = .ok (.iload_n 3, 1) := by decide +kernel
theorem dX3_eliminate_22 : decode cX3_eliminate 22 = .ok (.lload_n 1, 1) := by decide +kernel
theorem dX3_eliminate_23 : decode cX3_eliminate 23 = .ok (.invokevirtual 95, 3) := by decide +kernel
theorem dX3_eliminate_26 : decode cX3_eliminate 26 = .ok (.aload_n 0, 1) := by decide +kernel
theorem dX3_eliminate_27 : decode cX3_eliminate 27 = .ok (.getfield 20, 3) := by decide +kernel
theorem dX3_eliminate_30 : decode cX3_eliminate 30 = .ok (.iload_n 3, 1) := by decide +kernel
theorem dX3_eliminate_31 : decode cX3_eliminate 31 = .ok (.aaload, 1) := by decide +kernel
theorem dX3_eliminate_32 : decode cX3_eliminate 32 = .ok (.iload_n 3, 1) := by decide +kernel
theorem dX3_eliminate_33 : decode cX3_eliminate 33 = .ok (.laload, 1) := by decide +kernel
theorem dX3_eliminate_34 : decode cX3_eliminate 34 = .ok (.lstore_n 1, 1) := by decide +kernel
theorem dX3_eliminate_35 : decode cX3_eliminate 35 = .ok (.iinc 3 1, 3) := by decide +kernel
theorem dX3_eliminate_38 : decode cX3_eliminate 38 = .ok (.goto (-34), 3) := by decide +kernel
theorem dX3_eliminate_41 : decode cX3_eliminate 41 = .ok (.lload_n 1, 1) := by decide +kernel
theorem dX3_eliminate_42 : decode cX3_eliminate 42 = .ok (.lreturn, 1) := by decide +kernel
theorem dX3_bringPivot_0 : decode cX3_bringPivot 0 = .ok (.iload_n 1, 1) := by decide +kernel
theorem dX3_bringPivot_1 : decode cX3_bringPivot 1 = .ok (.istore_n 2, 1) := by decide +kernel
theorem dX3_bringPivot_2 : decode cX3_bringPivot 2 = .ok (.iload_n 2, 1) := by decide +kernel
theorem dX3_bringPivot_3 : decode cX3_bringPivot 3 = .ok (.bipush 7, 2) := by decide +kernel
theorem dX3_bringPivot_5 : decode cX3_bringPivot 5 = .ok (.if_icmp .ge 50, 3) := by decide +kernel
theorem dX3_bringPivot_8 : decode cX3_bringPivot 8 = .ok (.aload_n 0, 1) := by decide +kernel
theorem dX3_bringPivot_9 : decode cX3_bringPivot 9 = .ok (.getfield 20, 3) := by decide +kernel
theorem dX3_bringPivot_12 : decode cX3_bringPivot 12 = .ok (.iload_n 2, 1) := by decide +kernel
theorem dX3_bringPivot_13 : decode cX3_bringPivot 13 = .ok (.aaload, 1) := by decide +kernel
theorem dX3_bringPivot_14 : decode cX3_bringPivot 14 = .ok (.iload_n 1, 1) := by decide +kernel
theorem dX3_bringPivot_15 : decode cX3_bringPivot 15 = .ok (.laload, 1) := by decide +kernel
theorem dX3_bringPivot_16 : decode cX3_bringPivot 16 = .ok (.lconst 0, 1) := by decide +kernel
theorem dX3_bringPivot_17 : decode cX3_bringPivot 17 = .ok (.lcmp, 1) := by decide +kernel
theorem dX3_bringPivot_18 : decode cX3_bringPivot 18 = .ok (.ifCond .eq 31, 3) := by decide +kernel
theorem dX3_bringPivot_21 : decode cX3_bringPivot 21 = .ok (.aload_n 0, 1) := by decide +kernel
theorem dX3_bringPivot_22 : decode cX3_bringPivot 22 = .ok (.getfield 20, 3) := by decide +kernel
theorem dX3_bringPivot_25 : decode cX3_bringPivot 25 = .ok (.iload_n 2, 1) := by decide +kernel
theorem dX3_bringPivot_26 : decode cX3_bringPivot 26 = .ok (.aaload, 1) := by decide +kernel
theorem dX3_bringPivot_27 : decode cX3_bringPivot 27 = .ok (.astore_n 3, 1) := by decide +kernel
theorem dX3_bringPivot_28 : decode cX3_bringPivot 28 = .ok (.aload_n 0, 1) := by decide +kernel
theorem dX3_bringPivot_29 : decode cX3_bringPivot 29 = .ok (.getfield 20, 3) := by decide +kernel
theorem dX3_bringPivot_32 : decode cX3_bringPivot 32 = .ok (.iload_n 2, 1) := by decide +kernel
theorem dX3_bringPivot_33 : decode cX3_bringPivot 33 = .ok (.aload_n 0, 1) := by decide +kernel
theorem dX3_bringPivot_34 : decode cX3_bringPivot 34 = .ok (.getfield 20, 3) := by decide +kernel
theorem dX3_bringPivot_37 : decode cX3_bringPivot 37 = .ok (.iload_n 1, 1) := by decide +kernel
theorem dX3_bringPivot_38 : decode cX3_bringPivot 38 = .ok (.aaload, 1) := by decide +kernel
theorem dX3_bringPivot_39 : decode cX3_bringPivot 39 = .ok (.aastore, 1) := by decide +kernel
theorem dX3_bringPivot_40 : decode cX3_bringPivot 40 = .ok (.aload_n 0, 1) := by decide +kernel
theorem dX3_bringPivot_41 : decode cX3_bringPivot 41 = .ok (.getfield 20, 3) := by decide +kernel
theorem dX3_bringPivot_44 : decode cX3_bringPivot 44 = .ok (.iload_n 1, 1) := by decide +kernel
theorem dX3_bringPivot_45 : decode cX3_bringPivot 45 = .ok (.aload_n 3, 1) := by decide +kernel
theorem dX3_bringPivot_46 : decode cX3_bringPivot 46 = .ok (.aastore, 1) := by decide +kernel
theorem dX3_bringPivot_47 : decode cX3_bringPivot 47 = .ok (.iconst 1, 1) := by decide +kernel
theorem dX3_bringPivot_48 : decode cX3_bringPivot 48 = .ok (.ireturn, 1) := by decide +kernel
theorem dX3_bringPivot_49 : decode cX3_bringPivot 49 = .ok (.iinc 2 1, 3) := by decide +kernel
theorem dX3_bringPivot_52 : decode cX3_bringPivot 52 = .ok (.goto (-50), 3) := by decide +kernel
theorem dX3_bringPivot_55 : decode cX3_bringPivot 55 = .ok (.iconst 0, 1) := by decide +kernel
theorem dX3_bringPivot_56 : decode cX3_bringPivot 56 = .ok (.ireturn, 1) := by decide +kernel
theorem dX3_clearColumn_0 : decode cX3_clearColumn 0 = .ok (.lload_n 2, 1) := by decide +kernel
theorem dX3_clearColumn_1 : decode cX3_clearColumn 1 = .ok (.lconst 0, 1) := by decide +kernel
theorem dX3_clearColumn_2 : decode cX3_clearColumn 2 = .ok (.lcmp, 1) := by decide +kernel
theorem dX3_clearColumn_3 : decode cX3_clearColumn 3 = .ok (.ifCond .ne 4, 3) := by decide +kernel
theorem dX3_clearColumn_6 : decode cX3_clearColumn 6 = .ok (.return_, 1) := by decide +kernel
theorem dX3_clearColumn_7 : decode cX3_clearColumn 7 = .ok (.aload_n 0, 1) := by decide +kernel
theorem dX3_clearColumn_8 : decode cX3_clearColumn 8 = .ok (.getfield 20, 3) := by decide +kernel
theorem dX3_clearColumn_11 : decode cX3_clearColumn 11 = .ok (.iload_n 1, 1) := by decide +kernel
theorem dX3_clearColumn_12 : decode cX3_clearColumn 12 = .ok (.aaload, 1) := by decide +kernel
theorem dX3_clearColumn_13 : decode cX3_clearColumn 13 = .ok (.astore 4, 2) := by decide +kernel
theorem dX3_clearColumn_15 : decode cX3_clearColumn 15 = .ok (.aload 4, 2) := by decide +kernel
theorem dX3_clearColumn_17 : decode cX3_clearColumn 17 = .ok (.iload_n 1, 1) := by decide +kernel
theorem dX3_clearColumn_18 : decode cX3_clearColumn 18 = .ok (.laload, 1) := by decide +kernel
theorem dX3_clearColumn_19 : decode cX3_clearColumn 19 = .ok (.lstore 5, 2) := by decide +kernel
theorem dX3_clearColumn_21 : decode cX3_clearColumn 21 = .ok (.iconst 0, 1) := by decide +kernel
theorem dX3_clearColumn_22 : decode cX3_clearColumn 22 = .ok (.istore 7, 2) := by decide +kernel
theorem dX3_clearColumn_24 : decode cX3_clearColumn 24 = .ok (.iload 7, 2) := by decide +kernel
theorem dX3_clearColumn_26 : decode cX3_clearColumn 26 = .ok (.bipush 7, 2) := by decide +kernel
theorem dX3_clearColumn_28 : decode cX3_clearColumn 28 = .ok (.if_icmp .ge 70, 3) := by decide +kernel
theorem dX3_clearColumn_31 : decode cX3_clearColumn 31 = .ok (.iload 7, 2) := by decide +kernel
theorem dX3_clearColumn_33 : decode cX3_clearColumn 33 = .ok (.iload_n 1, 1) := by decide +kernel
theorem dX3_clearColumn_34 : decode cX3_clearColumn 34 = .ok (.if_icmp .eq 58, 3) := by decide +kernel
theorem dX3_clearColumn_37 : decode cX3_clearColumn 37 = .ok (.aload_n 0, 1) := by decide +kernel
theorem dX3_clearColumn_38 : decode cX3_clearColumn 38 = .ok (.getfield 20, 3) := by decide +kernel
theorem dX3_clearColumn_41 : decode cX3_clearColumn 41 = .ok (.iload 7, 2) := by decide +kernel
theorem dX3_clearColumn_43 : decode cX3_clearColumn 43 = .ok (.aaload, 1) := by decide +kernel
theorem dX3_clearColumn_44 : decode cX3_clearColumn 44 = .ok (.astore 8, 2) := by decide +kernel
theorem dX3_clearColumn_46 : decode cX3_clearColumn 46 = .ok (.aload 8, 2) := by decide +kernel
theorem dX3_clearColumn_48 : decode cX3_clearColumn 48 = .ok (.iload_n 1, 1) := by decide +kernel
theorem dX3_clearColumn_49 : decode cX3_clearColumn 49 = .ok (.laload, 1) := by decide +kernel
theorem dX3_clearColumn_50 : decode cX3_clearColumn 50 = .ok (.lstore 9, 2) := by decide +kernel
theorem dX3_clearColumn_52 : decode cX3_clearColumn 52 = .ok (.iconst 0, 1) := by decide +kernel
theorem dX3_clearColumn_53 : decode cX3_clearColumn 53 = .ok (.istore 11, 2) := by decide +kernel
theorem dX3_clearColumn_55 : decode cX3_clearColumn 55 = .ok (.iload 11, 2) := by decide +kernel
theorem dX3_clearColumn_57 : decode cX3_clearColumn 57 = .ok (.bipush 14, 2) := by decide +kernel
theorem dX3_clearColumn_59 : decode cX3_clearColumn 59 = .ok (.if_icmp .ge 33, 3) := by decide +kernel
theorem dX3_clearColumn_62 : decode cX3_clearColumn 62 = .ok (.aload 8, 2) := by decide +kernel
theorem dX3_clearColumn_64 : decode cX3_clearColumn 64 = .ok (.iload 11, 2) := by decide +kernel
theorem dX3_clearColumn_66 : decode cX3_clearColumn 66 = .ok (.lload 5, 2) := by decide +kernel
theorem dX3_clearColumn_68 : decode cX3_clearColumn 68 = .ok (.aload 8, 2) := by decide +kernel
theorem dX3_clearColumn_70 : decode cX3_clearColumn 70 = .ok (.iload 11, 2) := by decide +kernel
theorem dX3_clearColumn_72 : decode cX3_clearColumn 72 = .ok (.laload, 1) := by decide +kernel
theorem dX3_clearColumn_73 : decode cX3_clearColumn 73 = .ok (.lmul, 1) := by decide +kernel
theorem dX3_clearColumn_74 : decode cX3_clearColumn 74 = .ok (.lload 9, 2) := by decide +kernel
theorem dX3_clearColumn_76 : decode cX3_clearColumn 76 = .ok (.aload 4, 2) := by decide +kernel
theorem dX3_clearColumn_78 : decode cX3_clearColumn 78 = .ok (.iload 11, 2) := by decide +kernel
theorem dX3_clearColumn_80 : decode cX3_clearColumn 80 = .ok (.laload, 1) := by decide +kernel
theorem dX3_clearColumn_81 : decode cX3_clearColumn 81 = .ok (.lmul, 1) := by decide +kernel
theorem dX3_clearColumn_82 : decode cX3_clearColumn 82 = .ok (.lsub, 1) := by decide +kernel
theorem dX3_clearColumn_83 : decode cX3_clearColumn 83 = .ok (.lload_n 2, 1) := by decide +kernel
theorem dX3_clearColumn_84 : decode cX3_clearColumn 84 = .ok (.ldiv, 1) := by decide +kernel
theorem dX3_clearColumn_85 : decode cX3_clearColumn 85 = .ok (.lastore, 1) := by decide +kernel
theorem dX3_clearColumn_86 : decode cX3_clearColumn 86 = .ok (.iinc 11 1, 3) := by decide +kernel
theorem dX3_clearColumn_89 : decode cX3_clearColumn 89 = .ok (.goto (-34), 3) := by decide +kernel
theorem dX3_clearColumn_92 : decode cX3_clearColumn 92 = .ok (.iinc 7 1, 3) := by decide +kernel
theorem dX3_clearColumn_95 : decode cX3_clearColumn 95 = .ok (.goto (-71), 3) := by decide +kernel
theorem dX3_clearColumn_98 : decode cX3_clearColumn 98 = .ok (.return_, 1) := by decide +kernel
theorem dX3_copyAnswers_0 : decode cX3_copyAnswers 0 = .ok (.iconst 0, 1) := by decide +kernel
theorem dX3_copyAnswers_1 : decode cX3_copyAnswers 1 = .ok (.istore_n 3, 1) := by decide +kernel
theorem dX3_copyAnswers_2 : decode cX3_copyAnswers 2 = .ok (.iload_n 3, 1) := by decide +kernel
theorem dX3_copyAnswers_3 : decode cX3_copyAnswers 3 = .ok (.bipush 7, 2) := by decide +kernel
theorem dX3_copyAnswers_5 : decode cX3_copyAnswers 5 = .ok (.if_icmp .ge 49, 3) := by decide +kernel
theorem dX3_copyAnswers_8 : decode cX3_copyAnswers 8 = .ok (.iconst 0, 1) := by decide +kernel
theorem dX3_copyAnswers_9 : decode cX3_copyAnswers 9 = .ok (.istore 4, 2) := by decide +kernel
theorem dX3_copyAnswers_11 : decode cX3_copyAnswers 11 = .ok (.iload 4, 2) := by decide +kernel
theorem dX3_copyAnswers_13 : decode cX3_copyAnswers 13 = .ok (.bipush 7, 2) := by decide +kernel
theorem dX3_copyAnswers_15 : decode cX3_copyAnswers 15 = .ok (.if_icmp .ge 33, 3) := by decide +kernel
theorem dX3_copyAnswers_18 : decode cX3_copyAnswers 18 = .ok (.aload_n 1, 1) := by decide +kernel
theorem dX3_copyAnswers_19 : decode cX3_copyAnswers 19 = .ok (.bipush 7, 2) := by decide +kernel
theorem dX3_copyAnswers_21 : decode cX3_copyAnswers 21 = .ok (.iload_n 3, 1) := by decide +kernel
theorem dX3_copyAnswers_22 : decode cX3_copyAnswers 22 = .ok (.imul, 1) := by decide +kernel
theorem dX3_copyAnswers_23 : decode cX3_copyAnswers 23 = .ok (.iload 4, 2) := by decide +kernel
theorem dX3_copyAnswers_25 : decode cX3_copyAnswers 25 = .ok (.iadd, 1) := by decide +kernel
theorem dX3_copyAnswers_26 : decode cX3_copyAnswers 26 = .ok (.iload_n 2, 1) := by decide +kernel
theorem dX3_copyAnswers_27 : decode cX3_copyAnswers 27 = .ok (.i2l, 1) := by decide +kernel
theorem dX3_copyAnswers_28 : decode cX3_copyAnswers 28 = .ok (.aload_n 0, 1) := by decide +kernel
theorem dX3_copyAnswers_29 : decode cX3_copyAnswers 29 = .ok (.getfield 20, 3) := by decide +kernel
theorem dX3_copyAnswers_32 : decode cX3_copyAnswers 32 = .ok (.iload_n 3, 1) := by decide +kernel
theorem dX3_copyAnswers_33 : decode cX3_copyAnswers 33 = .ok (.aaload, 1) := by decide +kernel
theorem dX3_copyAnswers_34 : decode cX3_copyAnswers 34 = .ok (.bipush 7, 2) := by decide +kernel
theorem dX3_copyAnswers_36 : decode cX3_copyAnswers 36 = .ok (.iload 4, 2) := by decide +kernel
theorem dX3_copyAnswers_38 : decode cX3_copyAnswers 38 = .ok (.iadd, 1) := by decide +kernel
theorem dX3_copyAnswers_39 : decode cX3_copyAnswers 39 = .ok (.laload, 1) := by decide +kernel
theorem dX3_copyAnswers_40 : decode cX3_copyAnswers 40 = .ok (.lmul, 1) := by decide +kernel
theorem dX3_copyAnswers_41 : decode cX3_copyAnswers 41 = .ok (.lastore, 1) := by decide +kernel
theorem dX3_copyAnswers_42 : decode cX3_copyAnswers 42 = .ok (.iinc 4 1, 3) := by decide +kernel
theorem dX3_copyAnswers_45 : decode cX3_copyAnswers 45 = .ok (.goto (-34), 3) := by decide +kernel
theorem dX3_copyAnswers_48 : decode cX3_copyAnswers 48 = .ok (.iinc 3 1, 3) := by decide +kernel
theorem dX3_copyAnswers_51 : decode cX3_copyAnswers 51 = .ok (.goto (-49), 3) := by decide +kernel
theorem dX3_copyAnswers_54 : decode cX3_copyAnswers 54 = .ok (.return_, 1) := by decide +kernel
theorem dX4_init_0 : decode cX4_init 0 = .ok (.aload_n 0, 1) := by decide +kernel
theorem dX4_init_1 : decode cX4_init 1 = .ok (.invokespecial 3, 3) := by decide +kernel
theorem dX4_init_4 : decode cX4_init 4 = .ok (.aload_n 0, 1) := by decide +kernel
theorem dX4_init_5 : decode cX4_init 5 = .ok (.new 9, 3) := by decide +kernel
theorem dX4_init_8 : decode cX4_init 8 = .ok (.dup, 1) := by decide +kernel
theorem dX4_init_9 : decode cX4_init 9 = .ok (.bipush 12, 2) := by decide +kernel
theorem dX4_init_11 : decode cX4_init 11 = .ok (.invokespecial 11, 3) := by decide +kernel
theorem dX4_init_14 : decode cX4_init 14 = .ok (.putfield 14, 3) := by decide +kernel
theorem dX4_init_17 : decode cX4_init 17 = .ok (.aload_n 0, 1) := by decide +kernel
theorem dX4_init_18 : decode cX4_init 18 = .ok (.sipush 150, 3) := by decide +kernel
theorem dX4_init_21 : decode cX4_init 21 = .ok (.putfield 20, 3) := by decide +kernel
theorem dX4_init_24 : decode cX4_init 24 = .ok (.aload_n 0, 1) := by decide +kernel
theorem dX4_init_25 : decode cX4_init 25 = .ok (.iconst 1, 1) := by decide +kernel
theorem dX4_init_26 : decode cX4_init 26 = .ok (.putfield 24, 3) := by decide +kernel
theorem dX4_init_29 : decode cX4_init 29 = .ok (.return_, 1) := by decide +kernel
theorem dX4_copyFrom_0 : decode cX4_copyFrom 0 = .ok (.aload_n 0, 1) := by decide +kernel
theorem dX4_copyFrom_1 : decode cX4_copyFrom 1 = .ok (.getfield 14, 3) := by decide +kernel
theorem dX4_copyFrom_4 : decode cX4_copyFrom 4 = .ok (.aload_n 1, 1) := by decide +kernel
theorem dX4_copyFrom_5 : decode cX4_copyFrom 5 = .ok (.getfield 14, 3) := by decide +kernel
theorem dX4_copyFrom_8 : decode cX4_copyFrom 8 = .ok (.invokevirtual 28, 3) := by decide +kernel
theorem dX4_copyFrom_11 : decode cX4_copyFrom 11 = .ok (.aload_n 0, 1) := by decide +kernel
theorem dX4_copyFrom_12 : decode cX4_copyFrom 12 = .ok (.aload_n 1, 1) := by decide +kernel
theorem dX4_copyFrom_13 : decode cX4_copyFrom 13 = .ok (.getfield 20, 3) := by decide +kernel
theorem dX4_copyFrom_16 : decode cX4_copyFrom 16 = .ok (.putfield 20, 3) := by decide +kernel
theorem dX4_copyFrom_19 : decode cX4_copyFrom 19 = .ok (.aload_n 0, 1) := by decide +kernel
theorem dX4_copyFrom_20 : decode cX4_copyFrom 20 = .ok (.aload_n 1, 1) := by decide +kernel
theorem dX4_copyFrom_21 : decode cX4_copyFrom 21 = .ok (.getfield 32, 3) := by decide +kernel
theorem dX4_copyFrom_24 : decode cX4_copyFrom 24 = .ok (.putfield 32, 3) := by decide +kernel
theorem dX4_copyFrom_27 : decode cX4_copyFrom 27 = .ok (.aload_n 0, 1) := by decide +kernel
theorem dX4_copyFrom_28 : decode cX4_copyFrom 28 = .ok (.aload_n 1, 1) := by decide +kernel
theorem dX4_copyFrom_29 : decode cX4_copyFrom 29 = .ok (.getfield 24, 3) := by decide +kernel
theorem dX4_copyFrom_32 : decode cX4_copyFrom 32 = .ok (.putfield 24, 3) := by decide +kernel
theorem dX4_copyFrom_35 : decode cX4_copyFrom 35 = .ok (.return_, 1) := by decide +kernel
theorem dX4_empty_0 : decode cX4_empty 0 = .ok (.aload_n 0, 1) := by decide +kernel
theorem dX4_empty_1 : decode cX4_empty 1 = .ok (.getfield 14, 3) := by decide +kernel
theorem dX4_empty_4 : decode cX4_empty 4 = .ok (.iconst 0, 1) := by decide +kernel
theorem dX4_empty_5 : decode cX4_empty 5 = .ok (.putfield 35, 3) := by decide +kernel
theorem dX4_empty_8 : decode cX4_empty 8 = .ok (.aload_n 0, 1) := by decide +kernel
theorem dX4_empty_9 : decode cX4_empty 9 = .ok (.sipush 150, 3) := by decide +kernel
theorem dX4_empty_12 : decode cX4_empty 12 = .ok (.putfield 20, 3) := by decide +kernel
theorem dX4_empty_15 : decode cX4_empty 15 = .ok (.aload_n 0, 1) := by decide +kernel
theorem dX4_empty_16 : decode cX4_empty 16 = .ok (.iconst 0, 1) := by decide +kernel
theorem dX4_empty_17 : decode cX4_empty 17 = .ok (.putfield 32, 3) := by decide +kernel
theorem dX4_empty_20 : decode cX4_empty 20 = .ok (.return_, 1) := by decide +kernel
theorem dX4_remove_0 : decode cX4_remove 0 = .ok (.aload_n 0, 1) := by decide +kernel
theorem dX4_remove_1 : decode cX4_remove 1 = .ok (.getfield 14, 3) := by decide +kernel
theorem dX4_remove_4 : decode cX4_remove 4 = .ok (.getfield 38, 3) := by decide +kernel
theorem dX4_remove_7 : decode cX4_remove 7 = .ok (.iload_n 1, 1) := by decide +kernel
theorem dX4_remove_8 : decode cX4_remove 8 = .ok (.iaload, 1) := by decide +kernel
theorem dX4_remove_9 : decode cX4_remove 9 = .ok (.iconst 2, 1) := by decide +kernel
theorem dX4_remove_10 : decode cX4_remove 10 = .ok (.if_icmp .ne 37, 3) := by decide +kernel
theorem dX4_remove_13 : decode cX4_remove 13 = .ok (.getstatic 42, 3) := by decide +kernel
theorem dX4_remove_16 : decode cX4_remove 16 = .ok (.aload_n 0, 1) := by decide +kernel
theorem dX4_remove_17 : decode cX4_remove 17 = .ok (.getfield 14, 3) := by decide +kernel
theorem dX4_remove_20 : decode cX4_remove 20 = .ok (.iload_n 1, 1) := by decide +kernel
theorem dX4_remove_21 : decode cX4_remove 21 = .ok (.invokevirtual 45, 3) := by decide +kernel
theorem dX4_remove_24 : decode cX4_remove 24 = .ok (.iaload, 1) := by decide +kernel
theorem dX4_remove_25 : decode cX4_remove 25 = .ok (.istore_n 2, 1) := by decide +kernel
theorem dX4_remove_26 : decode cX4_remove 26 = .ok (.aload_n 0, 1) := by decide +kernel
theorem dX4_remove_27 : decode cX4_remove 27 = .ok (.aload_n 0, 1) := by decide +kernel
theorem dX4_remove_28 : decode cX4_remove 28 = .ok (.getfield 32, 3) := by decide +kernel
theorem dX4_remove_31 : decode cX4_remove 31 = .ok (.iconst 3, 1) := by decide +kernel
theorem dX4_remove_32 : decode cX4_remove 32 = .ok (.iload_n 2, 1) := by decide +kernel
theorem dX4_remove_33 : decode cX4_remove 33 = .ok (.imul, 1) := by decide +kernel
theorem dX4_remove_34 : decode cX4_remove 34 = .ok (.idiv, 1) := by decide +kernel
theorem dX4_remove_35 : decode cX4_remove 35 = .ok (.iload_n 2, 1) := by decide +kernel
theorem dX4_remove_36 : decode cX4_remove 36 = .ok (.imul, 1) := by decide +kernel
theorem dX4_remove_37 : decode cX4_remove 37 = .ok (.aload_n 0, 1) := by decide +kernel
theorem dX4_remove_38 : decode cX4_remove 38 = .ok (.getfield 32, 3) := by decide +kernel
theorem dX4_remove_41 : decode cX4_remove 41 = .ok (.iload_n 2, 1) := by decide +kernel
theorem dX4_remove_42 : decode cX4_remove 42 = .ok (.irem, 1) := by decide +kernel
theorem dX4_remove_43 : decode cX4_remove 43 = .ok (.iadd, 1) := by decide +kernel
theorem dX4_remove_44 : decode cX4_remove 44 = .ok (.putfield 32, 3) := by decide +kernel
theorem dX4_remove_47 : decode cX4_remove 47 = .ok (.aload_n 0, 1) := by decide +kernel
theorem dX4_remove_48 : decode cX4_remove 48 = .ok (.getfield 14, 3) := by decide +kernel
theorem dX4_remove_51 : decode cX4_remove 51 = .ok (.iload_n 1, 1) := by decide +kernel
theorem dX4_remove_52 : decode cX4_remove 52 = .ok (.invokevirtual 49, 3) := by decide +kernel
theorem dX4_remove_55 : decode cX4_remove 55 = .ok (.return_, 1) := by decide +kernel
theorem dX5_init_0 : decode cX5_init 0 = .ok (.aload_n 0, 1) := by decide +kernel
theorem dX5_init_1 : decode cX5_init 1 = .ok (.invokespecial 3, 3) := by decide +kernel
theorem dX5_init_4 : decode cX5_init 4 = .ok (.aload_n 0, 1) := by decide +kernel
theorem dX5_init_5 : decode cX5_init 5 = .ok (.bipush 60, 2) := by decide +kernel
theorem dX5_init_7 : decode cX5_init 7 = .ok (.newarray .char, 2) := by decide +kernel
theorem dX5_init_9 : decode cX5_init 9 = .ok (.putfield 9, 3) := by decide +kernel
theorem dX5_init_12 : decode cX5_init 12 = .ok (.aload_n 0, 1) := by decide +kernel
theorem dX5_init_13 : decode cX5_init 13 = .ok (.new 15, 3) := by decide +kernel
theorem dX5_init_16 : decode cX5_init 16 = .ok (.dup, 1) := by decide +kernel
theorem dX5_init_17 : decode cX5_init 17 = .ok (.bipush 15, 2) := by decide +kernel
theorem dX5_init_19 : decode cX5_init 19 = .ok (.invokespecial 17, 3) := by decide +kernel
theorem dX5_init_22 : decode cX5_init 22 = .ok (.putfield 20, 3) := by decide +kernel
theorem dX5_init_25 : decode cX5_init 25 = .ok (.aload_n 0, 1) := by decide +kernel
theorem dX5_init_26 : decode cX5_init 26 = .ok (.iconst 3, 1) := by decide +kernel
theorem dX5_init_27 : decode cX5_init 27 = .ok (.newarray .int, 2) := by decide +kernel
theorem dX5_init_29 : decode cX5_init 29 = .ok (.putfield 24, 3) := by decide +kernel
theorem dX5_init_32 : decode cX5_init 32 = .ok (.return_, 1) := by decide +kernel
theorem dX5_read_0 : decode cX5_read 0 = .ok (.aload_n 0, 1) := by decide +kernel
theorem dX5_read_1 : decode cX5_read 1 = .ok (.getfield 20, 3) := by decide +kernel
theorem dX5_read_4 : decode cX5_read 4 = .ok (.iconst 0, 1) := by decide +kernel
theorem dX5_read_5 : decode cX5_read 5 = .ok (.putfield 28, 3) := by decide +kernel
theorem dX5_read_8 : decode cX5_read 8 = .ok (.aload_n 0, 1) := by decide +kernel
theorem dX5_read_9 : decode cX5_read 9 = .ok (.iconst (-1), 1) := by decide +kernel
theorem dX5_read_10 : decode cX5_read 10 = .ok (.invokevirtual 32, 3) := by decide +kernel
theorem dX5_read_13 : decode cX5_read 13 = .ok (.iconst 0, 1) := by decide +kernel
theorem dX5_read_14 : decode cX5_read 14 = .ok (.istore_n 1, 1) := by decide +kernel
theorem dX5_read_15 : decode cX5_read 15 = .ok (.iload_n 1, 1) := by decide +kernel
theorem dX5_read_16 : decode cX5_read 16 = .ok (.aload_n 0, 1) := by decide +kernel
theorem dX5_read_17 : decode cX5_read 17 = .ok (.getfield 35, 3) := by decide +kernel
theorem dX5_read_20 : decode cX5_read 20 = .ok (.if_icmp .ge 24, 3) := by decide +kernel
theorem dX5_read_23 : decode cX5_read 23 = .ok (.aload_n 0, 1) := by decide +kernel
theorem dX5_read_24 : decode cX5_read 24 = .ok (.aload_n 0, 1) := by decide +kernel
theorem dX5_read_25 : decode cX5_read 25 = .ok (.getfield 9, 3) := by decide +kernel
theorem dX5_read_28 : decode cX5_read 28 = .ok (.iload_n 1, 1) := by decide +kernel
theorem dX5_read_29 : decode cX5_read 29 = .ok (.caload, 1) := by decide +kernel
theorem dX5_read_30 : decode cX5_read 30 = .ok (.invokevirtual 38, 3) := by decide +kernel
theorem dX5_read_33 : decode cX5_read 33 = .ok (.ifCond .ne 5, 3) := by decide +kernel
theorem dX5_read_36 : decode cX5_read 36 = .ok (.iload_n 1, 1) := by decide +kernel
theorem dX5_read_37 : decode cX5_read 37 = .ok (.ireturn, 1) := by decide +kernel
theorem dX5_read_38 : decode cX5_read 38 = .ok (.iinc 1 1, 3) := by decide +kernel
theorem dX5_read_41 : decode cX5_read 41 = .ok (.goto (-26), 3) := by decide +kernel
theorem dX5_read_44 : decode cX5_read 44 = .ok (.aload_n 0, 1) := by decide +kernel
theorem dX5_read_45 : decode cX5_read 45 = .ok (.getfield 35, 3) := by decide +kernel
theorem dX5_read_48 : decode cX5_read 48 = .ok (.ireturn, 1) := by decide +kernel
theorem dX5_isComplete_0 : decode cX5_isComplete 0 = .ok (.aload_n 0, 1) := by decide +kernel
theorem dX5_isComplete_1 : decode cX5_isComplete 1 = .ok (.invokevirtual 42, 3) := by decide +kernel
theorem dX5_isComplete_4 : decode cX5_isComplete 4 = .ok (.aload_n 0, 1) := by decide +kernel
theorem dX5_isComplete_5 : decode cX5_isComplete 5 = .ok (.getfield 35, 3) := by decide +kernel
theorem dX5_isComplete_8 : decode cX5_isComplete 8 = .ok (.if_icmp .ne 14, 3) := by decide +kernel
theorem dX5_isComplete_11 : decode cX5_isComplete 11 = .ok (.aload_n 0, 1) := by decide +kernel
theorem dX5_isComplete_12 : decode cX5_isComplete 12 = .ok (.invokevirtual 46, 3) := by decide +kernel
theorem dX5_isComplete_15 : decode cX5_isComplete 15 = .ok (.ifCond .eq 7, 3) := by decide +kernel
theorem dX5_isComplete_18 : decode cX5_isComplete 18 = .ok (.iconst 1, 1) := by decide +kernel
theorem dX5_isComplete_19 : decode cX5_isComplete 19 = .ok (.goto 4, 3) := by decide +kernel
theorem dX5_isComplete_22 : decode cX5_isComplete 22 = .ok (.iconst 0, 1) := by decide +kernel
theorem dX5_isComplete_23 : decode cX5_isComplete 23 = .ok (.ireturn, 1) := by decide +kernel
theorem dX5_startPart_0 : decode cX5_startPart 0 = .ok (.aload_n 0, 1) := by decide +kernel
theorem dX5_startPart_1 : decode cX5_startPart 1 = .ok (.iload_n 1, 1) := by decide +kernel
theorem dX5_startPart_2 : decode cX5_startPart 2 = .ok (.putfield 50, 3) := by decide +kernel
theorem dX5_startPart_5 : decode cX5_startPart 5 = .ok (.aload_n 0, 1) := by decide +kernel
theorem dX5_startPart_6 : decode cX5_startPart 6 = .ok (.iconst 0, 1) := by decide +kernel
theorem dX5_startPart_7 : decode cX5_startPart 7 = .ok (.putfield 53, 3) := by decide +kernel
theorem dX5_startPart_10 : decode cX5_startPart 10 = .ok (.aload_n 0, 1) := by decide +kernel
theorem dX5_startPart_11 : decode cX5_startPart 11 = .ok (.iconst (-1), 1) := by decide +kernel
theorem dX5_startPart_12 : decode cX5_startPart 12 = .ok (.putfield 56, 3) := by decide +kernel
theorem dX5_startPart_15 : decode cX5_startPart 15 = .ok (.aload_n 0, 1) := by decide +kernel
theorem dX5_startPart_16 : decode cX5_startPart 16 = .ok (.iconst 0, 1) := by decide +kernel
theorem dX5_startPart_17 : decode cX5_startPart 17 = .ok (.putfield 59, 3) := by decide +kernel
theorem dX5_startPart_20 : decode cX5_startPart 20 = .ok (.aload_n 0, 1) := by decide +kernel
theorem dX5_startPart_21 : decode cX5_startPart 21 = .ok (.iconst 0, 1) := by decide +kernel
theorem dX5_startPart_22 : decode cX5_startPart 22 = .ok (.putfield 63, 3) := by decide +kernel
theorem dX5_startPart_25 : decode cX5_startPart 25 = .ok (.return_, 1) := by decide +kernel
theorem dX5_accepts_0 : decode cX5_accepts 0 = .ok (.aload_n 0, 1) := by decide +kernel
theorem dX5_accepts_1 : decode cX5_accepts 1 = .ok (.getfield 50, 3) := by decide +kernel
theorem dX5_accepts_4 : decode cX5_accepts 4 = .ok (.iconst (-1), 1) := by decide +kernel
theorem dX5_accepts_5 : decode cX5_accepts 5 = .ok (.if_icmp .ne 9, 3) := by decide +kernel
theorem dX5_accepts_8 : decode cX5_accepts 8 = .ok (.aload_n 0, 1) := by decide +kernel
theorem dX5_accepts_9 : decode cX5_accepts 9 = .ok (.iload_n 1, 1) := by decide +kernel
theorem dX5_accepts_10 : decode cX5_accepts 10 = .ok (.invokevirtual 66, 3) := by decide +kernel
theorem dX5_accepts_13 : decode cX5_accepts 13 = .ok (.ireturn, 1) := by decide +kernel
theorem dX5_accepts_14 : decode cX5_accepts 14 = .ok (.iload_n 1, 1) := by decide +kernel
theorem dX5_accepts_15 : decode cX5_accepts 15 = .ok (.bipush 59, 2) := by decide +kernel
theorem dX5_accepts_17 : decode cX5_accepts 17 = .ok (.if_icmp .ne 15, 3) := by decide +kernel
theorem dX5_accepts_20 : decode cX5_accepts 20 = .ok (.aload_n 0, 1) := by decide +kernel
theorem dX5_accepts_21 : decode cX5_accepts 21 = .ok (.invokevirtual 46, 3) := by decide +kernel
theorem dX5_accepts_24 : decode cX5_accepts 24 = .ok (.istore_n 2, 1) := by decide +kernel
theorem dX5_accepts_25 : decode cX5_accepts 25 = .ok (.aload_n 0, 1) := by decide +kernel
theorem dX5_accepts_26 : decode cX5_accepts 26 = .ok (.iconst (-1), 1) := by decide +kernel
theorem dX5_accepts_27 : decode cX5_accepts 27 = .ok (.invokevirtual 32, 3) := by decide +kernel
theorem dX5_accepts_30 : decode cX5_accepts 30 = .ok (.iload_n 2, 1) := by decide +kernel
theorem dX5_accepts_31 : decode cX5_accepts 31 = .ok (.ireturn, 1) := by decide +kernel
theorem dX5_accepts_32 : decode cX5_accepts 32 = .ok (.aload_n 0, 1) := by decide +kernel
theorem dX5_accepts_33 : decode cX5_accepts 33 = .ok (.getfield 50, 3) := by decide +kernel
theorem dX5_accepts_36 : decode cX5_accepts 36 = .ok (.iconst 1, 1) := by decide +kernel
theorem dX5_accepts_37 : decode cX5_accepts 37 = .ok (.if_icmp .ne 11, 3) := by decide +kernel
theorem dX5_accepts_40 : decode cX5_accepts 40 = .ok (.aload_n 0, 1) := by decide +kernel
theorem dX5_accepts_41 : decode cX5_accepts 41 = .ok (.iload_n 1, 1) := by decide +kernel
theorem dX5_accepts_42 : decode cX5_accepts 42 = .ok (.invokevirtual 69, 3) := by decide +kernel
theorem dX5_accepts_45 : decode cX5_accepts 45 = .ok (.goto 8, 3) := by decide +kernel
theorem dX5_accepts_48 : decode cX5_accepts 48 = .ok (.aload_n 0, 1) := by decide +kernel
theorem dX5_accepts_49 : decode cX5_accepts 49 = .ok (.iload_n 1, 1) := by decide +kernel
theorem dX5_accepts_50 : decode cX5_accepts 50 = .ok (.invokevirtual 72, 3) := by decide +kernel
theorem dX5_accepts_53 : decode cX5_accepts 53 = .ok (.ireturn, 1) := by decide +kernel
theorem dX5_acceptsLetter_0 : decode cX5_acceptsLetter 0 = .ok (.iload_n 1, 1) := by decide +kernel
theorem dX5_acceptsLetter_1 : decode cX5_acceptsLetter 1 = .ok (.invokestatic 75, 3) := by decide +kernel
theorem dX5_acceptsLetter_4 : decode cX5_acceptsLetter 4 = .ok (.istore_n 2, 1) := by decide +kernel
theorem dX5_acceptsLetter_5 : decode cX5_acceptsLetter 5 = .ok (.aload_n 0, 1) := by decide +kernel
theorem dX5_acceptsLetter_6 : decode cX5_acceptsLetter 6 = .ok (.iload_n 2, 1) := by decide +kernel
theorem dX5_acceptsLetter_7 : decode cX5_acceptsLetter 7 = .ok (.invokevirtual 32, 3) := by decide +kernel
theorem dX5_acceptsLetter_10 : decode cX5_acceptsLetter 10 = .ok (.iload_n 2, 1) := by decide +kernel
theorem dX5_acceptsLetter_11 : decode cX5_acceptsLetter 11 = .ok (.iconst (-1), 1) := by decide +kernel
theorem dX5_acceptsLetter_12 : decode cX5_acceptsLetter 12 = .ok (.if_icmp .eq 7, 3) := by decide +kernel
theorem dX5_acceptsLetter_15 : decode cX5_acceptsLetter 15 = .ok (.iconst 1, 1) := by decide +kernel
theorem dX5_acceptsLetter_16 : decode cX5_acceptsLetter 16 = .ok (.goto 4, 3) := by decide +kernel
theorem dX5_acceptsLetter_19 : decode cX5_acceptsLetter 19 = .ok (.iconst 0, 1) := by decide +kernel
theorem dX5_acceptsLetter_20 : decode cX5_acceptsLetter 20 = .ok (.ireturn, 1) := by decide +kernel
theorem dX5_kindOfLetter_0 : decode cX5_kindOfLetter 0 = .ok (.iload_n 0, 1) := by decide +kernel
theorem dX5_kindOfLetter_1 : decode cX5_kindOfLetter 1 = .ok (.bipush 114, 2) := by decide +kernel
theorem dX5_kindOfLetter_3 : decode cX5_kindOfLetter 3 = .ok (.if_icmp .ne 5, 3) := by decide +kernel
theorem dX5_kindOfLetter_6 : decode cX5_kindOfLetter 6 = .ok (.iconst 0, 1) := by decide +kernel
theorem dX5_kindOfLetter_7 : decode cX5_kindOfLetter 7 = .ok (.ireturn, 1) := by decide +kernel
theorem dX5_kindOfLetter_8 : decode cX5_kindOfLetter 8 = .ok (.iload_n 0, 1) := by decide +kernel
theorem dX5_kindOfLetter_9 : decode cX5_kindOfLetter 9 = .ok (.bipush 115, 2) := by decide +kernel
theorem dX5_kindOfLetter_11 : decode cX5_kindOfLetter 11 = .ok (.if_icmp .ne 5, 3) := by decide +kernel
theorem dX5_kindOfLetter_14 : decode cX5_kindOfLetter 14 = .ok (.iconst 1, 1) := by decide +kernel
theorem dX5_kindOfLetter_15 : decode cX5_kindOfLetter 15 = .ok (.ireturn, 1) := by decide +kernel
theorem dX5_kindOfLetter_16 : decode cX5_kindOfLetter 16 = .ok (.iload_n 0, 1) := by decide +kernel
theorem dX5_kindOfLetter_17 : decode cX5_kindOfLetter 17 = .ok (.bipush 111, 2) := by decide +kernel
theorem dX5_kindOfLetter_19 : decode cX5_kindOfLetter 19 = .ok (.if_icmp .ne 7, 3) := by decide +kernel
theorem dX5_kindOfLetter_22 : decode cX5_kindOfLetter 22 = .ok (.iconst 2, 1) := by decide +kernel
theorem dX5_kindOfLetter_23 : decode cX5_kindOfLetter 23 = .ok (.goto 4, 3) := by decide +kernel
theorem dX5_kindOfLetter_26 : decode cX5_kindOfLetter 26 = .ok (.iconst (-1), 1) := by decide +kernel
theorem dX5_kindOfLetter_27 : decode cX5_kindOfLetter 27 = .ok (.ireturn, 1) := by decide +kernel
theorem dX5_acceptsDigit_0 : decode cX5_acceptsDigit 0 = .ok (.aload_n 0, 1) := by decide +kernel
theorem dX5_acceptsDigit_1 : decode cX5_acceptsDigit 1 = .ok (.getfield 53, 3) := by decide +kernel
theorem dX5_acceptsDigit_4 : decode cX5_acceptsDigit 4 = .ok (.aload_n 0, 1) := by decide +kernel
theorem dX5_acceptsDigit_5 : decode cX5_acceptsDigit 5 = .ok (.getfield 24, 3) := by decide +kernel
theorem dX5_acceptsDigit_8 : decode cX5_acceptsDigit 8 = .ok (.arraylength, 1) := by decide +kernel
theorem dX5_acceptsDigit_9 : decode cX5_acceptsDigit 9 = .ok (.if_icmp .lt 5, 3) := by decide +kernel
theorem dX5_acceptsDigit_12 : decode cX5_acceptsDigit 12 = .ok (.iconst 0, 1) := by decide +kernel
theorem dX5_acceptsDigit_13 : decode cX5_acceptsDigit 13 = .ok (.ireturn, 1) := by decide +kernel
theorem dX5_acceptsDigit_14 : decode cX5_acceptsDigit 14 = .ok (.aload_n 0, 1) := by decide +kernel
theorem dX5_acceptsDigit_15 : decode cX5_acceptsDigit 15 = .ok (.getfield 50, 3) := by decide +kernel
theorem dX5_acceptsDigit_18 : decode cX5_acceptsDigit 18 = .ok (.ifCond .ne 15, 3) := by decide +kernel
theorem dX5_acceptsDigit_21 : decode cX5_acceptsDigit 21 = .ok (.aload_n 0, 1) := by decide +kernel
theorem dX5_acceptsDigit_22 : decode cX5_acceptsDigit 22 = .ok (.getfield 53, 3) := by decide +kernel
theorem dX5_acceptsDigit_25 : decode cX5_acceptsDigit 25 = .ok (.iconst 2, 1) := by decide +kernel
theorem dX5_acceptsDigit_26 : decode cX5_acceptsDigit 26 = .ok (.if_icmp .ne 7, 3) := by decide +kernel
theorem dX5_acceptsDigit_29 : decode cX5_acceptsDigit 29 = .ok (.iconst 1, 1) := by decide +kernel
theorem dX5_acceptsDigit_30 : decode cX5_acceptsDigit 30 = .ok (.goto 4, 3) := by decide +kernel
theorem dX5_acceptsDigit_33 : decode cX5_acceptsDigit 33 = .ok (.iconst 0, 1) := by decide +kernel
theorem dX5_acceptsDigit_34 : decode cX5_acceptsDigit 34 = .ok (.istore_n 2, 1) := by decide +kernel
theorem dX5_acceptsDigit_35 : decode cX5_acceptsDigit 35 = .ok (.iload_n 2, 1) := by decide +kernel
theorem dX5_acceptsDigit_36 : decode cX5_acceptsDigit 36 = .ok (.ifCond .eq 23, 3) := by decide +kernel
theorem dX5_acceptsDigit_39 : decode cX5_acceptsDigit 39 = .ok (.iload_n 1, 1) := by decide +kernel
theorem dX5_acceptsDigit_40 : decode cX5_acceptsDigit 40 = .ok (.bipush 49, 2) := by decide +kernel
theorem dX5_acceptsDigit_42 : decode cX5_acceptsDigit 42 = .ok (.if_icmp .lt 13, 3) := by decide +kernel
theorem dX5_acceptsDigit_45 : decode cX5_acceptsDigit 45 = .ok (.iload_n 1, 1) := by decide +kernel
theorem dX5_acceptsDigit_46 : decode cX5_acceptsDigit 46 = .ok (.bipush 52, 2) := by decide +kernel
theorem dX5_acceptsDigit_48 : decode cX5_acceptsDigit 48 = .ok (.if_icmp .gt 7, 3) := by decide +kernel
theorem dX5_acceptsDigit_51 : decode cX5_acceptsDigit 51 = .ok (.iconst 1, 1) := by decide +kernel
theorem dX5_acceptsDigit_52 : decode cX5_acceptsDigit 52 = .ok (.goto 11, 3) := by decide +kernel
theorem dX5_acceptsDigit_55 : decode cX5_acceptsDigit 55 = .ok (.iconst 0, 1) := by decide +kernel
theorem dX5_acceptsDigit_56 : decode cX5_acceptsDigit 56 = .ok (.goto 7, 3) := by decide +kernel
theorem dX5_acceptsDigit_59 : decode cX5_acceptsDigit 59 = .ok (.iload_n 1, 1) := by decide +kernel
theorem dX5_acceptsDigit_60 : decode cX5_acceptsDigit 60 = .ok (.invokestatic 79, 3) := by decide +kernel
theorem dX5_acceptsDigit_63 : decode cX5_acceptsDigit 63 = .ok (.istore_n 3, 1) := by decide +kernel
theorem dX5_acceptsDigit_64 : decode cX5_acceptsDigit 64 = .ok (.iload_n 3, 1) := by decide +kernel
theorem dX5_acceptsDigit_65 : decode cX5_acceptsDigit 65 = .ok (.ifCond .eq 26, 3) := by decide +kernel
theorem dX5_acceptsDigit_68 : decode cX5_acceptsDigit 68 = .ok (.aload_n 0, 1) := by decide +kernel
theorem dX5_acceptsDigit_69 : decode cX5_acceptsDigit 69 = .ok (.getfield 24, 3) := by decide +kernel
theorem dX5_acceptsDigit_72 : decode cX5_acceptsDigit 72 = .ok (.aload_n 0, 1) := by decide +kernel
theorem dX5_acceptsDigit_73 : decode cX5_acceptsDigit 73 = .ok (.getfield 53, 3) := by decide +kernel
theorem dX5_acceptsDigit_76 : decode cX5_acceptsDigit 76 = .ok (.iload_n 1, 1) := by decide +kernel
theorem dX5_acceptsDigit_77 : decode cX5_acceptsDigit 77 = .ok (.bipush 48, 2) := by decide +kernel
theorem dX5_acceptsDigit_79 : decode cX5_acceptsDigit 79 = .ok (.isub, 1) := by decide +kernel
theorem dX5_acceptsDigit_80 : decode cX5_acceptsDigit 80 = .ok (.iastore, 1) := by decide +kernel
theorem dX5_acceptsDigit_81 : decode cX5_acceptsDigit 81 = .ok (.aload_n 0, 1) := by decide +kernel
theorem dX5_acceptsDigit_82 : decode cX5_acceptsDigit 82 = .ok (.dup, 1) := by decide +kernel
theorem dX5_acceptsDigit_83 : decode cX5_acceptsDigit 83 = .ok (.getfield 53, 3) := by decide +kernel
theorem dX5_acceptsDigit_86 : decode cX5_acceptsDigit 86 = .ok (.iconst 1, 1) := by decide +kernel
theorem dX5_acceptsDigit_87 : decode cX5_acceptsDigit 87 = .ok (.iadd, 1) := by decide +kernel
theorem dX5_acceptsDigit_88 : decode cX5_acceptsDigit 88 = .ok (.putfield 53, 3) := by decide +kernel
theorem dX5_acceptsDigit_91 : decode cX5_acceptsDigit 91 = .ok (.iload_n 3, 1) := by decide +kernel
theorem dX5_acceptsDigit_92 : decode cX5_acceptsDigit 92 = .ok (.ireturn, 1) := by decide +kernel
theorem dX5_acceptsInSource_0 : decode cX5_acceptsInSource 0 = .ok (.aload_n 0, 1) := by decide +kernel
theorem dX5_acceptsInSource_1 : decode cX5_acceptsInSource 1 = .ok (.getfield 56, 3) := by decide +kernel
theorem dX5_acceptsInSource_4 : decode cX5_acceptsInSource 4 = .ok (.iconst (-1), 1) := by decide +kernel
theorem dX5_acceptsInSource_5 : decode cX5_acceptsInSource 5 = .ok (.if_icmp .ne 22, 3) := by decide +kernel
theorem dX5_acceptsInSource_8 : decode cX5_acceptsInSource 8 = .ok (.iload_n 1, 1) := by decide +kernel
theorem dX5_acceptsInSource_9 : decode cX5_acceptsInSource 9 = .ok (.invokestatic 79, 3) := by decide +kernel
theorem dX5_acceptsInSource_12 : decode cX5_acceptsInSource 12 = .ok (.ifCond .ne 5, 3) := by decide +kernel
theorem dX5_acceptsInSource_15 : decode cX5_acceptsInSource 15 = .ok (.iconst 0, 1) := by decide +kernel
theorem dX5_acceptsInSource_16 : decode cX5_acceptsInSource 16 = .ok (.ireturn, 1) := by decide +kernel
theorem dX5_acceptsInSource_17 : decode cX5_acceptsInSource 17 = .ok (.aload_n 0, 1) := by decide +kernel
theorem dX5_acceptsInSource_18 : decode cX5_acceptsInSource 18 = .ok (.iload_n 1, 1) := by decide +kernel
theorem dX5_acceptsInSource_19 : decode cX5_acceptsInSource 19 = .ok (.bipush 48, 2) := by decide +kernel
theorem dX5_acceptsInSource_21 : decode cX5_acceptsInSource 21 = .ok (.isub, 1) := by decide +kernel
theorem dX5_acceptsInSource_22 : decode cX5_acceptsInSource 22 = .ok (.putfield 56, 3) := by decide +kernel
theorem dX5_acceptsInSource_25 : decode cX5_acceptsInSource 25 = .ok (.iconst 1, 1) := by decide +kernel
theorem dX5_acceptsInSource_26 : decode cX5_acceptsInSource 26 = .ok (.ireturn, 1) := by decide +kernel
theorem dX5_acceptsInSource_27 : decode cX5_acceptsInSource 27 = .ok (.iload_n 1, 1) := by decide +kernel
theorem dX5_acceptsInSource_28 : decode cX5_acceptsInSource 28 = .ok (.bipush 45, 2) := by decide +kernel
theorem dX5_acceptsInSource_30 : decode cX5_acceptsInSource 30 = .ok (.if_icmp .ne 30, 3) := by decide +kernel
theorem dX5_acceptsInSource_33 : decode cX5_acceptsInSource 33 = .ok (.aload_n 0, 1) := by decide +kernel
theorem dX5_acceptsInSource_34 : decode cX5_acceptsInSource 34 = .ok (.getfield 59, 3) := by decide +kernel
theorem dX5_acceptsInSource_37 : decode cX5_acceptsInSource 37 = .ok (.ifCond .ne 14, 3) := by decide +kernel
theorem dX5_acceptsInSource_40 : decode cX5_acceptsInSource 40 = .ok (.aload_n 0, 1) := by decide +kernel
theorem dX5_acceptsInSource_41 : decode cX5_acceptsInSource 41 = .ok (.getfield 53, 3) := by decide +kernel
theorem dX5_acceptsInSource_44 : decode cX5_acceptsInSource 44 = .ok (.ifCond .ne 7, 3) := by decide +kernel
theorem dX5_acceptsInSource_47 : decode cX5_acceptsInSource 47 = .ok (.iconst 1, 1) := by decide +kernel
theorem dX5_acceptsInSource_48 : decode cX5_acceptsInSource 48 = .ok (.goto 4, 3) := by decide +kernel
theorem dX5_acceptsInSource_51 : decode cX5_acceptsInSource 51 = .ok (.iconst 0, 1) := by decide +kernel
theorem dX5_acceptsInSource_52 : decode cX5_acceptsInSource 52 = .ok (.istore_n 2, 1) := by decide +kernel
theorem dX5_acceptsInSource_53 : decode cX5_acceptsInSource 53 = .ok (.aload_n 0, 1) := by decide +kernel
theorem dX5_acceptsInSource_54 : decode cX5_acceptsInSource 54 = .ok (.iconst 1, 1) := by decide +kernel
theorem dX5_acceptsInSource_55 : decode cX5_acceptsInSource 55 = .ok (.putfield 59, 3) := by decide +kernel
theorem dX5_acceptsInSource_58 : decode cX5_acceptsInSource 58 = .ok (.iload_n 2, 1) := by decide +kernel
theorem dX5_acceptsInSource_59 : decode cX5_acceptsInSource 59 = .ok (.ireturn, 1) := by decide +kernel
theorem dX5_acceptsInSource_60 : decode cX5_acceptsInSource 60 = .ok (.aload_n 0, 1) := by decide +kernel
theorem dX5_acceptsInSource_61 : decode cX5_acceptsInSource 61 = .ok (.iload_n 1, 1) := by decide +kernel
theorem dX5_acceptsInSource_62 : decode cX5_acceptsInSource 62 = .ok (.invokevirtual 82, 3) := by decide +kernel
theorem dX5_acceptsInSource_65 : decode cX5_acceptsInSource 65 = .ok (.ireturn, 1) := by decide +kernel
theorem dX5_acceptsInValue_0 : decode cX5_acceptsInValue 0 = .ok (.aload_n 0, 1) := by decide +kernel
theorem dX5_acceptsInValue_1 : decode cX5_acceptsInValue 1 = .ok (.getfield 53, 3) := by decide +kernel
theorem dX5_acceptsInValue_4 : decode cX5_acceptsInValue 4 = .ok (.ifCond .le 14, 3) := by decide +kernel
theorem dX5_acceptsInValue_7 : decode cX5_acceptsInValue 7 = .ok (.aload_n 0, 1) := by decide +kernel
theorem dX5_acceptsInValue_8 : decode cX5_acceptsInValue 8 = .ok (.getfield 63, 3) := by decide +kernel
theorem dX5_acceptsInValue_11 : decode cX5_acceptsInValue 11 = .ok (.ifCond .ne 7, 3) := by decide +kernel
theorem dX5_acceptsInValue_14 : decode cX5_acceptsInValue 14 = .ok (.iconst 1, 1) := by decide +kernel
theorem dX5_acceptsInValue_15 : decode cX5_acceptsInValue 15 = .ok (.goto 4, 3) := by decide +kernel
theorem dX5_acceptsInValue_18 : decode cX5_acceptsInValue 18 = .ok (.iconst 0, 1) := by decide +kernel
theorem dX5_acceptsInValue_19 : decode cX5_acceptsInValue 19 = .ok (.istore_n 2, 1) := by decide +kernel
theorem dX5_acceptsInValue_20 : decode cX5_acceptsInValue 20 = .ok (.iload_n 1, 1) := by decide +kernel
theorem dX5_acceptsInValue_21 : decode cX5_acceptsInValue 21 = .ok (.bipush 48, 2) := by decide +kernel
