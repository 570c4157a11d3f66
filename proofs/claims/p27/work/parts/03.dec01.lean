theorem dX5_acceptsInValue_23 : decode cX5_acceptsInValue 23 = .ok (.if_icmp .lt 13, 3) := by decide +kernel
theorem dX5_acceptsInValue_26 : decode cX5_acceptsInValue 26 = .ok (.iload_n 1, 1) := by decide +kernel
theorem dX5_acceptsInValue_27 : decode cX5_acceptsInValue 27 = .ok (.bipush 57, 2) := by decide +kernel
theorem dX5_acceptsInValue_29 : decode cX5_acceptsInValue 29 = .ok (.if_icmp .gt 7, 3) := by decide +kernel
theorem dX5_acceptsInValue_32 : decode cX5_acceptsInValue 32 = .ok (.iload_n 2, 1) := by decide +kernel
theorem dX5_acceptsInValue_33 : decode cX5_acceptsInValue 33 = .ok (.ifCond .eq 5, 3) := by decide +kernel
theorem dX5_acceptsInValue_36 : decode cX5_acceptsInValue 36 = .ok (.iconst 0, 1) := by decide +kernel
theorem dX5_acceptsInValue_37 : decode cX5_acceptsInValue 37 = .ok (.ireturn, 1) := by decide +kernel
theorem dX5_acceptsInValue_38 : decode cX5_acceptsInValue 38 = .ok (.aload_n 0, 1) := by decide +kernel
theorem dX5_acceptsInValue_39 : decode cX5_acceptsInValue 39 = .ok (.bipush 10, 2) := by decide +kernel
theorem dX5_acceptsInValue_41 : decode cX5_acceptsInValue 41 = .ok (.aload_n 0, 1) := by decide +kernel
theorem dX5_acceptsInValue_42 : decode cX5_acceptsInValue 42 = .ok (.getfield 63, 3) := by decide +kernel
theorem dX5_acceptsInValue_45 : decode cX5_acceptsInValue 45 = .ok (.imul, 1) := by decide +kernel
theorem dX5_acceptsInValue_46 : decode cX5_acceptsInValue 46 = .ok (.iload_n 1, 1) := by decide +kernel
theorem dX5_acceptsInValue_47 : decode cX5_acceptsInValue 47 = .ok (.bipush 48, 2) := by decide +kernel
theorem dX5_acceptsInValue_49 : decode cX5_acceptsInValue 49 = .ok (.isub, 1) := by decide +kernel
theorem dX5_acceptsInValue_50 : decode cX5_acceptsInValue 50 = .ok (.iadd, 1) := by decide +kernel
theorem dX5_acceptsInValue_51 : decode cX5_acceptsInValue 51 = .ok (.putfield 63, 3) := by decide +kernel
theorem dX5_acceptsInValue_54 : decode cX5_acceptsInValue 54 = .ok (.aload_n 0, 1) := by decide +kernel
theorem dX5_acceptsInValue_55 : decode cX5_acceptsInValue 55 = .ok (.dup, 1) := by decide +kernel
theorem dX5_acceptsInValue_56 : decode cX5_acceptsInValue 56 = .ok (.getfield 53, 3) := by decide +kernel
theorem dX5_acceptsInValue_59 : decode cX5_acceptsInValue 59 = .ok (.iconst 1, 1) := by decide +kernel
theorem dX5_acceptsInValue_60 : decode cX5_acceptsInValue 60 = .ok (.iadd, 1) := by decide +kernel
theorem dX5_acceptsInValue_61 : decode cX5_acceptsInValue 61 = .ok (.putfield 53, 3) := by decide +kernel
theorem dX5_acceptsInValue_64 : decode cX5_acceptsInValue 64 = .ok (.aload_n 0, 1) := by decide +kernel
theorem dX5_acceptsInValue_65 : decode cX5_acceptsInValue 65 = .ok (.getfield 63, 3) := by decide +kernel
theorem dX5_acceptsInValue_68 : decode cX5_acceptsInValue 68 = .ok (.sipush 200, 3) := by decide +kernel
theorem dX5_acceptsInValue_71 : decode cX5_acceptsInValue 71 = .ok (.if_icmp .gt 7, 3) := by decide +kernel
theorem dX5_acceptsInValue_74 : decode cX5_acceptsInValue 74 = .ok (.iconst 1, 1) := by decide +kernel
theorem dX5_acceptsInValue_75 : decode cX5_acceptsInValue 75 = .ok (.goto 4, 3) := by decide +kernel
theorem dX5_acceptsInValue_78 : decode cX5_acceptsInValue 78 = .ok (.iconst 0, 1) := by decide +kernel
theorem dX5_acceptsInValue_79 : decode cX5_acceptsInValue 79 = .ok (.ireturn, 1) := by decide +kernel
theorem dX5_isNode_0 : decode cX5_isNode 0 = .ok (.iload_n 0, 1) := by decide +kernel
theorem dX5_isNode_1 : decode cX5_isNode 1 = .ok (.bipush 48, 2) := by decide +kernel
theorem dX5_isNode_3 : decode cX5_isNode 3 = .ok (.if_icmp .lt 13, 3) := by decide +kernel
theorem dX5_isNode_6 : decode cX5_isNode 6 = .ok (.iload_n 0, 1) := by decide +kernel
theorem dX5_isNode_7 : decode cX5_isNode 7 = .ok (.bipush 55, 2) := by decide +kernel
theorem dX5_isNode_9 : decode cX5_isNode 9 = .ok (.if_icmp .ge 7, 3) := by decide +kernel
theorem dX5_isNode_12 : decode cX5_isNode 12 = .ok (.iconst 1, 1) := by decide +kernel
theorem dX5_isNode_13 : decode cX5_isNode 13 = .ok (.goto 4, 3) := by decide +kernel
theorem dX5_isNode_16 : decode cX5_isNode 16 = .ok (.iconst 0, 1) := by decide +kernel
theorem dX5_isNode_17 : decode cX5_isNode 17 = .ok (.ireturn, 1) := by decide +kernel
theorem dX5_endsPart_0 : decode cX5_endsPart 0 = .ok (.aload_n 0, 1) := by decide +kernel
theorem dX5_endsPart_1 : decode cX5_endsPart 1 = .ok (.getfield 50, 3) := by decide +kernel
theorem dX5_endsPart_4 : decode cX5_endsPart 4 = .ok (.iconst (-1), 1) := by decide +kernel
theorem dX5_endsPart_5 : decode cX5_endsPart 5 = .ok (.if_icmp .ne 5, 3) := by decide +kernel
theorem dX5_endsPart_8 : decode cX5_endsPart 8 = .ok (.iconst 0, 1) := by decide +kernel
theorem dX5_endsPart_9 : decode cX5_endsPart 9 = .ok (.ireturn, 1) := by decide +kernel
theorem dX5_endsPart_10 : decode cX5_endsPart 10 = .ok (.aload_n 0, 1) := by decide +kernel
theorem dX5_endsPart_11 : decode cX5_endsPart 11 = .ok (.getfield 50, 3) := by decide +kernel
theorem dX5_endsPart_14 : decode cX5_endsPart 14 = .ok (.iconst 1, 1) := by decide +kernel
theorem dX5_endsPart_15 : decode cX5_endsPart 15 = .ok (.if_icmp .ne 46, 3) := by decide +kernel
theorem dX5_endsPart_18 : decode cX5_endsPart 18 = .ok (.aload_n 0, 1) := by decide +kernel
theorem dX5_endsPart_19 : decode cX5_endsPart 19 = .ok (.getfield 53, 3) := by decide +kernel
theorem dX5_endsPart_22 : decode cX5_endsPart 22 = .ok (.ifCond .ne 5, 3) := by decide +kernel
theorem dX5_endsPart_25 : decode cX5_endsPart 25 = .ok (.iconst 0, 1) := by decide +kernel
theorem dX5_endsPart_26 : decode cX5_endsPart 26 = .ok (.ireturn, 1) := by decide +kernel
theorem dX5_endsPart_27 : decode cX5_endsPart 27 = .ok (.aload_n 0, 1) := by decide +kernel
theorem dX5_endsPart_28 : decode cX5_endsPart 28 = .ok (.getfield 20, 3) := by decide +kernel
theorem dX5_endsPart_31 : decode cX5_endsPart 31 = .ok (.iconst 1, 1) := by decide +kernel
theorem dX5_endsPart_32 : decode cX5_endsPart 32 = .ok (.aload_n 0, 1) := by decide +kernel
theorem dX5_endsPart_33 : decode cX5_endsPart 33 = .ok (.getfield 56, 3) := by decide +kernel
theorem dX5_endsPart_36 : decode cX5_endsPart 36 = .ok (.iconst (-1), 1) := by decide +kernel
theorem dX5_endsPart_37 : decode cX5_endsPart 37 = .ok (.aload_n 0, 1) := by decide +kernel
theorem dX5_endsPart_38 : decode cX5_endsPart 38 = .ok (.getfield 59, 3) := by decide +kernel
theorem dX5_endsPart_41 : decode cX5_endsPart 41 = .ok (.ifCond .eq 11, 3) := by decide +kernel
theorem dX5_endsPart_44 : decode cX5_endsPart 44 = .ok (.aload_n 0, 1) := by decide +kernel
theorem dX5_endsPart_45 : decode cX5_endsPart 45 = .ok (.getfield 63, 3) := by decide +kernel
theorem dX5_endsPart_48 : decode cX5_endsPart 48 = .ok (.ineg, 1) := by decide +kernel
theorem dX5_endsPart_49 : decode cX5_endsPart 49 = .ok (.goto 7, 3) := by decide +kernel
theorem dX5_endsPart_52 : decode cX5_endsPart 52 = .ok (.aload_n 0, 1) := by decide +kernel
theorem dX5_endsPart_53 : decode cX5_endsPart 53 = .ok (.getfield 63, 3) := by decide +kernel
theorem dX5_endsPart_56 : decode cX5_endsPart 56 = .ok (.invokevirtual 85, 3) := by decide +kernel
theorem dX5_endsPart_59 : decode cX5_endsPart 59 = .ok (.iconst 1, 1) := by decide +kernel
theorem dX5_endsPart_60 : decode cX5_endsPart 60 = .ok (.ireturn, 1) := by decide +kernel
theorem dX5_endsPart_61 : decode cX5_endsPart 61 = .ok (.aload_n 0, 1) := by decide +kernel
theorem dX5_endsPart_62 : decode cX5_endsPart 62 = .ok (.getfield 53, 3) := by decide +kernel
theorem dX5_endsPart_65 : decode cX5_endsPart 65 = .ok (.aload_n 0, 1) := by decide +kernel
theorem dX5_endsPart_66 : decode cX5_endsPart 66 = .ok (.getfield 24, 3) := by decide +kernel
theorem dX5_endsPart_69 : decode cX5_endsPart 69 = .ok (.arraylength, 1) := by decide +kernel
theorem dX5_endsPart_70 : decode cX5_endsPart 70 = .ok (.if_icmp .ge 5, 3) := by decide +kernel
theorem dX5_endsPart_73 : decode cX5_endsPart 73 = .ok (.iconst 0, 1) := by decide +kernel
theorem dX5_endsPart_74 : decode cX5_endsPart 74 = .ok (.ireturn, 1) := by decide +kernel
theorem dX5_endsPart_75 : decode cX5_endsPart 75 = .ok (.aload_n 0, 1) := by decide +kernel
theorem dX5_endsPart_76 : decode cX5_endsPart 76 = .ok (.getfield 20, 3) := by decide +kernel
theorem dX5_endsPart_79 : decode cX5_endsPart 79 = .ok (.aload_n 0, 1) := by decide +kernel
theorem dX5_endsPart_80 : decode cX5_endsPart 80 = .ok (.getfield 50, 3) := by decide +kernel
theorem dX5_endsPart_83 : decode cX5_endsPart 83 = .ok (.aload_n 0, 1) := by decide +kernel
theorem dX5_endsPart_84 : decode cX5_endsPart 84 = .ok (.getfield 24, 3) := by decide +kernel
theorem dX5_endsPart_87 : decode cX5_endsPart 87 = .ok (.iconst 0, 1) := by decide +kernel
theorem dX5_endsPart_88 : decode cX5_endsPart 88 = .ok (.iaload, 1) := by decide +kernel
theorem dX5_endsPart_89 : decode cX5_endsPart 89 = .ok (.aload_n 0, 1) := by decide +kernel
theorem dX5_endsPart_90 : decode cX5_endsPart 90 = .ok (.getfield 24, 3) := by decide +kernel
theorem dX5_endsPart_93 : decode cX5_endsPart 93 = .ok (.iconst 1, 1) := by decide +kernel
theorem dX5_endsPart_94 : decode cX5_endsPart 94 = .ok (.iaload, 1) := by decide +kernel
theorem dX5_endsPart_95 : decode cX5_endsPart 95 = .ok (.aload_n 0, 1) := by decide +kernel
theorem dX5_endsPart_96 : decode cX5_endsPart 96 = .ok (.getfield 24, 3) := by decide +kernel
theorem dX5_endsPart_99 : decode cX5_endsPart 99 = .ok (.iconst 2, 1) := by decide +kernel
theorem dX5_endsPart_100 : decode cX5_endsPart 100 = .ok (.iaload, 1) := by decide +kernel
theorem dX5_endsPart_101 : decode cX5_endsPart 101 = .ok (.invokevirtual 85, 3) := by decide +kernel
theorem dX5_endsPart_104 : decode cX5_endsPart 104 = .ok (.iconst 1, 1) := by decide +kernel
theorem dX5_endsPart_105 : decode cX5_endsPart 105 = .ok (.ireturn, 1) := by decide +kernel
theorem dX6_init_0 : decode cX6_init 0 = .ok (.aload_n 0, 1) := by decide +kernel
theorem dX6_init_1 : decode cX6_init 1 = .ok (.invokespecial 1, 3) := by decide +kernel
theorem dX6_init_4 : decode cX6_init 4 = .ok (.aload_n 0, 1) := by decide +kernel
theorem dX6_init_5 : decode cX6_init 5 = .ok (.new 7, 3) := by decide +kernel
theorem dX6_init_8 : decode cX6_init 8 = .ok (.dup, 1) := by decide +kernel
theorem dX6_init_9 : decode cX6_init 9 = .ok (.invokespecial 9, 3) := by decide +kernel
theorem dX6_init_12 : decode cX6_init 12 = .ok (.putfield 10, 3) := by decide +kernel
theorem dX6_init_15 : decode cX6_init 15 = .ok (.aload_n 0, 1) := by decide +kernel
theorem dX6_init_16 : decode cX6_init 16 = .ok (.new 7, 3) := by decide +kernel
theorem dX6_init_19 : decode cX6_init 19 = .ok (.dup, 1) := by decide +kernel
theorem dX6_init_20 : decode cX6_init 20 = .ok (.invokespecial 9, 3) := by decide +kernel
theorem dX6_init_23 : decode cX6_init 23 = .ok (.putfield 16, 3) := by decide +kernel
theorem dX6_init_26 : decode cX6_init 26 = .ok (.aload_n 0, 1) := by decide +kernel
theorem dX6_init_27 : decode cX6_init 27 = .ok (.new 19, 3) := by decide +kernel
theorem dX6_init_30 : decode cX6_init 30 = .ok (.dup, 1) := by decide +kernel
theorem dX6_init_31 : decode cX6_init 31 = .ok (.invokespecial 21, 3) := by decide +kernel
theorem dX6_init_34 : decode cX6_init 34 = .ok (.putfield 22, 3) := by decide +kernel
theorem dX6_init_37 : decode cX6_init 37 = .ok (.aload_n 0, 1) := by decide +kernel
theorem dX6_init_38 : decode cX6_init 38 = .ok (.new 26, 3) := by decide +kernel
theorem dX6_init_41 : decode cX6_init 41 = .ok (.dup, 1) := by decide +kernel
theorem dX6_init_42 : decode cX6_init 42 = .ok (.invokespecial 28, 3) := by decide +kernel
theorem dX6_init_45 : decode cX6_init 45 = .ok (.putfield 29, 3) := by decide +kernel
theorem dX6_init_48 : decode cX6_init 48 = .ok (.aload_n 0, 1) := by decide +kernel
theorem dX6_init_49 : decode cX6_init 49 = .ok (.iconst 2, 1) := by decide +kernel
theorem dX6_init_50 : decode cX6_init 50 = .ok (.anewarray 33, 3) := by decide +kernel
theorem dX6_init_53 : decode cX6_init 53 = .ok (.putfield 35, 3) := by decide +kernel
theorem dX6_init_56 : decode cX6_init 56 = .ok (.iconst 0, 1) := by decide +kernel
theorem dX6_init_57 : decode cX6_init 57 = .ok (.istore_n 1, 1) := by decide +kernel
theorem dX6_init_58 : decode cX6_init 58 = .ok (.iload_n 1, 1) := by decide +kernel
theorem dX6_init_59 : decode cX6_init 59 = .ok (.iconst 2, 1) := by decide +kernel
theorem dX6_init_60 : decode cX6_init 60 = .ok (.if_icmp .ge 22, 3) := by decide +kernel
theorem dX6_init_63 : decode cX6_init 63 = .ok (.aload_n 0, 1) := by decide +kernel
theorem dX6_init_64 : decode cX6_init 64 = .ok (.getfield 35, 3) := by decide +kernel
theorem dX6_init_67 : decode cX6_init 67 = .ok (.iload_n 1, 1) := by decide +kernel
theorem dX6_init_68 : decode cX6_init 68 = .ok (.new 33, 3) := by decide +kernel
theorem dX6_init_71 : decode cX6_init 71 = .ok (.dup, 1) := by decide +kernel
theorem dX6_init_72 : decode cX6_init 72 = .ok (.invokespecial 39, 3) := by decide +kernel
theorem dX6_init_75 : decode cX6_init 75 = .ok (.aastore, 1) := by decide +kernel
theorem dX6_init_76 : decode cX6_init 76 = .ok (.iinc 1 1, 3) := by decide +kernel
theorem dX6_init_79 : decode cX6_init 79 = .ok (.goto (-21), 3) := by decide +kernel
theorem dX6_init_82 : decode cX6_init 82 = .ok (.aload_n 0, 1) := by decide +kernel
theorem dX6_init_83 : decode cX6_init 83 = .ok (.getfield 10, 3) := by decide +kernel
theorem dX6_init_86 : decode cX6_init 86 = .ok (.invokevirtual 40, 3) := by decide +kernel
theorem dX6_init_89 : decode cX6_init 89 = .ok (.return_, 1) := by decide +kernel
theorem dX6_begin_0 : decode cX6_begin 0 = .ok (.aload_n 0, 1) := by decide +kernel
theorem dX6_begin_1 : decode cX6_begin 1 = .ok (.getfield 10, 3) := by decide +kernel
theorem dX6_begin_4 : decode cX6_begin 4 = .ok (.getfield 43, 3) := by decide +kernel
theorem dX6_begin_7 : decode cX6_begin 7 = .ok (.getfield 47, 3) := by decide +kernel
theorem dX6_begin_10 : decode cX6_begin 10 = .ok (.getfield 51, 3) := by decide +kernel
theorem dX6_begin_13 : decode cX6_begin 13 = .ok (.istore_n 1, 1) := by decide +kernel
theorem dX6_begin_14 : decode cX6_begin 14 = .ok (.aload_n 0, 1) := by decide +kernel
theorem dX6_begin_15 : decode cX6_begin 15 = .ok (.getfield 29, 3) := by decide +kernel
theorem dX6_begin_18 : decode cX6_begin 18 = .ok (.aload_n 0, 1) := by decide +kernel
theorem dX6_begin_19 : decode cX6_begin 19 = .ok (.getfield 10, 3) := by decide +kernel
theorem dX6_begin_22 : decode cX6_begin 22 = .ok (.getfield 43, 3) := by decide +kernel
theorem dX6_begin_25 : decode cX6_begin 25 = .ok (.invokevirtual 57, 3) := by decide +kernel
theorem dX6_begin_28 : decode cX6_begin 28 = .ok (.aload_n 0, 1) := by decide +kernel
theorem dX6_begin_29 : decode cX6_begin 29 = .ok (.getfield 10, 3) := by decide +kernel
theorem dX6_begin_32 : decode cX6_begin 32 = .ok (.getfield 43, 3) := by decide +kernel
theorem dX6_begin_35 : decode cX6_begin 35 = .ok (.invokevirtual 61, 3) := by decide +kernel
theorem dX6_begin_38 : decode cX6_begin 38 = .ok (.aload_n 0, 1) := by decide +kernel
theorem dX6_begin_39 : decode cX6_begin 39 = .ok (.getfield 10, 3) := by decide +kernel
theorem dX6_begin_42 : decode cX6_begin 42 = .ok (.invokevirtual 40, 3) := by decide +kernel
theorem dX6_begin_45 : decode cX6_begin 45 = .ok (.aload_n 0, 1) := by decide +kernel
theorem dX6_begin_46 : decode cX6_begin 46 = .ok (.getfield 10, 3) := by decide +kernel
theorem dX6_begin_49 : decode cX6_begin 49 = .ok (.invokevirtual 64, 3) := by decide +kernel
theorem dX6_begin_52 : decode cX6_begin 52 = .ok (.iload_n 1, 1) := by decide +kernel
theorem dX6_begin_53 : decode cX6_begin 53 = .ok (.ireturn, 1) := by decide +kernel
theorem dX6_load_0 : decode cX6_load 0 = .ok (.aload_n 0, 1) := by decide +kernel
theorem dX6_load_1 : decode cX6_load 1 = .ok (.getfield 22, 3) := by decide +kernel
theorem dX6_load_4 : decode cX6_load 4 = .ok (.invokevirtual 67, 3) := by decide +kernel
theorem dX6_load_7 : decode cX6_load 7 = .ok (.ifCond .eq 16, 3) := by decide +kernel
theorem dX6_load_10 : decode cX6_load 10 = .ok (.aload_n 0, 1) := by decide +kernel
theorem dX6_load_11 : decode cX6_load 11 = .ok (.getfield 22, 3) := by decide +kernel
theorem dX6_load_14 : decode cX6_load 14 = .ok (.getfield 71, 3) := by decide +kernel
theorem dX6_load_17 : decode cX6_load 17 = .ok (.invokevirtual 72, 3) := by decide +kernel
theorem dX6_load_20 : decode cX6_load 20 = .ok (.ifCond .ne 13, 3) := by decide +kernel
theorem dX6_load_23 : decode cX6_load 23 = .ok (.new 75, 3) := by decide +kernel
theorem dX6_load_26 : decode cX6_load 26 = .ok (.dup, 1) := by decide +kernel
theorem dX6_load_27 : decode cX6_load 27 = .ok (.ldc 77, 2) := by decide +kernel
theorem dX6_load_29 : decode cX6_load 29 = .ok (.invokespecial 79, 3) := by decide +kernel
theorem dX6_load_32 : decode cX6_load 32 = .ok (.athrow, 1) := by decide +kernel
theorem dX6_load_33 : decode cX6_load 33 = .ok (.aload_n 0, 1) := by decide +kernel
theorem dX6_load_34 : decode cX6_load 34 = .ok (.getfield 10, 3) := by decide +kernel
theorem dX6_load_37 : decode cX6_load 37 = .ok (.getfield 43, 3) := by decide +kernel
theorem dX6_load_40 : decode cX6_load 40 = .ok (.getfield 47, 3) := by decide +kernel
theorem dX6_load_43 : decode cX6_load 43 = .ok (.aload_n 0, 1) := by decide +kernel
theorem dX6_load_44 : decode cX6_load 44 = .ok (.getfield 22, 3) := by decide +kernel
theorem dX6_load_47 : decode cX6_load 47 = .ok (.getfield 71, 3) := by decide +kernel
theorem dX6_load_50 : decode cX6_load 50 = .ok (.invokevirtual 82, 3) := by decide +kernel
theorem dX6_load_53 : decode cX6_load 53 = .ok (.ifCond .ne 13, 3) := by decide +kernel
theorem dX6_load_56 : decode cX6_load 56 = .ok (.new 86, 3) := by decide +kernel
theorem dX6_load_59 : decode cX6_load 59 = .ok (.dup, 1) := by decide +kernel
theorem dX6_load_60 : decode cX6_load 60 = .ok (.ldc 88, 2) := by decide +kernel
theorem dX6_load_62 : decode cX6_load 62 = .ok (.invokespecial 90, 3) := by decide +kernel
theorem dX6_load_65 : decode cX6_load 65 = .ok (.athrow, 1) := by decide +kernel
theorem dX6_load_66 : decode cX6_load 66 = .ok (.aload_n 0, 1) := by decide +kernel
theorem dX6_load_67 : decode cX6_load 67 = .ok (.getfield 29, 3) := by decide +kernel
theorem dX6_load_70 : decode cX6_load 70 = .ok (.aload_n 0, 1) := by decide +kernel
theorem dX6_load_71 : decode cX6_load 71 = .ok (.getfield 10, 3) := by decide +kernel
theorem dX6_load_74 : decode cX6_load 74 = .ok (.getfield 43, 3) := by decide +kernel
theorem dX6_load_77 : decode cX6_load 77 = .ok (.invokevirtual 57, 3) := by decide +kernel
theorem dX6_load_80 : decode cX6_load 80 = .ok (.aload_n 0, 1) := by decide +kernel
theorem dX6_load_81 : decode cX6_load 81 = .ok (.getfield 10, 3) := by decide +kernel
theorem dX6_load_84 : decode cX6_load 84 = .ok (.getfield 43, 3) := by decide +kernel
theorem dX6_load_87 : decode cX6_load 87 = .ok (.getfield 47, 3) := by decide +kernel
theorem dX6_load_90 : decode cX6_load 90 = .ok (.aload_n 0, 1) := by decide +kernel
theorem dX6_load_91 : decode cX6_load 91 = .ok (.getfield 22, 3) := by decide +kernel
theorem dX6_load_94 : decode cX6_load 94 = .ok (.getfield 71, 3) := by decide +kernel
theorem dX6_load_97 : decode cX6_load 97 = .ok (.invokevirtual 91, 3) := by decide +kernel
theorem dX6_load_100 : decode cX6_load 100 = .ok (.aload_n 0, 1) := by decide +kernel
theorem dX6_load_101 : decode cX6_load 101 = .ok (.getfield 22, 3) := by decide +kernel
theorem dX6_load_104 : decode cX6_load 104 = .ok (.iconst 0, 1) := by decide +kernel
theorem dX6_load_105 : decode cX6_load 105 = .ok (.putfield 95, 3) := by decide +kernel
theorem dX6_load_108 : decode cX6_load 108 = .ok (.aload_n 0, 1) := by decide +kernel
theorem dX6_load_109 : decode cX6_load 109 = .ok (.getfield 10, 3) := by decide +kernel
theorem dX6_load_112 : decode cX6_load 112 = .ok (.invokevirtual 40, 3) := by decide +kernel
theorem dX6_load_115 : decode cX6_load 115 = .ok (.aload_n 0, 1) := by decide +kernel
theorem dX6_load_116 : decode cX6_load 116 = .ok (.getfield 10, 3) := by decide +kernel
theorem dX6_load_119 : decode cX6_load 119 = .ok (.invokevirtual 64, 3) := by decide +kernel
theorem dX6_load_122 : decode cX6_load 122 = .ok (.aload_n 0, 1) := by decide +kernel
theorem dX6_load_123 : decode cX6_load 123 = .ok (.getfield 10, 3) := by decide +kernel
theorem dX6_load_126 : decode cX6_load 126 = .ok (.getfield 43, 3) := by decide +kernel
theorem dX6_load_129 : decode cX6_load 129 = .ok (.getfield 47, 3) := by decide +kernel
theorem dX6_load_132 : decode cX6_load 132 = .ok (.getfield 51, 3) := by decide +kernel
theorem dX6_load_135 : decode cX6_load 135 = .ok (.ireturn, 1) := by decide +kernel
theorem dX6_setValue_0 : decode cX6_setValue 0 = .ok (.aload_n 0, 1) := by decide +kernel
theorem dX6_setValue_1 : decode cX6_setValue 1 = .ok (.iload_n 1, 1) := by decide +kernel
theorem dX6_setValue_2 : decode cX6_setValue 2 = .ok (.iload_n 2, 1) := by decide +kernel
theorem dX6_setValue_3 : decode cX6_setValue 3 = .ok (.invokevirtual 98, 3) := by decide +kernel
theorem dX6_setValue_6 : decode cX6_setValue 6 = .ok (.aload_n 0, 1) := by decide +kernel
theorem dX6_setValue_7 : decode cX6_setValue 7 = .ok (.getfield 10, 3) := by decide +kernel
theorem dX6_setValue_10 : decode cX6_setValue 10 = .ok (.getfield 43, 3) := by decide +kernel
theorem dX6_setValue_13 : decode cX6_setValue 13 = .ok (.getfield 47, 3) := by decide +kernel
theorem dX6_setValue_16 : decode cX6_setValue 16 = .ok (.getfield 102, 3) := by decide +kernel
theorem dX6_setValue_19 : decode cX6_setValue 19 = .ok (.iload_n 1, 1) := by decide +kernel
theorem dX6_setValue_20 : decode cX6_setValue 20 = .ok (.iaload, 1) := by decide +kernel
theorem dX6_setValue_21 : decode cX6_setValue 21 = .ok (.istore_n 3, 1) := by decide +kernel
theorem dX6_setValue_22 : decode cX6_setValue 22 = .ok (.aload_n 0, 1) := by decide +kernel
theorem dX6_setValue_23 : decode cX6_setValue 23 = .ok (.getfield 29, 3) := by decide +kernel
theorem dX6_setValue_26 : decode cX6_setValue 26 = .ok (.aload_n 0, 1) := by decide +kernel
theorem dX6_setValue_27 : decode cX6_setValue 27 = .ok (.getfield 10, 3) := by decide +kernel
theorem dX6_setValue_30 : decode cX6_setValue 30 = .ok (.getfield 43, 3) := by decide +kernel
theorem dX6_setValue_33 : decode cX6_setValue 33 = .ok (.invokevirtual 57, 3) := by decide +kernel
theorem dX6_setValue_36 : decode cX6_setValue 36 = .ok (.aload_n 0, 1) := by decide +kernel
theorem dX6_setValue_37 : decode cX6_setValue 37 = .ok (.getfield 10, 3) := by decide +kernel
theorem dX6_setValue_40 : decode cX6_setValue 40 = .ok (.getfield 43, 3) := by decide +kernel
theorem dX6_setValue_43 : decode cX6_setValue 43 = .ok (.getfield 47, 3) := by decide +kernel
theorem dX6_setValue_46 : decode cX6_setValue 46 = .ok (.getfield 102, 3) := by decide +kernel
theorem dX6_setValue_49 : decode cX6_setValue 49 = .ok (.iload_n 1, 1) := by decide +kernel
theorem dX6_setValue_50 : decode cX6_setValue 50 = .ok (.iload_n 2, 1) := by decide +kernel
theorem dX6_setValue_51 : decode cX6_setValue 51 = .ok (.iastore, 1) := by decide +kernel
theorem dX6_setValue_52 : decode cX6_setValue 52 = .ok (.aload_n 0, 1) := by decide +kernel
theorem dX6_setValue_53 : decode cX6_setValue 53 = .ok (.getfield 10, 3) := by decide +kernel
theorem dX6_setValue_56 : decode cX6_setValue 56 = .ok (.invokevirtual 40, 3) := by decide +kernel
theorem dX6_setValue_59 : decode cX6_setValue 59 = .ok (.aload_n 0, 1) := by decide +kernel
theorem dX6_setValue_60 : decode cX6_setValue 60 = .ok (.getfield 10, 3) := by decide +kernel
theorem dX6_setValue_63 : decode cX6_setValue 63 = .ok (.invokevirtual 64, 3) := by decide +kernel
theorem dX6_setValue_66 : decode cX6_setValue 66 = .ok (.iload_n 3, 1) := by decide +kernel
theorem dX6_setValue_67 : decode cX6_setValue 67 = .ok (.ireturn, 1) := by decide +kernel
theorem dX6_setRail_0 : decode cX6_setRail 0 = .ok (.iload_n 1, 1) := by decide +kernel
theorem dX6_setRail_1 : decode cX6_setRail 1 = .ok (.bipush 10, 2) := by decide +kernel
theorem dX6_setRail_3 : decode cX6_setRail 3 = .ok (.if_icmp .lt 10, 3) := by decide +kernel
theorem dX6_setRail_6 : decode cX6_setRail 6 = .ok (.iload_n 1, 1) := by decide +kernel
theorem dX6_setRail_7 : decode cX6_setRail 7 = .ok (.sipush 200, 3) := by decide +kernel
theorem dX6_setRail_10 : decode cX6_setRail 10 = .ok (.if_icmp .le 13, 3) := by decide +kernel
theorem dX6_setRail_13 : decode cX6_setRail 13 = .ok (.new 75, 3) := by decide +kernel
theorem dX6_setRail_16 : decode cX6_setRail 16 = .ok (.dup, 1) := by decide +kernel
theorem dX6_setRail_17 : decode cX6_setRail 17 = .ok (.ldc 106, 2) := by decide +kernel
theorem dX6_setRail_19 : decode cX6_setRail 19 = .ok (.invokespecial 79, 3) := by decide +kernel
theorem dX6_setRail_22 : decode cX6_setRail 22 = .ok (.athrow, 1) := by decide +kernel
theorem dX6_setRail_23 : decode cX6_setRail 23 = .ok (.aload_n 0, 1) := by decide +kernel
theorem dX6_setRail_24 : decode cX6_setRail 24 = .ok (.getfield 10, 3) := by decide +kernel
theorem dX6_setRail_27 : decode cX6_setRail 27 = .ok (.getfield 43, 3) := by decide +kernel
theorem dX6_setRail_30 : decode cX6_setRail 30 = .ok (.getfield 108, 3) := by decide +kernel
theorem dX6_setRail_33 : decode cX6_setRail 33 = .ok (.istore_n 2, 1) := by decide +kernel
theorem dX6_setRail_34 : decode cX6_setRail 34 = .ok (.aload_n 0, 1) := by decide +kernel
theorem dX6_setRail_35 : decode cX6_setRail 35 = .ok (.getfield 29, 3) := by decide +kernel
theorem dX6_setRail_38 : decode cX6_setRail 38 = .ok (.aload_n 0, 1) := by decide +kernel
theorem dX6_setRail_39 : decode cX6_setRail 39 = .ok (.getfield 10, 3) := by decide +kernel
theorem dX6_setRail_42 : decode cX6_setRail 42 = .ok (.getfield 43, 3) := by decide +kernel
theorem dX6_setRail_45 : decode cX6_setRail 45 = .ok (.invokevirtual 57, 3) := by decide +kernel
theorem dX6_setRail_48 : decode cX6_setRail 48 = .ok (.aload_n 0, 1) := by decide +kernel
theorem dX6_setRail_49 : decode cX6_setRail 49 = .ok (.getfield 10, 3) := by decide +kernel
theorem dX6_setRail_52 : decode cX6_setRail 52 = .ok (.getfield 43, 3) := by decide +kernel
theorem dX6_setRail_55 : decode cX6_setRail 55 = .ok (.iload_n 1, 1) := by decide +kernel
theorem dX6_setRail_56 : decode cX6_setRail 56 = .ok (.putfield 108, 3) := by decide +kernel
theorem dX6_setRail_59 : decode cX6_setRail 59 = .ok (.aload_n 0, 1) := by decide +kernel
theorem dX6_setRail_60 : decode cX6_setRail 60 = .ok (.getfield 10, 3) := by decide +kernel
theorem dX6_setRail_63 : decode cX6_setRail 63 = .ok (.invokevirtual 64, 3) := by decide +kernel
theorem dX6_setRail_66 : decode cX6_setRail 66 = .ok (.iload_n 2, 1) := by decide +kernel
theorem dX6_setRail_67 : decode cX6_setRail 67 = .ok (.ireturn, 1) := by decide +kernel
theorem dX6_drop_0 : decode cX6_drop 0 = .ok (.aload_n 0, 1) := by decide +kernel
theorem dX6_drop_1 : decode cX6_drop 1 = .ok (.iload_n 1, 1) := by decide +kernel
theorem dX6_drop_2 : decode cX6_drop 2 = .ok (.invokevirtual 111, 3) := by decide +kernel
theorem dX6_drop_5 : decode cX6_drop 5 = .ok (.aload_n 0, 1) := by decide +kernel
theorem dX6_drop_6 : decode cX6_drop 6 = .ok (.getfield 29, 3) := by decide +kernel
theorem dX6_drop_9 : decode cX6_drop 9 = .ok (.aload_n 0, 1) := by decide +kernel
theorem dX6_drop_10 : decode cX6_drop 10 = .ok (.getfield 10, 3) := by decide +kernel
theorem dX6_drop_13 : decode cX6_drop 13 = .ok (.getfield 43, 3) := by decide +kernel
theorem dX6_drop_16 : decode cX6_drop 16 = .ok (.invokevirtual 57, 3) := by decide +kernel
theorem dX6_drop_19 : decode cX6_drop 19 = .ok (.aload_n 0, 1) := by decide +kernel
theorem dX6_drop_20 : decode cX6_drop 20 = .ok (.getfield 10, 3) := by decide +kernel
theorem dX6_drop_23 : decode cX6_drop 23 = .ok (.getfield 43, 3) := by decide +kernel
theorem dX6_drop_26 : decode cX6_drop 26 = .ok (.iload_n 1, 1) := by decide +kernel
theorem dX6_drop_27 : decode cX6_drop 27 = .ok (.invokevirtual 115, 3) := by decide +kernel
theorem dX6_drop_30 : decode cX6_drop 30 = .ok (.aload_n 0, 1) := by decide +kernel
theorem dX6_drop_31 : decode cX6_drop 31 = .ok (.getfield 10, 3) := by decide +kernel
theorem dX6_drop_34 : decode cX6_drop 34 = .ok (.invokevirtual 40, 3) := by decide +kernel
theorem dX6_drop_37 : decode cX6_drop 37 = .ok (.aload_n 0, 1) := by decide +kernel
theorem dX6_drop_38 : decode cX6_drop 38 = .ok (.getfield 10, 3) := by decide +kernel
theorem dX6_drop_41 : decode cX6_drop 41 = .ok (.invokevirtual 64, 3) := by decide +kernel
theorem dX6_drop_44 : decode cX6_drop 44 = .ok (.aload_n 0, 1) := by decide +kernel
theorem dX6_drop_45 : decode cX6_drop 45 = .ok (.getfield 10, 3) := by decide +kernel
theorem dX6_drop_48 : decode cX6_drop 48 = .ok (.getfield 43, 3) := by decide +kernel
theorem dX6_drop_51 : decode cX6_drop 51 = .ok (.getfield 47, 3) := by decide +kernel
theorem dX6_drop_54 : decode cX6_drop 54 = .ok (.getfield 51, 3) := by decide +kernel
theorem dX6_drop_57 : decode cX6_drop 57 = .ok (.ireturn, 1) := by decide +kernel
theorem dX6_sweep_0 : decode cX6_sweep 0 = .ok (.aload_n 0, 1) := by decide +kernel
theorem dX6_sweep_1 : decode cX6_sweep 1 = .ok (.iload_n 1, 1) := by decide +kernel
theorem dX6_sweep_2 : decode cX6_sweep 2 = .ok (.invokevirtual 118, 3) := by decide +kernel
theorem dX6_sweep_5 : decode cX6_sweep 5 = .ok (.iload_n 2, 1) := by decide +kernel
theorem dX6_sweep_6 : decode cX6_sweep 6 = .ok (.invokestatic 121, 3) := by decide +kernel
theorem dX6_sweep_9 : decode cX6_sweep 9 = .ok (.ifCond .ne 13, 3) := by decide +kernel
theorem dX6_sweep_12 : decode cX6_sweep 12 = .ok (.new 75, 3) := by decide +kernel
theorem dX6_sweep_15 : decode cX6_sweep 15 = .ok (.dup, 1) := by decide +kernel
theorem dX6_sweep_16 : decode cX6_sweep 16 = .ok (.ldc 125, 2) := by decide +kernel
theorem dX6_sweep_18 : decode cX6_sweep 18 = .ok (.invokespecial 79, 3) := by decide +kernel
theorem dX6_sweep_21 : decode cX6_sweep 21 = .ok (.athrow, 1) := by decide +kernel
theorem dX6_sweep_22 : decode cX6_sweep 22 = .ok (.aload_n 0, 1) := by decide +kernel
theorem dX6_sweep_23 : decode cX6_sweep 23 = .ok (.getfield 29, 3) := by decide +kernel
theorem dX6_sweep_26 : decode cX6_sweep 26 = .ok (.aload_n 0, 1) := by decide +kernel
theorem dX6_sweep_27 : decode cX6_sweep 27 = .ok (.getfield 10, 3) := by decide +kernel
theorem dX6_sweep_30 : decode cX6_sweep 30 = .ok (.getfield 43, 3) := by decide +kernel
theorem dX6_sweep_33 : decode cX6_sweep 33 = .ok (.invokevirtual 57, 3) := by decide +kernel
theorem dX6_sweep_36 : decode cX6_sweep 36 = .ok (.aload_n 0, 1) := by decide +kernel
theorem dX6_sweep_37 : decode cX6_sweep 37 = .ok (.getfield 10, 3) := by decide +kernel
theorem dX6_sweep_40 : decode cX6_sweep 40 = .ok (.getfield 43, 3) := by decide +kernel
theorem dX6_sweep_43 : decode cX6_sweep 43 = .ok (.getfield 47, 3) := by decide +kernel
theorem dX6_sweep_46 : decode cX6_sweep 46 = .ok (.getfield 102, 3) := by decide +kernel
theorem dX6_sweep_49 : decode cX6_sweep 49 = .ok (.astore_n 3, 1) := by decide +kernel
theorem dX6_sweep_50 : decode cX6_sweep 50 = .ok (.iload_n 2, 1) := by decide +kernel
theorem dX6_sweep_51 : decode cX6_sweep 51 = .ok (.aload_n 3, 1) := by decide +kernel
theorem dX6_sweep_52 : decode cX6_sweep 52 = .ok (.iload_n 1, 1) := by decide +kernel
theorem dX6_sweep_53 : decode cX6_sweep 53 = .ok (.iaload, 1) := by decide +kernel
theorem dX6_sweep_54 : decode cX6_sweep 54 = .ok (.isub, 1) := by decide +kernel
theorem dX6_sweep_55 : decode cX6_sweep 55 = .ok (.invokestatic 127, 3) := by decide +kernel
theorem dX6_sweep_58 : decode cX6_sweep 58 = .ok (.istore 4, 2) := by decide +kernel
theorem dX6_sweep_60 : decode cX6_sweep 60 = .ok (.iload_n 2, 1) := by decide +kernel
theorem dX6_sweep_61 : decode cX6_sweep 61 = .ok (.aload_n 3, 1) := by decide +kernel
theorem dX6_sweep_62 : decode cX6_sweep 62 = .ok (.iload_n 1, 1) := by decide +kernel
theorem dX6_sweep_63 : decode cX6_sweep 63 = .ok (.iaload, 1) := by decide +kernel
theorem dX6_sweep_64 : decode cX6_sweep 64 = .ok (.if_icmp .le 7, 3) := by decide +kernel
theorem dX6_sweep_67 : decode cX6_sweep 67 = .ok (.iconst 1, 1) := by decide +kernel
theorem dX6_sweep_68 : decode cX6_sweep 68 = .ok (.goto 4, 3) := by decide +kernel
theorem dX6_sweep_71 : decode cX6_sweep 71 = .ok (.iconst (-1), 1) := by decide +kernel
theorem dX6_sweep_72 : decode cX6_sweep 72 = .ok (.istore 5, 2) := by decide +kernel
theorem dX6_sweep_74 : decode cX6_sweep 74 = .ok (.iconst 0, 1) := by decide +kernel
theorem dX6_sweep_75 : decode cX6_sweep 75 = .ok (.istore 6, 2) := by decide +kernel
theorem dX6_sweep_77 : decode cX6_sweep 77 = .ok (.iconst 0, 1) := by decide +kernel
theorem dX6_sweep_78 : decode cX6_sweep 78 = .ok (.istore 7, 2) := by decide +kernel
theorem dX6_sweep_80 : decode cX6_sweep 80 = .ok (.iload 7, 2) := by decide +kernel
theorem dX6_sweep_82 : decode cX6_sweep 82 = .ok (.iload 4, 2) := by decide +kernel
theorem dX6_sweep_84 : decode cX6_sweep 84 = .ok (.if_icmp .ge 54, 3) := by decide +kernel
theorem dX6_sweep_87 : decode cX6_sweep 87 = .ok (.aload_n 0, 1) := by decide +kernel
theorem dX6_sweep_88 : decode cX6_sweep 88 = .ok (.getfield 10, 3) := by decide +kernel
theorem dX6_sweep_91 : decode cX6_sweep 91 = .ok (.getfield 43, 3) := by decide +kernel
theorem dX6_sweep_94 : decode cX6_sweep 94 = .ok (.getfield 133, 3) := by decide +kernel
theorem dX6_sweep_97 : decode cX6_sweep 97 = .ok (.istore 8, 2) := by decide +kernel
theorem dX6_sweep_99 : decode cX6_sweep 99 = .ok (.aload_n 3, 1) := by decide +kernel
theorem dX6_sweep_100 : decode cX6_sweep 100 = .ok (.iload_n 1, 1) := by decide +kernel
theorem dX6_sweep_101 : decode cX6_sweep 101 = .ok (.dup2, 1) := by decide +kernel
theorem dX6_sweep_102 : decode cX6_sweep 102 = .ok (.iaload, 1) := by decide +kernel
theorem dX6_sweep_103 : decode cX6_sweep 103 = .ok (.iload 5, 2) := by decide +kernel
theorem dX6_sweep_105 : decode cX6_sweep 105 = .ok (.iadd, 1) := by decide +kernel
theorem dX6_sweep_106 : decode cX6_sweep 106 = .ok (.iastore, 1) := by decide +kernel
theorem dX6_sweep_107 : decode cX6_sweep 107 = .ok (.aload_n 0, 1) := by decide +kernel
theorem dX6_sweep_108 : decode cX6_sweep 108 = .ok (.getfield 10, 3) := by decide +kernel
theorem dX6_sweep_111 : decode cX6_sweep 111 = .ok (.invokevirtual 64, 3) := by decide +kernel
theorem dX6_sweep_114 : decode cX6_sweep 114 = .ok (.aload_n 0, 1) := by decide +kernel
theorem dX6_sweep_115 : decode cX6_sweep 115 = .ok (.getfield 10, 3) := by decide +kernel
theorem dX6_sweep_118 : decode cX6_sweep 118 = .ok (.getfield 43, 3) := by decide +kernel
theorem dX6_sweep_121 : decode cX6_sweep 121 = .ok (.getfield 133, 3) := by decide +kernel
theorem dX6_sweep_124 : decode cX6_sweep 124 = .ok (.iload 8, 2) := by decide +kernel
theorem dX6_sweep_126 : decode cX6_sweep 126 = .ok (.if_icmp .eq 6, 3) := by decide +kernel
theorem dX6_sweep_129 : decode cX6_sweep 129 = .ok (.iinc 6 1, 3) := by decide +kernel
theorem dX6_sweep_132 : decode cX6_sweep 132 = .ok (.iinc 7 1, 3) := by decide +kernel
theorem dX6_sweep_135 : decode cX6_sweep 135 = .ok (.goto (-55), 3) := by decide +kernel
theorem dX6_sweep_138 : decode cX6_sweep 138 = .ok (.iload 6, 2) := by decide +kernel
theorem dX6_sweep_140 : decode cX6_sweep 140 = .ok (.ireturn, 1) := by decide +kernel
theorem dX6_undo_0 : decode cX6_undo 0 = .ok (.aload_n 0, 1) := by decide +kernel
theorem dX6_undo_1 : decode cX6_undo 1 = .ok (.getfield 29, 3) := by decide +kernel
theorem dX6_undo_4 : decode cX6_undo 4 = .ok (.getfield 136, 3) := by decide +kernel
theorem dX6_undo_7 : decode cX6_undo 7 = .ok (.ifCond .ne 13, 3) := by decide +kernel
theorem dX6_undo_10 : decode cX6_undo 10 = .ok (.new 86, 3) := by decide +kernel
theorem dX6_undo_13 : decode cX6_undo 13 = .ok (.dup, 1) := by decide +kernel
theorem dX6_undo_14 : decode cX6_undo 14 = .ok (.ldc 137, 2) := by decide +kernel
theorem dX6_undo_16 : decode cX6_undo 16 = .ok (.invokespecial 90, 3) := by decide +kernel
theorem dX6_undo_19 : decode cX6_undo 19 = .ok (.athrow, 1) := by decide +kernel
theorem dX6_undo_20 : decode cX6_undo 20 = .ok (.aload_n 0, 1) := by decide +kernel
theorem dX6_undo_21 : decode cX6_undo 21 = .ok (.getfield 10, 3) := by decide +kernel
theorem dX6_undo_24 : decode cX6_undo 24 = .ok (.aload_n 0, 1) := by decide +kernel
theorem dX6_undo_25 : decode cX6_undo 25 = .ok (.getfield 29, 3) := by decide +kernel
theorem dX6_undo_28 : decode cX6_undo 28 = .ok (.invokevirtual 139, 3) := by decide +kernel
theorem dX6_undo_31 : decode cX6_undo 31 = .ok (.invokevirtual 143, 3) := by decide +kernel
theorem dX6_undo_34 : decode cX6_undo 34 = .ok (.aload_n 0, 1) := by decide +kernel
theorem dX6_undo_35 : decode cX6_undo 35 = .ok (.getfield 29, 3) := by decide +kernel
theorem dX6_undo_38 : decode cX6_undo 38 = .ok (.getfield 136, 3) := by decide +kernel
theorem dX6_undo_41 : decode cX6_undo 41 = .ok (.ireturn, 1) := by decide +kernel
theorem dX6_append_0 : decode cX6_append 0 = .ok (.iload_n 1, 1) := by decide +kernel
theorem dX6_append_1 : decode cX6_append 1 = .ok (.bipush 32, 2) := by decide +kernel
theorem dX6_append_3 : decode cX6_append 3 = .ok (.if_icmp .lt 9, 3) := by decide +kernel
theorem dX6_append_6 : decode cX6_append 6 = .ok (.iload_n 1, 1) := by decide +kernel
theorem dX6_append_7 : decode cX6_append 7 = .ok (.bipush 126, 2) := by decide +kernel
theorem dX6_append_9 : decode cX6_append 9 = .ok (.if_icmp .le 13, 3) := by decide +kernel
theorem dX6_append_12 : decode cX6_append 12 = .ok (.new 75, 3) := by decide +kernel
theorem dX6_append_15 : decode cX6_append 15 = .ok (.dup, 1) := by decide +kernel
theorem dX6_append_16 : decode cX6_append 16 = .ok (.ldc 161, 2) := by decide +kernel
theorem dX6_append_18 : decode cX6_append 18 = .ok (.invokespecial 79, 3) := by decide +kernel
theorem dX6_append_21 : decode cX6_append 21 = .ok (.athrow, 1) := by decide +kernel
theorem dX6_append_22 : decode cX6_append 22 = .ok (.aload_n 0, 1) := by decide +kernel
theorem dX6_append_23 : decode cX6_append 23 = .ok (.getfield 22, 3) := by decide +kernel
theorem dX6_append_26 : decode cX6_append 26 = .ok (.getfield 95, 3) := by decide +kernel
theorem dX6_append_29 : decode cX6_append 29 = .ok (.bipush 60, 2) := by decide +kernel
theorem dX6_append_31 : decode cX6_append 31 = .ok (.if_icmp .lt 13, 3) := by decide +kernel
theorem dX6_append_34 : decode cX6_append 34 = .ok (.new 86, 3) := by decide +kernel
theorem dX6_append_37 : decode cX6_append 37 = .ok (.dup, 1) := by decide +kernel
theorem dX6_append_38 : decode cX6_append 38 = .ok (.ldc 163, 2) := by decide +kernel
theorem dX6_append_40 : decode cX6_append 40 = .ok (.invokespecial 90, 3) := by decide +kernel
theorem dX6_append_43 : decode cX6_append 43 = .ok (.athrow, 1) := by decide +kernel
theorem dX6_append_44 : decode cX6_append 44 = .ok (.aload_n 0, 1) := by decide +kernel
theorem dX6_append_45 : decode cX6_append 45 = .ok (.getfield 22, 3) := by decide +kernel
theorem dX6_append_48 : decode cX6_append 48 = .ok (.getfield 165, 3) := by decide +kernel
theorem dX6_append_51 : decode cX6_append 51 = .ok (.aload_n 0, 1) := by decide +kernel
theorem dX6_append_52 : decode cX6_append 52 = .ok (.getfield 22, 3) := by decide +kernel
theorem dX6_append_55 : decode cX6_append 55 = .ok (.getfield 95, 3) := by decide +kernel
theorem dX6_append_58 : decode cX6_append 58 = .ok (.iload_n 1, 1) := by decide +kernel
theorem dX6_append_59 : decode cX6_append 59 = .ok (.i2c, 1) := by decide +kernel
theorem dX6_append_60 : decode cX6_append 60 = .ok (.castore, 1) := by decide +kernel
theorem dX6_append_61 : decode cX6_append 61 = .ok (.aload_n 0, 1) := by decide +kernel
theorem dX6_append_62 : decode cX6_append 62 = .ok (.getfield 22, 3) := by decide +kernel
theorem dX6_append_65 : decode cX6_append 65 = .ok (.dup, 1) := by decide +kernel
theorem dX6_append_66 : decode cX6_append 66 = .ok (.getfield 95, 3) := by decide +kernel
theorem dX6_append_69 : decode cX6_append 69 = .ok (.iconst 1, 1) := by decide +kernel
theorem dX6_append_70 : decode cX6_append 70 = .ok (.iadd, 1) := by decide +kernel
theorem dX6_append_71 : decode cX6_append 71 = .ok (.putfield 95, 3) := by decide +kernel
theorem dX6_append_74 : decode cX6_append 74 = .ok (.aload_n 0, 1) := by decide +kernel
theorem dX6_append_75 : decode cX6_append 75 = .ok (.getfield 22, 3) := by decide +kernel
theorem dX6_append_78 : decode cX6_append 78 = .ok (.getfield 95, 3) := by decide +kernel
theorem dX6_append_81 : decode cX6_append 81 = .ok (.ireturn, 1) := by decide +kernel
theorem dX6_clearInput_0 : decode cX6_clearInput 0 = .ok (.aload_n 0, 1) := by decide +kernel
theorem dX6_clearInput_1 : decode cX6_clearInput 1 = .ok (.getfield 22, 3) := by decide +kernel
theorem dX6_clearInput_4 : decode cX6_clearInput 4 = .ok (.getfield 95, 3) := by decide +kernel
theorem dX6_clearInput_7 : decode cX6_clearInput 7 = .ok (.istore_n 1, 1) := by decide +kernel
theorem dX6_clearInput_8 : decode cX6_clearInput 8 = .ok (.aload_n 0, 1) := by decide +kernel
theorem dX6_clearInput_9 : decode cX6_clearInput 9 = .ok (.getfield 22, 3) := by decide +kernel
theorem dX6_clearInput_12 : decode cX6_clearInput 12 = .ok (.iconst 0, 1) := by decide +kernel
theorem dX6_clearInput_13 : decode cX6_clearInput 13 = .ok (.putfield 95, 3) := by decide +kernel
theorem dX6_clearInput_16 : decode cX6_clearInput 16 = .ok (.iload_n 1, 1) := by decide +kernel
theorem dX6_clearInput_17 : decode cX6_clearInput 17 = .ok (.ireturn, 1) := by decide +kernel
theorem dX6_firstError_0 : decode cX6_firstError 0 = .ok (.aload_n 0, 1) := by decide +kernel
theorem dX6_firstError_1 : decode cX6_firstError 1 = .ok (.getfield 22, 3) := by decide +kernel
theorem dX6_firstError_4 : decode cX6_firstError 4 = .ok (.invokevirtual 169, 3) := by decide +kernel
theorem dX6_firstError_7 : decode cX6_firstError 7 = .ok (.ireturn, 1) := by decide +kernel
theorem dX6_voltage_0 : decode cX6_voltage 0 = .ok (.iload_n 1, 1) := by decide +kernel
theorem dX6_voltage_1 : decode cX6_voltage 1 = .ok (.invokestatic 173, 3) := by decide +kernel
theorem dX6_voltage_4 : decode cX6_voltage 4 = .ok (.iload_n 2, 1) := by decide +kernel
theorem dX6_voltage_5 : decode cX6_voltage 5 = .ok (.invokestatic 176, 3) := by decide +kernel
theorem dX6_voltage_8 : decode cX6_voltage 8 = .ok (.aload_n 0, 1) := by decide +kernel
theorem dX6_voltage_9 : decode cX6_voltage 9 = .ok (.getfield 10, 3) := by decide +kernel
theorem dX6_voltage_12 : decode cX6_voltage 12 = .ok (.getfield 43, 3) := by decide +kernel
theorem dX6_voltage_15 : decode cX6_voltage 15 = .ok (.getfield 179, 3) := by decide +kernel
theorem dX6_voltage_18 : decode cX6_voltage 18 = .ok (.ifCond .ne 5, 3) := by decide +kernel
theorem dX6_voltage_21 : decode cX6_voltage 21 = .ok (.lconst 0, 1) := by decide +kernel
theorem dX6_voltage_22 : decode cX6_voltage 22 = .ok (.lreturn, 1) := by decide +kernel
theorem dX6_voltage_23 : decode cX6_voltage 23 = .ok (.aload_n 0, 1) := by decide +kernel
theorem dX6_voltage_24 : decode cX6_voltage 24 = .ok (.getfield 10, 3) := by decide +kernel
theorem dX6_voltage_27 : decode cX6_voltage 27 = .ok (.aload_n 0, 1) := by decide +kernel
theorem dX6_voltage_28 : decode cX6_voltage 28 = .ok (.getfield 10, 3) := by decide +kernel
theorem dX6_voltage_31 : decode cX6_voltage 31 = .ok (.getfield 43, 3) := by decide +kernel
theorem dX6_voltage_34 : decode cX6_voltage 34 = .ok (.getfield 133, 3) := by decide +kernel
theorem dX6_voltage_37 : decode cX6_voltage 37 = .ok (.iload_n 1, 1) := by decide +kernel
theorem dX6_voltage_38 : decode cX6_voltage 38 = .ok (.iload_n 2, 1) := by decide +kernel
theorem dX6_voltage_39 : decode cX6_voltage 39 = .ok (.invokevirtual 183, 3) := by decide +kernel
theorem dX6_voltage_42 : decode cX6_voltage 42 = .ok (.lreturn, 1) := by decide +kernel
theorem dX6_current_0 : decode cX6_current 0 = .ok (.aload_n 0, 1) := by decide +kernel
theorem dX6_current_1 : decode cX6_current 1 = .ok (.iload_n 1, 1) := by decide +kernel
theorem dX6_current_2 : decode cX6_current 2 = .ok (.invokevirtual 111, 3) := by decide +kernel
theorem dX6_current_5 : decode cX6_current 5 = .ok (.aload_n 0, 1) := by decide +kernel
theorem dX6_current_6 : decode cX6_current 6 = .ok (.getfield 10, 3) := by decide +kernel
theorem dX6_current_9 : decode cX6_current 9 = .ok (.getfield 43, 3) := by decide +kernel
theorem dX6_current_12 : decode cX6_current 12 = .ok (.getfield 47, 3) := by decide +kernel
theorem dX6_current_15 : decode cX6_current 15 = .ok (.astore_n 3, 1) := by decide +kernel
theorem dX6_current_16 : decode cX6_current 16 = .ok (.aload_n 3, 1) := by decide +kernel
theorem dX6_current_17 : decode cX6_current 17 = .ok (.getfield 187, 3) := by decide +kernel
theorem dX6_current_20 : decode cX6_current 20 = .ok (.iload_n 1, 1) := by decide +kernel
theorem dX6_current_21 : decode cX6_current 21 = .ok (.iaload, 1) := by decide +kernel
theorem dX6_current_22 : decode cX6_current 22 = .ok (.ifCond .eq 13, 3) := by decide +kernel
theorem dX6_current_25 : decode cX6_current 25 = .ok (.new 86, 3) := by decide +kernel
theorem dX6_current_28 : decode cX6_current 28 = .ok (.dup, 1) := by decide +kernel
theorem dX6_current_29 : decode cX6_current 29 = .ok (.ldc 190, 2) := by decide +kernel
theorem dX6_current_31 : decode cX6_current 31 = .ok (.invokespecial 90, 3) := by decide +kernel
theorem dX6_current_34 : decode cX6_current 34 = .ok (.athrow, 1) := by decide +kernel
theorem dX6_current_35 : decode cX6_current 35 = .ok (.iload_n 2, 1) := by decide +kernel
theorem dX6_current_36 : decode cX6_current 36 = .ok (.invokestatic 176, 3) := by decide +kernel
theorem dX6_current_39 : decode cX6_current 39 = .ok (.aload_n 0, 1) := by decide +kernel
theorem dX6_current_40 : decode cX6_current 40 = .ok (.getfield 10, 3) := by decide +kernel
theorem dX6_current_43 : decode cX6_current 43 = .ok (.getfield 43, 3) := by decide +kernel
theorem dX6_current_46 : decode cX6_current 46 = .ok (.getfield 179, 3) := by decide +kernel
theorem dX6_current_49 : decode cX6_current 49 = .ok (.ifCond .ne 5, 3) := by decide +kernel
theorem dX6_current_52 : decode cX6_current 52 = .ok (.lconst 0, 1) := by decide +kernel
theorem dX6_current_53 : decode cX6_current 53 = .ok (.lreturn, 1) := by decide +kernel
theorem dX6_current_54 : decode cX6_current 54 = .ok (.aload_n 0, 1) := by decide +kernel
theorem dX6_current_55 : decode cX6_current 55 = .ok (.getfield 10, 3) := by decide +kernel
theorem dX6_current_58 : decode cX6_current 58 = .ok (.aload_n 0, 1) := by decide +kernel
theorem dX6_current_59 : decode cX6_current 59 = .ok (.getfield 10, 3) := by decide +kernel
theorem dX6_current_62 : decode cX6_current 62 = .ok (.getfield 43, 3) := by decide +kernel
theorem dX6_current_65 : decode cX6_current 65 = .ok (.getfield 133, 3) := by decide +kernel
theorem dX6_current_68 : decode cX6_current 68 = .ok (.invokevirtual 192, 3) := by decide +kernel
theorem dX6_current_71 : decode cX6_current 71 = .ok (.aload_n 0, 1) := by decide +kernel
theorem dX6_current_72 : decode cX6_current 72 = .ok (.getfield 10, 3) := by decide +kernel
theorem dX6_current_75 : decode cX6_current 75 = .ok (.aload_n 3, 1) := by decide +kernel
theorem dX6_current_76 : decode cX6_current 76 = .ok (.getfield 195, 3) := by decide +kernel
theorem dX6_current_79 : decode cX6_current 79 = .ok (.iload_n 1, 1) := by decide +kernel
theorem dX6_current_80 : decode cX6_current 80 = .ok (.iaload, 1) := by decide +kernel
theorem dX6_current_81 : decode cX6_current 81 = .ok (.invokevirtual 198, 3) := by decide +kernel
theorem dX6_current_84 : decode cX6_current 84 = .ok (.aload_n 0, 1) := by decide +kernel
theorem dX6_current_85 : decode cX6_current 85 = .ok (.getfield 10, 3) := by decide +kernel
theorem dX6_current_88 : decode cX6_current 88 = .ok (.aload_n 3, 1) := by decide +kernel
theorem dX6_current_89 : decode cX6_current 89 = .ok (.getfield 202, 3) := by decide +kernel
theorem dX6_current_92 : decode cX6_current 92 = .ok (.iload_n 1, 1) := by decide +kernel
theorem dX6_current_93 : decode cX6_current 93 = .ok (.iaload, 1) := by decide +kernel
theorem dX6_current_94 : decode cX6_current 94 = .ok (.invokevirtual 198, 3) := by decide +kernel
theorem dX6_current_97 : decode cX6_current 97 = .ok (.lsub, 1) := by decide +kernel
theorem dX6_current_98 : decode cX6_current 98 = .ok (.lstore 4, 2) := by decide +kernel
theorem dX6_current_100 : decode cX6_current 100 = .ok (.aload_n 3, 1) := by decide +kernel
theorem dX6_current_101 : decode cX6_current 101 = .ok (.getfield 102, 3) := by decide +kernel
theorem dX6_current_104 : decode cX6_current 104 = .ok (.iload_n 1, 1) := by decide +kernel
theorem dX6_current_105 : decode cX6_current 105 = .ok (.iaload, 1) := by decide +kernel
theorem dX6_current_106 : decode cX6_current 106 = .ok (.i2l, 1) := by decide +kernel
theorem dX6_current_107 : decode cX6_current 107 = .ok (.lload 4, 2) := by decide +kernel
theorem dX6_current_109 : decode cX6_current 109 = .ok (.lmul, 1) := by decide +kernel
theorem dX6_current_110 : decode cX6_current 110 = .ok (.aload_n 0, 1) := by decide +kernel
theorem dX6_current_111 : decode cX6_current 111 = .ok (.getfield 10, 3) := by decide +kernel
theorem dX6_current_114 : decode cX6_current 114 = .ok (.invokevirtual 205, 3) := by decide +kernel
theorem dX6_current_117 : decode cX6_current 117 = .ok (.iload_n 2, 1) := by decide +kernel
theorem dX6_current_118 : decode cX6_current 118 = .ok (.invokestatic 209, 3) := by decide +kernel
theorem dX6_current_121 : decode cX6_current 121 = .ok (.lreturn, 1) := by decide +kernel
theorem dX6_amplifier_0 : decode cX6_amplifier 0 = .ok (.iload_n 1, 1) := by decide +kernel
theorem dX6_amplifier_1 : decode cX6_amplifier 1 = .ok (.ifCond .lt 14, 3) := by decide +kernel
theorem dX6_amplifier_4 : decode cX6_amplifier 4 = .ok (.iload_n 1, 1) := by decide +kernel
theorem dX6_amplifier_5 : decode cX6_amplifier 5 = .ok (.aload_n 0, 1) := by decide +kernel
theorem dX6_amplifier_6 : decode cX6_amplifier 6 = .ok (.getfield 10, 3) := by decide +kernel
theorem dX6_amplifier_9 : decode cX6_amplifier 9 = .ok (.getfield 213, 3) := by decide +kernel
theorem dX6_amplifier_12 : decode cX6_amplifier 12 = .ok (.if_icmp .lt 13, 3) := by decide +kernel
theorem dX6_amplifier_15 : decode cX6_amplifier 15 = .ok (.new 216, 3) := by decide +kernel
theorem dX6_amplifier_18 : decode cX6_amplifier 18 = .ok (.dup, 1) := by decide +kernel
theorem dX6_amplifier_19 : decode cX6_amplifier 19 = .ok (.ldc 218, 2) := by decide +kernel
theorem dX6_amplifier_21 : decode cX6_amplifier 21 = .ok (.invokespecial 220, 3) := by decide +kernel
theorem dX6_amplifier_24 : decode cX6_amplifier 24 = .ok (.athrow, 1) := by decide +kernel
theorem dX6_amplifier_25 : decode cX6_amplifier 25 = .ok (.iload_n 2, 1) := by decide +kernel
theorem dX6_amplifier_26 : decode cX6_amplifier 26 = .ok (.tableswitch 77 0 2 #[26, 36, 51], 26) := by decide +kernel
theorem dX6_amplifier_52 : decode cX6_amplifier 52 = .ok (.aload_n 0, 1) := by decide +kernel
theorem dX6_amplifier_53 : decode cX6_amplifier 53 = .ok (.getfield 10, 3) := by decide +kernel
theorem dX6_amplifier_56 : decode cX6_amplifier 56 = .ok (.getfield 221, 3) := by decide +kernel
theorem dX6_amplifier_59 : decode cX6_amplifier 59 = .ok (.iload_n 1, 1) := by decide +kernel
theorem dX6_amplifier_60 : decode cX6_amplifier 60 = .ok (.iaload, 1) := by decide +kernel
theorem dX6_amplifier_61 : decode cX6_amplifier 61 = .ok (.ireturn, 1) := by decide +kernel
theorem dX6_amplifier_62 : decode cX6_amplifier 62 = .ok (.aload_n 0, 1) := by decide +kernel
theorem dX6_amplifier_63 : decode cX6_amplifier 63 = .ok (.getfield 10, 3) := by decide +kernel
theorem dX6_amplifier_66 : decode cX6_amplifier 66 = .ok (.getfield 43, 3) := by decide +kernel
theorem dX6_amplifier_69 : decode cX6_amplifier 69 = .ok (.getfield 133, 3) := by decide +kernel
theorem dX6_amplifier_72 : decode cX6_amplifier 72 = .ok (.iload_n 1, 1) := by decide +kernel
theorem dX6_amplifier_73 : decode cX6_amplifier 73 = .ok (.invokestatic 224, 3) := by decide +kernel
theorem dX6_amplifier_76 : decode cX6_amplifier 76 = .ok (.ireturn, 1) := by decide +kernel
theorem dX6_amplifier_77 : decode cX6_amplifier 77 = .ok (.aload_n 0, 1) := by decide +kernel
theorem dX6_amplifier_78 : decode cX6_amplifier 78 = .ok (.getfield 10, 3) := by decide +kernel
theorem dX6_amplifier_81 : decode cX6_amplifier 81 = .ok (.getfield 43, 3) := by decide +kernel
theorem dX6_amplifier_84 : decode cX6_amplifier 84 = .ok (.getfield 179, 3) := by decide +kernel
theorem dX6_amplifier_87 : decode cX6_amplifier 87 = .ok (.ifCond .eq 14, 3) := by decide +kernel
theorem dX6_amplifier_90 : decode cX6_amplifier 90 = .ok (.aload_n 0, 1) := by decide +kernel
theorem dX6_amplifier_91 : decode cX6_amplifier 91 = .ok (.getfield 10, 3) := by decide +kernel
theorem dX6_amplifier_94 : decode cX6_amplifier 94 = .ok (.iload_n 1, 1) := by decide +kernel
theorem dX6_amplifier_95 : decode cX6_amplifier 95 = .ok (.invokevirtual 228, 3) := by decide +kernel
theorem dX6_amplifier_98 : decode cX6_amplifier 98 = .ok (.goto 4, 3) := by decide +kernel
theorem dX6_amplifier_101 : decode cX6_amplifier 101 = .ok (.iconst 0, 1) := by decide +kernel
theorem dX6_amplifier_102 : decode cX6_amplifier 102 = .ok (.ireturn, 1) := by decide +kernel
theorem dX6_amplifier_103 : decode cX6_amplifier 103 = .ok (.new 75, 3) := by decide +kernel
theorem dX6_amplifier_106 : decode cX6_amplifier 106 = .ok (.dup, 1) := by decide +kernel
theorem dX6_amplifier_107 : decode cX6_amplifier 107 = .ok (.ldc 231, 2) := by decide +kernel
theorem dX6_amplifier_109 : decode cX6_amplifier 109 = .ok (.invokespecial 79, 3) := by decide +kernel
theorem dX6_amplifier_112 : decode cX6_amplifier 112 = .ok (.athrow, 1) := by decide +kernel
theorem dX6_why_0 : decode cX6_why 0 = .ok (.aload_n 0, 1) := by decide +kernel
theorem dX6_why_1 : decode cX6_why 1 = .ok (.iload_n 1, 1) := by decide +kernel
theorem dX6_why_2 : decode cX6_why 2 = .ok (.invokevirtual 233, 3) := by decide +kernel
theorem dX6_why_5 : decode cX6_why 5 = .ok (.aload_n 0, 1) := by decide +kernel
theorem dX6_why_6 : decode cX6_why 6 = .ok (.getfield 10, 3) := by decide +kernel
theorem dX6_why_9 : decode cX6_why 9 = .ok (.iload_n 1, 1) := by decide +kernel
theorem dX6_why_10 : decode cX6_why 10 = .ok (.invokevirtual 236, 3) := by decide +kernel
theorem dX6_why_13 : decode cX6_why 13 = .ok (.aload_n 0, 1) := by decide +kernel
theorem dX6_why_14 : decode cX6_why 14 = .ok (.getfield 10, 3) := by decide +kernel
theorem dX6_why_17 : decode cX6_why 17 = .ok (.getfield 239, 3) := by decide +kernel
theorem dX6_why_20 : decode cX6_why 20 = .ok (.ireturn, 1) := by decide +kernel
theorem dX6_concerned_0 : decode cX6_concerned 0 = .ok (.aload_n 0, 1) := by decide +kernel
theorem dX6_concerned_1 : decode cX6_concerned 1 = .ok (.iload_n 1, 1) := by decide +kernel
theorem dX6_concerned_2 : decode cX6_concerned 2 = .ok (.invokevirtual 233, 3) := by decide +kernel
theorem dX6_concerned_5 : decode cX6_concerned 5 = .ok (.aload_n 0, 1) := by decide +kernel
theorem dX6_concerned_6 : decode cX6_concerned 6 = .ok (.getfield 10, 3) := by decide +kernel
theorem dX6_concerned_9 : decode cX6_concerned 9 = .ok (.iload_n 1, 1) := by decide +kernel
theorem dX6_concerned_10 : decode cX6_concerned 10 = .ok (.invokevirtual 236, 3) := by decide +kernel
theorem dX6_concerned_13 : decode cX6_concerned 13 = .ok (.aload_n 0, 1) := by decide +kernel
theorem dX6_concerned_14 : decode cX6_concerned 14 = .ok (.getfield 10, 3) := by decide +kernel
theorem dX6_concerned_17 : decode cX6_concerned 17 = .ok (.getfield 242, 3) := by decide +kernel
theorem dX6_concerned_20 : decode cX6_concerned 20 = .ok (.ireturn, 1) := by decide +kernel
theorem dX6_inCase_0 : decode cX6_inCase 0 = .ok (.aload_n 0, 1) := by decide +kernel
theorem dX6_inCase_1 : decode cX6_inCase 1 = .ok (.iload_n 1, 1) := by decide +kernel
theorem dX6_inCase_2 : decode cX6_inCase 2 = .ok (.invokevirtual 233, 3) := by decide +kernel
theorem dX6_inCase_5 : decode cX6_inCase 5 = .ok (.iload_n 2, 1) := by decide +kernel
theorem dX6_inCase_6 : decode cX6_inCase 6 = .ok (.invokestatic 173, 3) := by decide +kernel
theorem dX6_inCase_9 : decode cX6_inCase 9 = .ok (.iload_n 3, 1) := by decide +kernel
theorem dX6_inCase_10 : decode cX6_inCase 10 = .ok (.invokestatic 176, 3) := by decide +kernel
theorem dX6_inCase_13 : decode cX6_inCase 13 = .ok (.aload_n 0, 1) := by decide +kernel
theorem dX6_inCase_14 : decode cX6_inCase 14 = .ok (.getfield 10, 3) := by decide +kernel
theorem dX6_inCase_17 : decode cX6_inCase 17 = .ok (.iload_n 1, 1) := by decide +kernel
theorem dX6_inCase_18 : decode cX6_inCase 18 = .ok (.iload_n 2, 1) := by decide +kernel
theorem dX6_inCase_19 : decode cX6_inCase 19 = .ok (.iload_n 3, 1) := by decide +kernel
theorem dX6_inCase_20 : decode cX6_inCase 20 = .ok (.invokevirtual 183, 3) := by decide +kernel
theorem dX6_inCase_23 : decode cX6_inCase 23 = .ok (.lreturn, 1) := by decide +kernel
theorem dX6_trip_0 : decode cX6_trip 0 = .ok (.aload_n 0, 1) := by decide +kernel
theorem dX6_trip_1 : decode cX6_trip 1 = .ok (.iload_n 1, 1) := by decide +kernel
theorem dX6_trip_2 : decode cX6_trip 2 = .ok (.invokevirtual 118, 3) := by decide +kernel
theorem dX6_trip_5 : decode cX6_trip 5 = .ok (.aload_n 0, 1) := by decide +kernel
theorem dX6_trip_6 : decode cX6_trip 6 = .ok (.getfield 16, 3) := by decide +kernel
theorem dX6_trip_9 : decode cX6_trip 9 = .ok (.aload_n 0, 1) := by decide +kernel
theorem dX6_trip_10 : decode cX6_trip 10 = .ok (.getfield 10, 3) := by decide +kernel
theorem dX6_trip_13 : decode cX6_trip 13 = .ok (.getfield 43, 3) := by decide +kernel
theorem dX6_trip_16 : decode cX6_trip 16 = .ok (.invokevirtual 143, 3) := by decide +kernel
theorem dX6_trip_19 : decode cX6_trip 19 = .ok (.aload_n 0, 1) := by decide +kernel
theorem dX6_trip_20 : decode cX6_trip 20 = .ok (.getfield 16, 3) := by decide +kernel
theorem dX6_trip_23 : decode cX6_trip 23 = .ok (.getfield 43, 3) := by decide +kernel
theorem dX6_trip_26 : decode cX6_trip 26 = .ok (.getfield 47, 3) := by decide +kernel
theorem dX6_trip_29 : decode cX6_trip 29 = .ok (.getfield 102, 3) := by decide +kernel
theorem dX6_trip_32 : decode cX6_trip 32 = .ok (.astore_n 3, 1) := by decide +kernel
theorem dX6_trip_33 : decode cX6_trip 33 = .ok (.iload_n 2, 1) := by decide +kernel
theorem dX6_trip_34 : decode cX6_trip 34 = .ok (.ifCond .eq 7, 3) := by decide +kernel
theorem dX6_trip_37 : decode cX6_trip 37 = .ok (.iconst 1, 1) := by decide +kernel
theorem dX6_trip_38 : decode cX6_trip 38 = .ok (.goto 4, 3) := by decide +kernel
theorem dX6_trip_41 : decode cX6_trip 41 = .ok (.iconst (-1), 1) := by decide +kernel
theorem dX6_trip_42 : decode cX6_trip 42 = .ok (.istore 4, 2) := by decide +kernel
theorem dX6_trip_44 : decode cX6_trip 44 = .ok (.sipush 200, 3) := by decide +kernel
theorem dX6_trip_47 : decode cX6_trip 47 = .ok (.iload 4, 2) := by decide +kernel
theorem dX6_trip_49 : decode cX6_trip 49 = .ok (.aload_n 3, 1) := by decide +kernel
theorem dX6_trip_50 : decode cX6_trip 50 = .ok (.iload_n 1, 1) := by decide +kernel
theorem dX6_trip_51 : decode cX6_trip 51 = .ok (.iaload, 1) := by decide +kernel
theorem dX6_trip_52 : decode cX6_trip 52 = .ok (.imul, 1) := by decide +kernel
theorem dX6_trip_53 : decode cX6_trip 53 = .ok (.isub, 1) := by decide +kernel
theorem dX6_trip_54 : decode cX6_trip 54 = .ok (.istore 5, 2) := by decide +kernel
theorem dX6_trip_56 : decode cX6_trip 56 = .ok (.iconst 0, 1) := by decide +kernel
theorem dX6_trip_57 : decode cX6_trip 57 = .ok (.istore 6, 2) := by decide +kernel
theorem dX6_trip_59 : decode cX6_trip 59 = .ok (.iload 6, 2) := by decide +kernel
theorem dX6_trip_61 : decode cX6_trip 61 = .ok (.iload 5, 2) := by decide +kernel
theorem dX6_trip_63 : decode cX6_trip 63 = .ok (.if_icmp .ge 55, 3) := by decide +kernel
theorem dX6_trip_66 : decode cX6_trip 66 = .ok (.aload_n 3, 1) := by decide +kernel
theorem dX6_trip_67 : decode cX6_trip 67 = .ok (.iload_n 1, 1) := by decide +kernel
theorem dX6_trip_68 : decode cX6_trip 68 = .ok (.dup2, 1) := by decide +kernel
theorem dX6_trip_69 : decode cX6_trip 69 = .ok (.iaload, 1) := by decide +kernel
theorem dX6_trip_70 : decode cX6_trip 70 = .ok (.iload 4, 2) := by decide +kernel
theorem dX6_trip_72 : decode cX6_trip 72 = .ok (.iadd, 1) := by decide +kernel
theorem dX6_trip_73 : decode cX6_trip 73 = .ok (.iastore, 1) := by decide +kernel
theorem dX6_trip_74 : decode cX6_trip 74 = .ok (.aload_n 0, 1) := by decide +kernel
theorem dX6_trip_75 : decode cX6_trip 75 = .ok (.getfield 16, 3) := by decide +kernel
theorem dX6_trip_78 : decode cX6_trip 78 = .ok (.invokevirtual 64, 3) := by decide +kernel
theorem dX6_trip_81 : decode cX6_trip 81 = .ok (.aload_n 0, 1) := by decide +kernel
theorem dX6_trip_82 : decode cX6_trip 82 = .ok (.getfield 16, 3) := by decide +kernel
theorem dX6_trip_85 : decode cX6_trip 85 = .ok (.getfield 43, 3) := by decide +kernel
theorem dX6_trip_88 : decode cX6_trip 88 = .ok (.getfield 133, 3) := by decide +kernel
theorem dX6_trip_91 : decode cX6_trip 91 = .ok (.aload_n 0, 1) := by decide +kernel
theorem dX6_trip_92 : decode cX6_trip 92 = .ok (.getfield 10, 3) := by decide +kernel
theorem dX6_trip_95 : decode cX6_trip 95 = .ok (.getfield 43, 3) := by decide +kernel
theorem dX6_trip_98 : decode cX6_trip 98 = .ok (.getfield 133, 3) := by decide +kernel
theorem dX6_trip_101 : decode cX6_trip 101 = .ok (.if_icmp .eq 11, 3) := by decide +kernel
theorem dX6_trip_104 : decode cX6_trip 104 = .ok (.aload_n 3, 1) := by decide +kernel
theorem dX6_trip_105 : decode cX6_trip 105 = .ok (.iload_n 1, 1) := by decide +kernel
theorem dX6_trip_106 : decode cX6_trip 106 = .ok (.iaload, 1) := by decide +kernel
theorem dX6_trip_107 : decode cX6_trip 107 = .ok (.sipush 1000, 3) := by decide +kernel
theorem dX6_trip_110 : decode cX6_trip 110 = .ok (.iadd, 1) := by decide +kernel
theorem dX6_trip_111 : decode cX6_trip 111 = .ok (.ireturn, 1) := by decide +kernel
theorem dX6_trip_112 : decode cX6_trip 112 = .ok (.iinc 6 1, 3) := by decide +kernel
theorem dX6_trip_115 : decode cX6_trip 115 = .ok (.goto (-56), 3) := by decide +kernel
theorem dX6_trip_118 : decode cX6_trip 118 = .ok (.iconst (-1), 1) := by decide +kernel
theorem dX6_trip_119 : decode cX6_trip 119 = .ok (.ireturn, 1) := by decide +kernel
theorem dX6_ifValue_0 : decode cX6_ifValue 0 = .ok (.aload_n 0, 1) := by decide +kernel
theorem dX6_ifValue_1 : decode cX6_ifValue 1 = .ok (.iload_n 1, 1) := by decide +kernel
theorem dX6_ifValue_2 : decode cX6_ifValue 2 = .ok (.iload_n 2, 1) := by decide +kernel
theorem dX6_ifValue_3 : decode cX6_ifValue 3 = .ok (.invokevirtual 98, 3) := by decide +kernel
theorem dX6_ifValue_6 : decode cX6_ifValue 6 = .ok (.aload_n 0, 1) := by decide +kernel
theorem dX6_ifValue_7 : decode cX6_ifValue 7 = .ok (.getfield 16, 3) := by decide +kernel
theorem dX6_ifValue_10 : decode cX6_ifValue 10 = .ok (.getfield 43, 3) := by decide +kernel
theorem dX6_ifValue_13 : decode cX6_ifValue 13 = .ok (.aload_n 0, 1) := by decide +kernel
theorem dX6_ifValue_14 : decode cX6_ifValue 14 = .ok (.getfield 10, 3) := by decide +kernel
theorem dX6_ifValue_17 : decode cX6_ifValue 17 = .ok (.getfield 43, 3) := by decide +kernel
theorem dX6_ifValue_20 : decode cX6_ifValue 20 = .ok (.invokevirtual 149, 3) := by decide +kernel
theorem dX6_ifValue_23 : decode cX6_ifValue 23 = .ok (.aload_n 0, 1) := by decide +kernel
theorem dX6_ifValue_24 : decode cX6_ifValue 24 = .ok (.getfield 16, 3) := by decide +kernel
theorem dX6_ifValue_27 : decode cX6_ifValue 27 = .ok (.getfield 43, 3) := by decide +kernel
theorem dX6_ifValue_30 : decode cX6_ifValue 30 = .ok (.getfield 47, 3) := by decide +kernel
theorem dX6_ifValue_33 : decode cX6_ifValue 33 = .ok (.getfield 102, 3) := by decide +kernel
theorem dX6_ifValue_36 : decode cX6_ifValue 36 = .ok (.iload_n 1, 1) := by decide +kernel
theorem dX6_ifValue_37 : decode cX6_ifValue 37 = .ok (.iload_n 2, 1) := by decide +kernel
theorem dX6_ifValue_38 : decode cX6_ifValue 38 = .ok (.iastore, 1) := by decide +kernel
theorem dX6_ifValue_39 : decode cX6_ifValue 39 = .ok (.aload_n 0, 1) := by decide +kernel
theorem dX6_ifValue_40 : decode cX6_ifValue 40 = .ok (.getfield 16, 3) := by decide +kernel
theorem dX6_ifValue_43 : decode cX6_ifValue 43 = .ok (.invokevirtual 40, 3) := by decide +kernel
theorem dX6_ifValue_46 : decode cX6_ifValue 46 = .ok (.aload_n 0, 1) := by decide +kernel
theorem dX6_ifValue_47 : decode cX6_ifValue 47 = .ok (.getfield 16, 3) := by decide +kernel
theorem dX6_ifValue_50 : decode cX6_ifValue 50 = .ok (.invokevirtual 64, 3) := by decide +kernel
theorem dX6_ifValue_53 : decode cX6_ifValue 53 = .ok (.aload_n 0, 1) := by decide +kernel
theorem dX6_ifValue_54 : decode cX6_ifValue 54 = .ok (.getfield 16, 3) := by decide +kernel
theorem dX6_ifValue_57 : decode cX6_ifValue 57 = .ok (.getfield 43, 3) := by decide +kernel
theorem dX6_ifValue_60 : decode cX6_ifValue 60 = .ok (.getfield 179, 3) := by decide +kernel
theorem dX6_ifValue_63 : decode cX6_ifValue 63 = .ok (.ifCond .eq 16, 3) := by decide +kernel
theorem dX6_ifValue_66 : decode cX6_ifValue 66 = .ok (.aload_n 0, 1) := by decide +kernel
theorem dX6_ifValue_67 : decode cX6_ifValue 67 = .ok (.getfield 16, 3) := by decide +kernel
theorem dX6_ifValue_70 : decode cX6_ifValue 70 = .ok (.getfield 43, 3) := by decide +kernel
theorem dX6_ifValue_73 : decode cX6_ifValue 73 = .ok (.getfield 133, 3) := by decide +kernel
theorem dX6_ifValue_76 : decode cX6_ifValue 76 = .ok (.goto 4, 3) := by decide +kernel
theorem dX6_ifValue_79 : decode cX6_ifValue 79 = .ok (.iconst (-1), 1) := by decide +kernel
theorem dX6_ifValue_80 : decode cX6_ifValue 80 = .ok (.ireturn, 1) := by decide +kernel
theorem dX6_part_0 : decode cX6_part 0 = .ok (.aload_n 0, 1) := by decide +kernel
theorem dX6_part_1 : decode cX6_part 1 = .ok (.iload_n 1, 1) := by decide +kernel
theorem dX6_part_2 : decode cX6_part 2 = .ok (.invokevirtual 111, 3) := by decide +kernel
theorem dX6_part_5 : decode cX6_part 5 = .ok (.iload_n 2, 1) := by decide +kernel
theorem dX6_part_6 : decode cX6_part 6 = .ok (.tableswitch 94 0 3 #[30, 46, 62, 78], 30) := by decide +kernel
theorem dX6_part_36 : decode cX6_part 36 = .ok (.aload_n 0, 1) := by decide +kernel
theorem dX6_part_37 : decode cX6_part 37 = .ok (.getfield 10, 3) := by decide +kernel
theorem dX6_part_40 : decode cX6_part 40 = .ok (.getfield 43, 3) := by decide +kernel
theorem dX6_part_43 : decode cX6_part 43 = .ok (.getfield 47, 3) := by decide +kernel
theorem dX6_part_46 : decode cX6_part 46 = .ok (.getfield 187, 3) := by decide +kernel
theorem dX6_part_49 : decode cX6_part 49 = .ok (.iload_n 1, 1) := by decide +kernel
theorem dX6_part_50 : decode cX6_part 50 = .ok (.iaload, 1) := by decide +kernel
theorem dX6_part_51 : decode cX6_part 51 = .ok (.ireturn, 1) := by decide +kernel
theorem dX6_part_52 : decode cX6_part 52 = .ok (.aload_n 0, 1) := by decide +kernel
theorem dX6_part_53 : decode cX6_part 53 = .ok (.getfield 10, 3) := by decide +kernel
theorem dX6_part_56 : decode cX6_part 56 = .ok (.getfield 43, 3) := by decide +kernel
theorem dX6_part_59 : decode cX6_part 59 = .ok (.getfield 47, 3) := by decide +kernel
theorem dX6_part_62 : decode cX6_part 62 = .ok (.getfield 195, 3) := by decide +kernel
theorem dX6_part_65 : decode cX6_part 65 = .ok (.iload_n 1, 1) := by decide +kernel
theorem dX6_part_66 : decode cX6_part 66 = .ok (.iaload, 1) := by decide +kernel
theorem dX6_part_67 : decode cX6_part 67 = .ok (.ireturn, 1) := by decide +kernel
theorem dX6_part_68 : decode cX6_part 68 = .ok (.aload_n 0, 1) := by decide +kernel
theorem dX6_part_69 : decode cX6_part 69 = .ok (.getfield 10, 3) := by decide +kernel
theorem dX6_part_72 : decode cX6_part 72 = .ok (.getfield 43, 3) := by decide +kernel
theorem dX6_part_75 : decode cX6_part 75 = .ok (.getfield 47, 3) := by decide +kernel
theorem dX6_part_78 : decode cX6_part 78 = .ok (.getfield 202, 3) := by decide +kernel
theorem dX6_part_81 : decode cX6_part 81 = .ok (.iload_n 1, 1) := by decide +kernel
theorem dX6_part_82 : decode cX6_part 82 = .ok (.iaload, 1) := by decide +kernel
theorem dX6_part_83 : decode cX6_part 83 = .ok (.ireturn, 1) := by decide +kernel
theorem dX6_part_84 : decode cX6_part 84 = .ok (.aload_n 0, 1) := by decide +kernel
theorem dX6_part_85 : decode cX6_part 85 = .ok (.getfield 10, 3) := by decide +kernel
theorem dX6_part_88 : decode cX6_part 88 = .ok (.getfield 43, 3) := by decide +kernel
theorem dX6_part_91 : decode cX6_part 91 = .ok (.getfield 47, 3) := by decide +kernel
theorem dX6_part_94 : decode cX6_part 94 = .ok (.getfield 102, 3) := by decide +kernel
theorem dX6_part_97 : decode cX6_part 97 = .ok (.iload_n 1, 1) := by decide +kernel
theorem dX6_part_98 : decode cX6_part 98 = .ok (.iaload, 1) := by decide +kernel
theorem dX6_part_99 : decode cX6_part 99 = .ok (.ireturn, 1) := by decide +kernel
theorem dX6_part_100 : decode cX6_part 100 = .ok (.new 75, 3) := by decide +kernel
theorem dX6_part_103 : decode cX6_part 103 = .ok (.dup, 1) := by decide +kernel
theorem dX6_part_104 : decode cX6_part 104 = .ok (.ldc 245, 2) := by decide +kernel
theorem dX6_part_106 : decode cX6_part 106 = .ok (.invokespecial 79, 3) := by decide +kernel
theorem dX6_part_109 : decode cX6_part 109 = .ok (.athrow, 1) := by decide +kernel
theorem dX6_count_0 : decode cX6_count 0 = .ok (.iload_n 1, 1) := by decide +kernel
theorem dX6_count_1 : decode cX6_count 1 = .ok (.tableswitch 155 0 9 #[55, 69, 77, 88, 99, 118, 123, 128, 142, 150], 55) := by decide +kernel
theorem dX6_count_56 : decode cX6_count 56 = .ok (.aload_n 0, 1) := by decide +kernel
theorem dX6_count_57 : decode cX6_count 57 = .ok (.getfield 10, 3) := by decide +kernel
theorem dX6_count_60 : decode cX6_count 60 = .ok (.getfield 43, 3) := by decide +kernel
theorem dX6_count_63 : decode cX6_count 63 = .ok (.getfield 47, 3) := by decide +kernel
theorem dX6_count_66 : decode cX6_count 66 = .ok (.getfield 51, 3) := by decide +kernel
theorem dX6_count_69 : decode cX6_count 69 = .ok (.ireturn, 1) := by decide +kernel
theorem dX6_count_70 : decode cX6_count 70 = .ok (.aload_n 0, 1) := by decide +kernel
theorem dX6_count_71 : decode cX6_count 71 = .ok (.getfield 10, 3) := by decide +kernel
theorem dX6_count_74 : decode cX6_count 74 = .ok (.getfield 213, 3) := by decide +kernel
theorem dX6_count_77 : decode cX6_count 77 = .ok (.ireturn, 1) := by decide +kernel
theorem dX6_count_78 : decode cX6_count 78 = .ok (.aload_n 0, 1) := by decide +kernel
theorem dX6_count_79 : decode cX6_count 79 = .ok (.getfield 10, 3) := by decide +kernel
theorem dX6_count_82 : decode cX6_count 82 = .ok (.getfield 43, 3) := by decide +kernel
theorem dX6_count_85 : decode cX6_count 85 = .ok (.getfield 108, 3) := by decide +kernel
theorem dX6_count_88 : decode cX6_count 88 = .ok (.ireturn, 1) := by decide +kernel
theorem dX6_count_89 : decode cX6_count 89 = .ok (.aload_n 0, 1) := by decide +kernel
theorem dX6_count_90 : decode cX6_count 90 = .ok (.getfield 10, 3) := by decide +kernel
theorem dX6_count_93 : decode cX6_count 93 = .ok (.getfield 43, 3) := by decide +kernel
theorem dX6_count_96 : decode cX6_count 96 = .ok (.getfield 133, 3) := by decide +kernel
theorem dX6_count_99 : decode cX6_count 99 = .ok (.ireturn, 1) := by decide +kernel
theorem dX6_count_100 : decode cX6_count 100 = .ok (.aload_n 0, 1) := by decide +kernel
theorem dX6_count_101 : decode cX6_count 101 = .ok (.getfield 10, 3) := by decide +kernel
theorem dX6_count_104 : decode cX6_count 104 = .ok (.getfield 43, 3) := by decide +kernel
theorem dX6_count_107 : decode cX6_count 107 = .ok (.getfield 179, 3) := by decide +kernel
theorem dX6_count_110 : decode cX6_count 110 = .ok (.ifCond .eq 7, 3) := by decide +kernel
theorem dX6_count_113 : decode cX6_count 113 = .ok (.iconst 1, 1) := by decide +kernel
theorem dX6_count_114 : decode cX6_count 114 = .ok (.goto 4, 3) := by decide +kernel
theorem dX6_count_117 : decode cX6_count 117 = .ok (.iconst 0, 1) := by decide +kernel
theorem dX6_count_118 : decode cX6_count 118 = .ok (.ireturn, 1) := by decide +kernel
theorem dX6_count_119 : decode cX6_count 119 = .ok (.aload_n 0, 1) := by decide +kernel
theorem dX6_count_120 : decode cX6_count 120 = .ok (.invokevirtual 247, 3) := by decide +kernel
theorem dX6_count_123 : decode cX6_count 123 = .ok (.ireturn, 1) := by decide +kernel
theorem dX6_count_124 : decode cX6_count 124 = .ok (.aload_n 0, 1) := by decide +kernel
theorem dX6_count_125 : decode cX6_count 125 = .ok (.invokevirtual 250, 3) := by decide +kernel
theorem dX6_count_128 : decode cX6_count 128 = .ok (.ireturn, 1) := by decide +kernel
theorem dX6_count_129 : decode cX6_count 129 = .ok (.aload_n 0, 1) := by decide +kernel
theorem dX6_count_130 : decode cX6_count 130 = .ok (.getfield 10, 3) := by decide +kernel
theorem dX6_count_133 : decode cX6_count 133 = .ok (.getfield 43, 3) := by decide +kernel
theorem dX6_count_136 : decode cX6_count 136 = .ok (.getfield 47, 3) := by decide +kernel
theorem dX6_count_139 : decode cX6_count 139 = .ok (.invokevirtual 253, 3) := by decide +kernel
theorem dX6_count_142 : decode cX6_count 142 = .ok (.ireturn, 1) := by decide +kernel
theorem dX6_count_143 : decode cX6_count 143 = .ok (.aload_n 0, 1) := by decide +kernel
theorem dX6_count_144 : decode cX6_count 144 = .ok (.getfield 29, 3) := by decide +kernel
theorem dX6_count_147 : decode cX6_count 147 = .ok (.getfield 136, 3) := by decide +kernel
theorem dX6_count_150 : decode cX6_count 150 = .ok (.ireturn, 1) := by decide +kernel
theorem dX6_count_151 : decode cX6_count 151 = .ok (.aload_n 0, 1) := by decide +kernel
theorem dX6_count_152 : decode cX6_count 152 = .ok (.getfield 152, 3) := by decide +kernel
theorem dX6_count_155 : decode cX6_count 155 = .ok (.ireturn, 1) := by decide +kernel
theorem dX6_count_156 : decode cX6_count 156 = .ok (.new 75, 3) := by decide +kernel
theorem dX6_count_159 : decode cX6_count 159 = .ok (.dup, 1) := by decide +kernel
theorem dX6_count_160 : decode cX6_count 160 = .ok (.ldc_w 256, 3) := by decide +kernel
theorem dX6_count_163 : decode cX6_count 163 = .ok (.invokespecial 79, 3) := by decide +kernel
theorem dX6_count_166 : decode cX6_count 166 = .ok (.athrow, 1) := by decide +kernel
theorem dX6_meanVoltage_0 : decode cX6_meanVoltage 0 = .ok (.aload_n 0, 1) := by decide +kernel
theorem dX6_meanVoltage_1 : decode cX6_meanVoltage 1 = .ok (.getfield 10, 3) := by decide +kernel
theorem dX6_meanVoltage_4 : decode cX6_meanVoltage 4 = .ok (.getfield 43, 3) := by decide +kernel
theorem dX6_meanVoltage_7 : decode cX6_meanVoltage 7 = .ok (.getfield 179, 3) := by decide +kernel
theorem dX6_meanVoltage_10 : decode cX6_meanVoltage 10 = .ok (.ifCond .ne 5, 3) := by decide +kernel
theorem dX6_meanVoltage_13 : decode cX6_meanVoltage 13 = .ok (.dconst 0, 1) := by decide +kernel
theorem dX6_meanVoltage_14 : decode cX6_meanVoltage 14 = .ok (.dreturn, 1) := by decide +kernel
theorem dX6_meanVoltage_15 : decode cX6_meanVoltage 15 = .ok (.aload_n 0, 1) := by decide +kernel
theorem dX6_meanVoltage_16 : decode cX6_meanVoltage 16 = .ok (.getfield 10, 3) := by decide +kernel
theorem dX6_meanVoltage_19 : decode cX6_meanVoltage 19 = .ok (.getfield 43, 3) := by decide +kernel
theorem dX6_meanVoltage_22 : decode cX6_meanVoltage 22 = .ok (.getfield 47, 3) := by decide +kernel
theorem dX6_meanVoltage_25 : decode cX6_meanVoltage 25 = .ok (.invokevirtual 253, 3) := by decide +kernel
theorem dX6_meanVoltage_28 : decode cX6_meanVoltage 28 = .ok (.istore_n 1, 1) := by decide +kernel
theorem dX6_meanVoltage_29 : decode cX6_meanVoltage 29 = .ok (.iload_n 1, 1) := by decide +kernel
theorem dX6_meanVoltage_30 : decode cX6_meanVoltage 30 = .ok (.invokestatic 258, 3) := by decide +kernel
theorem dX6_meanVoltage_33 : decode cX6_meanVoltage 33 = .ok (.istore_n 2, 1) := by decide +kernel
theorem dX6_meanVoltage_34 : decode cX6_meanVoltage 34 = .ok (.iload_n 2, 1) := by decide +kernel
theorem dX6_meanVoltage_35 : decode cX6_meanVoltage 35 = .ok (.ifCond .ne 5, 3) := by decide +kernel
theorem dX6_meanVoltage_38 : decode cX6_meanVoltage 38 = .ok (.dconst 0, 1) := by decide +kernel
theorem dX6_meanVoltage_39 : decode cX6_meanVoltage 39 = .ok (.dreturn, 1) := by decide +kernel
theorem dX6_meanVoltage_40 : decode cX6_meanVoltage 40 = .ok (.dconst 0, 1) := by decide +kernel
theorem dX6_meanVoltage_41 : decode cX6_meanVoltage 41 = .ok (.dstore_n 3, 1) := by decide +kernel
theorem dX6_meanVoltage_42 : decode cX6_meanVoltage 42 = .ok (.iconst 1, 1) := by decide +kernel
theorem dX6_meanVoltage_43 : decode cX6_meanVoltage 43 = .ok (.istore 5, 2) := by decide +kernel
theorem dX6_meanVoltage_45 : decode cX6_meanVoltage 45 = .ok (.iload 5, 2) := by decide +kernel
theorem dX6_meanVoltage_47 : decode cX6_meanVoltage 47 = .ok (.bipush 7, 2) := by decide +kernel
theorem dX6_meanVoltage_49 : decode cX6_meanVoltage 49 = .ok (.if_icmp .ge 38, 3) := by decide +kernel
theorem dX6_meanVoltage_52 : decode cX6_meanVoltage 52 = .ok (.iload_n 1, 1) := by decide +kernel
theorem dX6_meanVoltage_53 : decode cX6_meanVoltage 53 = .ok (.iload 5, 2) := by decide +kernel
theorem dX6_meanVoltage_55 : decode cX6_meanVoltage 55 = .ok (.invokestatic 155, 3) := by decide +kernel
theorem dX6_meanVoltage_58 : decode cX6_meanVoltage 58 = .ok (.ifCond .eq 23, 3) := by decide +kernel
theorem dX6_meanVoltage_61 : decode cX6_meanVoltage 61 = .ok (.dload_n 3, 1) := by decide +kernel
theorem dX6_meanVoltage_62 : decode cX6_meanVoltage 62 = .ok (.aload_n 0, 1) := by decide +kernel
theorem dX6_meanVoltage_63 : decode cX6_meanVoltage 63 = .ok (.iload 5, 2) := by decide +kernel
theorem dX6_meanVoltage_65 : decode cX6_meanVoltage 65 = .ok (.iconst 0, 1) := by decide +kernel
theorem dX6_meanVoltage_66 : decode cX6_meanVoltage 66 = .ok (.invokevirtual 263, 3) := by decide +kernel
theorem dX6_meanVoltage_69 : decode cX6_meanVoltage 69 = .ok (.l2d, 1) := by decide +kernel
theorem dX6_meanVoltage_70 : decode cX6_meanVoltage 70 = .ok (.aload_n 0, 1) := by decide +kernel
theorem dX6_meanVoltage_71 : decode cX6_meanVoltage 71 = .ok (.iload 5, 2) := by decide +kernel
theorem dX6_meanVoltage_73 : decode cX6_meanVoltage 73 = .ok (.iconst 1, 1) := by decide +kernel
theorem dX6_meanVoltage_74 : decode cX6_meanVoltage 74 = .ok (.invokevirtual 263, 3) := by decide +kernel
theorem dX6_meanVoltage_77 : decode cX6_meanVoltage 77 = .ok (.l2d, 1) := by decide +kernel
theorem dX6_meanVoltage_78 : decode cX6_meanVoltage 78 = .ok (.ddiv, 1) := by decide +kernel
theorem dX6_meanVoltage_79 : decode cX6_meanVoltage 79 = .ok (.dadd, 1) := by decide +kernel
theorem dX6_meanVoltage_80 : decode cX6_meanVoltage 80 = .ok (.dstore_n 3, 1) := by decide +kernel
theorem dX6_meanVoltage_81 : decode cX6_meanVoltage 81 = .ok (.iinc 5 1, 3) := by decide +kernel
theorem dX6_meanVoltage_84 : decode cX6_meanVoltage 84 = .ok (.goto (-39), 3) := by decide +kernel
theorem dX6_meanVoltage_87 : decode cX6_meanVoltage 87 = .ok (.dload_n 3, 1) := by decide +kernel
theorem dX6_meanVoltage_88 : decode cX6_meanVoltage 88 = .ok (.iload_n 2, 1) := by decide +kernel
theorem dX6_meanVoltage_89 : decode cX6_meanVoltage 89 = .ok (.i2d, 1) := by decide +kernel
theorem dX6_meanVoltage_90 : decode cX6_meanVoltage 90 = .ok (.ddiv, 1) := by decide +kernel
theorem dX6_meanVoltage_91 : decode cX6_meanVoltage 91 = .ok (.dreturn, 1) := by decide +kernel
theorem dX6_holdingCases_0 : decode cX6_holdingCases 0 = .ok (.iconst 0, 1) := by decide +kernel
theorem dX6_holdingCases_1 : decode cX6_holdingCases 1 = .ok (.istore_n 1, 1) := by decide +kernel
theorem dX6_holdingCases_2 : decode cX6_holdingCases 2 = .ok (.iconst 0, 1) := by decide +kernel
theorem dX6_holdingCases_3 : decode cX6_holdingCases 3 = .ok (.istore_n 2, 1) := by decide +kernel
theorem dX6_holdingCases_4 : decode cX6_holdingCases 4 = .ok (.iload_n 2, 1) := by decide +kernel
theorem dX6_holdingCases_5 : decode cX6_holdingCases 5 = .ok (.aload_n 0, 1) := by decide +kernel
theorem dX6_holdingCases_6 : decode cX6_holdingCases 6 = .ok (.getfield 10, 3) := by decide +kernel
theorem dX6_holdingCases_9 : decode cX6_holdingCases 9 = .ok (.invokevirtual 286, 3) := by decide +kernel
theorem dX6_holdingCases_12 : decode cX6_holdingCases 12 = .ok (.if_icmp .ge 30, 3) := by decide +kernel
theorem dX6_holdingCases_15 : decode cX6_holdingCases 15 = .ok (.aload_n 0, 1) := by decide +kernel
theorem dX6_holdingCases_16 : decode cX6_holdingCases 16 = .ok (.getfield 10, 3) := by decide +kernel
theorem dX6_holdingCases_19 : decode cX6_holdingCases 19 = .ok (.iload_n 2, 1) := by decide +kernel
theorem dX6_holdingCases_20 : decode cX6_holdingCases 20 = .ok (.invokevirtual 236, 3) := by decide +kernel
theorem dX6_holdingCases_23 : decode cX6_holdingCases 23 = .ok (.aload_n 0, 1) := by decide +kernel
theorem dX6_holdingCases_24 : decode cX6_holdingCases 24 = .ok (.getfield 10, 3) := by decide +kernel
theorem dX6_holdingCases_27 : decode cX6_holdingCases 27 = .ok (.getfield 239, 3) := by decide +kernel
theorem dX6_holdingCases_30 : decode cX6_holdingCases 30 = .ok (.ifCond .ne 6, 3) := by decide +kernel
theorem dX6_holdingCases_33 : decode cX6_holdingCases 33 = .ok (.iinc 1 1, 3) := by decide +kernel
theorem dX6_holdingCases_36 : decode cX6_holdingCases 36 = .ok (.iinc 2 1, 3) := by decide +kernel
theorem dX6_holdingCases_39 : decode cX6_holdingCases 39 = .ok (.goto (-35), 3) := by decide +kernel
theorem dX6_holdingCases_42 : decode cX6_holdingCases 42 = .ok (.iload_n 1, 1) := by decide +kernel
theorem dX6_holdingCases_43 : decode cX6_holdingCases 43 = .ok (.ireturn, 1) := by decide +kernel
theorem dX6_determinedCases_0 : decode cX6_determinedCases 0 = .ok (.iconst 0, 1) := by decide +kernel
theorem dX6_determinedCases_1 : decode cX6_determinedCases 1 = .ok (.istore_n 1, 1) := by decide +kernel
theorem dX6_determinedCases_2 : decode cX6_determinedCases 2 = .ok (.iconst 0, 1) := by decide +kernel
theorem dX6_determinedCases_3 : decode cX6_determinedCases 3 = .ok (.istore_n 2, 1) := by decide +kernel
theorem dX6_determinedCases_4 : decode cX6_determinedCases 4 = .ok (.iload_n 2, 1) := by decide +kernel
theorem dX6_determinedCases_5 : decode cX6_determinedCases 5 = .ok (.aload_n 0, 1) := by decide +kernel
theorem dX6_determinedCases_6 : decode cX6_determinedCases 6 = .ok (.getfield 10, 3) := by decide +kernel
theorem dX6_determinedCases_9 : decode cX6_determinedCases 9 = .ok (.invokevirtual 286, 3) := by decide +kernel
theorem dX6_determinedCases_12 : decode cX6_determinedCases 12 = .ok (.if_icmp .ge 23, 3) := by decide +kernel
theorem dX6_determinedCases_15 : decode cX6_determinedCases 15 = .ok (.aload_n 0, 1) := by decide +kernel
theorem dX6_determinedCases_16 : decode cX6_determinedCases 16 = .ok (.getfield 10, 3) := by decide +kernel
theorem dX6_determinedCases_19 : decode cX6_determinedCases 19 = .ok (.iload_n 2, 1) := by decide +kernel
theorem dX6_determinedCases_20 : decode cX6_determinedCases 20 = .ok (.invokevirtual 309, 3) := by decide +kernel
theorem dX6_determinedCases_23 : decode cX6_determinedCases 23 = .ok (.ifCond .eq 6, 3) := by decide +kernel
theorem dX6_determinedCases_26 : decode cX6_determinedCases 26 = .ok (.iinc 1 1, 3) := by decide +kernel
theorem dX6_determinedCases_29 : decode cX6_determinedCases 29 = .ok (.iinc 2 1, 3) := by decide +kernel
theorem dX6_determinedCases_32 : decode cX6_determinedCases 32 = .ok (.goto (-28), 3) := by decide +kernel
theorem dX6_determinedCases_35 : decode cX6_determinedCases 35 = .ok (.iload_n 1, 1) := by decide +kernel
theorem dX6_determinedCases_36 : decode cX6_determinedCases 36 = .ok (.ireturn, 1) := by decide +kernel
theorem dX6_requirePart_0 : decode cX6_requirePart 0 = .ok (.iload_n 1, 1) := by decide +kernel
theorem dX6_requirePart_1 : decode cX6_requirePart 1 = .ok (.ifCond .lt 20, 3) := by decide +kernel
theorem dX6_requirePart_4 : decode cX6_requirePart 4 = .ok (.iload_n 1, 1) := by decide +kernel
theorem dX6_requirePart_5 : decode cX6_requirePart 5 = .ok (.aload_n 0, 1) := by decide +kernel
theorem dX6_requirePart_6 : decode cX6_requirePart 6 = .ok (.getfield 10, 3) := by decide +kernel
theorem dX6_requirePart_9 : decode cX6_requirePart 9 = .ok (.getfield 43, 3) := by decide +kernel
theorem dX6_requirePart_12 : decode cX6_requirePart 12 = .ok (.getfield 47, 3) := by decide +kernel
theorem dX6_requirePart_15 : decode cX6_requirePart 15 = .ok (.getfield 51, 3) := by decide +kernel
theorem dX6_requirePart_18 : decode cX6_requirePart 18 = .ok (.if_icmp .lt 14, 3) := by decide +kernel
theorem dX6_requirePart_21 : decode cX6_requirePart 21 = .ok (.new 216, 3) := by decide +kernel
theorem dX6_requirePart_24 : decode cX6_requirePart 24 = .ok (.dup, 1) := by decide +kernel
theorem dX6_requirePart_25 : decode cX6_requirePart 25 = .ok (.ldc_w 312, 3) := by decide +kernel
theorem dX6_requirePart_28 : decode cX6_requirePart 28 = .ok (.invokespecial 220, 3) := by decide +kernel
theorem dX6_requirePart_31 : decode cX6_requirePart 31 = .ok (.athrow, 1) := by decide +kernel
theorem dX6_requirePart_32 : decode cX6_requirePart 32 = .ok (.return_, 1) := by decide +kernel
theorem dX6_requireSource_0 : decode cX6_requireSource 0 = .ok (.aload_n 0, 1) := by decide +kernel
theorem dX6_requireSource_1 : decode cX6_requireSource 1 = .ok (.iload_n 1, 1) := by decide +kernel
theorem dX6_requireSource_2 : decode cX6_requireSource 2 = .ok (.invokevirtual 111, 3) := by decide +kernel
theorem dX6_requireSource_5 : decode cX6_requireSource 5 = .ok (.aload_n 0, 1) := by decide +kernel
theorem dX6_requireSource_6 : decode cX6_requireSource 6 = .ok (.getfield 10, 3) := by decide +kernel
theorem dX6_requireSource_9 : decode cX6_requireSource 9 = .ok (.getfield 43, 3) := by decide +kernel
theorem dX6_requireSource_12 : decode cX6_requireSource 12 = .ok (.getfield 47, 3) := by decide +kernel
theorem dX6_requireSource_15 : decode cX6_requireSource 15 = .ok (.getfield 187, 3) := by decide +kernel
theorem dX6_requireSource_18 : decode cX6_requireSource 18 = .ok (.iload_n 1, 1) := by decide +kernel
theorem dX6_requireSource_19 : decode cX6_requireSource 19 = .ok (.iaload, 1) := by decide +kernel
theorem dX6_requireSource_20 : decode cX6_requireSource 20 = .ok (.iconst 1, 1) := by decide +kernel
theorem dX6_requireSource_21 : decode cX6_requireSource 21 = .ok (.if_icmp .eq 14, 3) := by decide +kernel
theorem dX6_requireSource_24 : decode cX6_requireSource 24 = .ok (.new 86, 3) := by decide +kernel
theorem dX6_requireSource_27 : decode cX6_requireSource 27 = .ok (.dup, 1) := by decide +kernel
theorem dX6_requireSource_28 : decode cX6_requireSource 28 = .ok (.ldc_w 314, 3) := by decide +kernel
theorem dX6_requireSource_31 : decode cX6_requireSource 31 = .ok (.invokespecial 90, 3) := by decide +kernel
theorem dX6_requireSource_34 : decode cX6_requireSource 34 = .ok (.athrow, 1) := by decide +kernel
theorem dX6_requireSource_35 : decode cX6_requireSource 35 = .ok (.return_, 1) := by decide +kernel
theorem dX6_requireSettable_0 : decode cX6_requireSettable 0 = .ok (.aload_n 0, 1) := by decide +kernel
theorem dX6_requireSettable_1 : decode cX6_requireSettable 1 = .ok (.iload_n 1, 1) := by decide +kernel
theorem dX6_requireSettable_2 : decode cX6_requireSettable 2 = .ok (.invokevirtual 111, 3) := by decide +kernel
theorem dX6_requireSettable_5 : decode cX6_requireSettable 5 = .ok (.aload_n 0, 1) := by decide +kernel
theorem dX6_requireSettable_6 : decode cX6_requireSettable 6 = .ok (.getfield 10, 3) := by decide +kernel
theorem dX6_requireSettable_9 : decode cX6_requireSettable 9 = .ok (.getfield 43, 3) := by decide +kernel
theorem dX6_requireSettable_12 : decode cX6_requireSettable 12 = .ok (.getfield 47, 3) := by decide +kernel
theorem dX6_requireSettable_15 : decode cX6_requireSettable 15 = .ok (.getfield 187, 3) := by decide +kernel
theorem dX6_requireSettable_18 : decode cX6_requireSettable 18 = .ok (.iload_n 1, 1) := by decide +kernel
theorem dX6_requireSettable_19 : decode cX6_requireSettable 19 = .ok (.iaload, 1) := by decide +kernel
theorem dX6_requireSettable_20 : decode cX6_requireSettable 20 = .ok (.istore_n 3, 1) := by decide +kernel
theorem dX6_requireSettable_21 : decode cX6_requireSettable 21 = .ok (.iload_n 3, 1) := by decide +kernel
theorem dX6_requireSettable_22 : decode cX6_requireSettable 22 = .ok (.iconst 2, 1) := by decide +kernel
theorem dX6_requireSettable_23 : decode cX6_requireSettable 23 = .ok (.if_icmp .ne 14, 3) := by decide +kernel
theorem dX6_requireSettable_26 : decode cX6_requireSettable 26 = .ok (.new 86, 3) := by decide +kernel
theorem dX6_requireSettable_29 : decode cX6_requireSettable 29 = .ok (.dup, 1) := by decide +kernel
theorem dX6_requireSettable_30 : decode cX6_requireSettable 30 = .ok (.ldc_w 316, 3) := by decide +kernel
theorem dX6_requireSettable_33 : decode cX6_requireSettable 33 = .ok (.invokespecial 90, 3) := by decide +kernel
theorem dX6_requireSettable_36 : decode cX6_requireSettable 36 = .ok (.athrow, 1) := by decide +kernel
theorem dX6_requireSettable_37 : decode cX6_requireSettable 37 = .ok (.iload_n 3, 1) := by decide +kernel
theorem dX6_requireSettable_38 : decode cX6_requireSettable 38 = .ok (.ifCond .ne 21, 3) := by decide +kernel
theorem dX6_requireSettable_41 : decode cX6_requireSettable 41 = .ok (.iload_n 2, 1) := by decide +kernel
theorem dX6_requireSettable_42 : decode cX6_requireSettable 42 = .ok (.iconst 1, 1) := by decide +kernel
theorem dX6_requireSettable_43 : decode cX6_requireSettable 43 = .ok (.if_icmp .lt 12, 3) := by decide +kernel
theorem dX6_requireSettable_46 : decode cX6_requireSettable 46 = .ok (.iload_n 2, 1) := by decide +kernel
theorem dX6_requireSettable_47 : decode cX6_requireSettable 47 = .ok (.iconst 4, 1) := by decide +kernel
theorem dX6_requireSettable_48 : decode cX6_requireSettable 48 = .ok (.if_icmp .gt 7, 3) := by decide +kernel
theorem dX6_requireSettable_51 : decode cX6_requireSettable 51 = .ok (.iconst 1, 1) := by decide +kernel
theorem dX6_requireSettable_52 : decode cX6_requireSettable 52 = .ok (.goto 11, 3) := by decide +kernel
theorem dX6_requireSettable_55 : decode cX6_requireSettable 55 = .ok (.iconst 0, 1) := by decide +kernel
theorem dX6_requireSettable_56 : decode cX6_requireSettable 56 = .ok (.goto 7, 3) := by decide +kernel
theorem dX6_requireSettable_59 : decode cX6_requireSettable 59 = .ok (.iload_n 2, 1) := by decide +kernel
theorem dX6_requireSettable_60 : decode cX6_requireSettable 60 = .ok (.invokestatic 121, 3) := by decide +kernel
theorem dX6_requireSettable_63 : decode cX6_requireSettable 63 = .ok (.istore 4, 2) := by decide +kernel
theorem dX6_requireSettable_65 : decode cX6_requireSettable 65 = .ok (.iload 4, 2) := by decide +kernel
theorem dX6_requireSettable_67 : decode cX6_requireSettable 67 = .ok (.ifCond .ne 14, 3) := by decide +kernel
theorem dX6_requireSettable_70 : decode cX6_requireSettable 70 = .ok (.new 75, 3) := by decide +kernel
theorem dX6_requireSettable_73 : decode cX6_requireSettable 73 = .ok (.dup, 1) := by decide +kernel
theorem dX6_requireSettable_74 : decode cX6_requireSettable 74 = .ok (.ldc_w 318, 3) := by decide +kernel
theorem dX6_requireSettable_77 : decode cX6_requireSettable 77 = .ok (.invokespecial 79, 3) := by decide +kernel
theorem dX6_requireSettable_80 : decode cX6_requireSettable 80 = .ok (.athrow, 1) := by decide +kernel
theorem dX6_requireSettable_81 : decode cX6_requireSettable 81 = .ok (.return_, 1) := by decide +kernel
theorem dX6_requireCase_0 : decode cX6_requireCase 0 = .ok (.iload_n 1, 1) := by decide +kernel
theorem dX6_requireCase_1 : decode cX6_requireCase 1 = .ok (.ifCond .lt 14, 3) := by decide +kernel
theorem dX6_requireCase_4 : decode cX6_requireCase 4 = .ok (.iload_n 1, 1) := by decide +kernel
theorem dX6_requireCase_5 : decode cX6_requireCase 5 = .ok (.aload_n 0, 1) := by decide +kernel
theorem dX6_requireCase_6 : decode cX6_requireCase 6 = .ok (.getfield 10, 3) := by decide +kernel
theorem dX6_requireCase_9 : decode cX6_requireCase 9 = .ok (.invokevirtual 286, 3) := by decide +kernel
theorem dX6_requireCase_12 : decode cX6_requireCase 12 = .ok (.if_icmp .lt 14, 3) := by decide +kernel
theorem dX6_requireCase_15 : decode cX6_requireCase 15 = .ok (.new 216, 3) := by decide +kernel
theorem dX6_requireCase_18 : decode cX6_requireCase 18 = .ok (.dup, 1) := by decide +kernel
theorem dX6_requireCase_19 : decode cX6_requireCase 19 = .ok (.ldc_w 322, 3) := by decide +kernel
theorem dX6_requireCase_22 : decode cX6_requireCase 22 = .ok (.invokespecial 220, 3) := by decide +kernel
theorem dX6_requireCase_25 : decode cX6_requireCase 25 = .ok (.athrow, 1) := by decide +kernel
theorem dX6_requireCase_26 : decode cX6_requireCase 26 = .ok (.return_, 1) := by decide +kernel
theorem dX6_requireNode_0 : decode cX6_requireNode 0 = .ok (.iload_n 0, 1) := by decide +kernel
theorem dX6_requireNode_1 : decode cX6_requireNode 1 = .ok (.ifCond .lt 9, 3) := by decide +kernel
theorem dX6_requireNode_4 : decode cX6_requireNode 4 = .ok (.iload_n 0, 1) := by decide +kernel
theorem dX6_requireNode_5 : decode cX6_requireNode 5 = .ok (.bipush 7, 2) := by decide +kernel
theorem dX6_requireNode_7 : decode cX6_requireNode 7 = .ok (.if_icmp .lt 14, 3) := by decide +kernel
theorem dX6_requireNode_10 : decode cX6_requireNode 10 = .ok (.new 216, 3) := by decide +kernel
theorem dX6_requireNode_13 : decode cX6_requireNode 13 = .ok (.dup, 1) := by decide +kernel
theorem dX6_requireNode_14 : decode cX6_requireNode 14 = .ok (.ldc_w 324, 3) := by decide +kernel
theorem dX6_requireNode_17 : decode cX6_requireNode 17 = .ok (.invokespecial 220, 3) := by decide +kernel
theorem dX6_requireNode_20 : decode cX6_requireNode 20 = .ok (.athrow, 1) := by decide +kernel
theorem dX6_requireNode_21 : decode cX6_requireNode 21 = .ok (.return_, 1) := by decide +kernel
theorem dX6_requireFractionSide_0 : decode cX6_requireFractionSide 0 = .ok (.iload_n 0, 1) := by decide +kernel
theorem dX6_requireFractionSide_1 : decode cX6_requireFractionSide 1 = .ok (.ifCond .eq 19, 3) := by decide +kernel
theorem dX6_requireFractionSide_4 : decode cX6_requireFractionSide 4 = .ok (.iload_n 0, 1) := by decide +kernel
theorem dX6_requireFractionSide_5 : decode cX6_requireFractionSide 5 = .ok (.iconst 1, 1) := by decide +kernel
theorem dX6_requireFractionSide_6 : decode cX6_requireFractionSide 6 = .ok (.if_icmp .eq 14, 3) := by decide +kernel
theorem dX6_requireFractionSide_9 : decode cX6_requireFractionSide 9 = .ok (.new 75, 3) := by decide +kernel
theorem dX6_requireFractionSide_12 : decode cX6_requireFractionSide 12 = .ok (.dup, 1) := by decide +kernel
theorem dX6_requireFractionSide_13 : decode cX6_requireFractionSide 13 = .ok (.ldc_w 326, 3) := by decide +kernel
theorem dX6_requireFractionSide_16 : decode cX6_requireFractionSide 16 = .ok (.invokespecial 79, 3) := by decide +kernel
theorem dX6_requireFractionSide_19 : decode cX6_requireFractionSide 19 = .ok (.athrow, 1) := by decide +kernel
theorem dX6_requireFractionSide_20 : decode cX6_requireFractionSide 20 = .ok (.return_, 1) := by decide +kernel
theorem dX6_isSourceValue_0 : decode cX6_isSourceValue 0 = .ok (.iload_n 0, 1) := by decide +kernel
theorem dX6_isSourceValue_1 : decode cX6_isSourceValue 1 = .ok (.sipush (-200), 3) := by decide +kernel
theorem dX6_isSourceValue_4 : decode cX6_isSourceValue 4 = .ok (.if_icmp .lt 14, 3) := by decide +kernel
theorem dX6_isSourceValue_7 : decode cX6_isSourceValue 7 = .ok (.iload_n 0, 1) := by decide +kernel
theorem dX6_isSourceValue_8 : decode cX6_isSourceValue 8 = .ok (.sipush 200, 3) := by decide +kernel
theorem dX6_isSourceValue_11 : decode cX6_isSourceValue 11 = .ok (.if_icmp .gt 7, 3) := by decide +kernel
theorem dX6_isSourceValue_14 : decode cX6_isSourceValue 14 = .ok (.iconst 1, 1) := by decide +kernel
theorem dX6_isSourceValue_15 : decode cX6_isSourceValue 15 = .ok (.goto 4, 3) := by decide +kernel
theorem dX6_isSourceValue_18 : decode cX6_isSourceValue 18 = .ok (.iconst 0, 1) := by decide +kernel
theorem dX6_isSourceValue_19 : decode cX6_isSourceValue 19 = .ok (.ireturn, 1) := by decide +kernel
theorem dX6_contains_0 : decode cX6_contains 0 = .ok (.iload_n 0, 1) := by decide +kernel
theorem dX6_contains_1 : decode cX6_contains 1 = .ok (.iload_n 1, 1) := by decide +kernel
theorem dX6_contains_2 : decode cX6_contains 2 = .ok (.ishr, 1) := by decide +kernel
theorem dX6_contains_3 : decode cX6_contains 3 = .ok (.iconst 1, 1) := by decide +kernel
theorem dX6_contains_4 : decode cX6_contains 4 = .ok (.iand, 1) := by decide +kernel
theorem dX6_contains_5 : decode cX6_contains 5 = .ok (.ifCond .eq 7, 3) := by decide +kernel
theorem dX6_contains_8 : decode cX6_contains 8 = .ok (.iconst 1, 1) := by decide +kernel
theorem dX6_contains_9 : decode cX6_contains 9 = .ok (.goto 4, 3) := by decide +kernel
theorem dX6_contains_12 : decode cX6_contains 12 = .ok (.iconst 0, 1) := by decide +kernel
theorem dX6_contains_13 : decode cX6_contains 13 = .ok (.ireturn, 1) := by decide +kernel
theorem dX6_stateIn_0 : decode cX6_stateIn 0 = .ok (.iload_n 0, 1) := by decide +kernel
theorem dX6_stateIn_1 : decode cX6_stateIn 1 = .ok (.getstatic 328, 3) := by decide +kernel
theorem dX6_stateIn_4 : decode cX6_stateIn 4 = .ok (.iload_n 1, 1) := by decide +kernel
theorem dX6_stateIn_5 : decode cX6_stateIn 5 = .ok (.iaload, 1) := by decide +kernel
theorem dX6_stateIn_6 : decode cX6_stateIn 6 = .ok (.idiv, 1) := by decide +kernel
theorem dX6_stateIn_7 : decode cX6_stateIn 7 = .ok (.iconst 3, 1) := by decide +kernel
theorem dX6_stateIn_8 : decode cX6_stateIn 8 = .ok (.irem, 1) := by decide +kernel
theorem dX6_stateIn_9 : decode cX6_stateIn 9 = .ok (.ireturn, 1) := by decide +kernel
theorem dX6_lowestTerms_0 : decode cX6_lowestTerms 0 = .ok (.lload_n 0, 1) := by decide +kernel
theorem dX6_lowestTerms_1 : decode cX6_lowestTerms 1 = .ok (.invokestatic 333, 3) := by decide +kernel
theorem dX6_lowestTerms_4 : decode cX6_lowestTerms 4 = .ok (.lload_n 2, 1) := by decide +kernel
theorem dX6_lowestTerms_5 : decode cX6_lowestTerms 5 = .ok (.invokestatic 335, 3) := by decide +kernel
theorem dX6_lowestTerms_8 : decode cX6_lowestTerms 8 = .ok (.lstore 5, 2) := by decide +kernel
theorem dX6_lowestTerms_10 : decode cX6_lowestTerms 10 = .ok (.lload 5, 2) := by decide +kernel
theorem dX6_lowestTerms_12 : decode cX6_lowestTerms 12 = .ok (.lconst 0, 1) := by decide +kernel
theorem dX6_lowestTerms_13 : decode cX6_lowestTerms 13 = .ok (.lcmp, 1) := by decide +kernel
theorem dX6_lowestTerms_14 : decode cX6_lowestTerms 14 = .ok (.ifCond .ne 5, 3) := by decide +kernel
theorem dX6_lowestTerms_17 : decode cX6_lowestTerms 17 = .ok (.lconst 0, 1) := by decide +kernel
theorem dX6_lowestTerms_18 : decode cX6_lowestTerms 18 = .ok (.lreturn, 1) := by decide +kernel
theorem dX6_lowestTerms_19 : decode cX6_lowestTerms 19 = .ok (.iload 4, 2) := by decide +kernel
theorem dX6_lowestTerms_21 : decode cX6_lowestTerms 21 = .ok (.ifCond .ne 10, 3) := by decide +kernel
theorem dX6_lowestTerms_24 : decode cX6_lowestTerms 24 = .ok (.lload_n 0, 1) := by decide +kernel
theorem dX6_lowestTerms_25 : decode cX6_lowestTerms 25 = .ok (.lload 5, 2) := by decide +kernel
theorem dX6_lowestTerms_27 : decode cX6_lowestTerms 27 = .ok (.ldiv, 1) := by decide +kernel
theorem dX6_lowestTerms_28 : decode cX6_lowestTerms 28 = .ok (.goto 7, 3) := by decide +kernel
theorem dX6_lowestTerms_31 : decode cX6_lowestTerms 31 = .ok (.lload_n 2, 1) := by decide +kernel
theorem dX6_lowestTerms_32 : decode cX6_lowestTerms 32 = .ok (.lload 5, 2) := by decide +kernel
theorem dX6_lowestTerms_34 : decode cX6_lowestTerms 34 = .ok (.ldiv, 1) := by decide +kernel
theorem dX6_lowestTerms_35 : decode cX6_lowestTerms 35 = .ok (.lreturn, 1) := by decide +kernel
theorem dX6_greatestDivisor_0 : decode cX6_greatestDivisor 0 = .ok (.lload_n 0, 1) := by decide +kernel
theorem dX6_greatestDivisor_1 : decode cX6_greatestDivisor 1 = .ok (.lstore 4, 2) := by decide +kernel
theorem dX6_greatestDivisor_3 : decode cX6_greatestDivisor 3 = .ok (.lload_n 2, 1) := by decide +kernel
theorem dX6_greatestDivisor_4 : decode cX6_greatestDivisor 4 = .ok (.lstore 6, 2) := by decide +kernel
theorem dX6_greatestDivisor_6 : decode cX6_greatestDivisor 6 = .ok (.iconst 0, 1) := by decide +kernel
theorem dX6_greatestDivisor_7 : decode cX6_greatestDivisor 7 = .ok (.istore 8, 2) := by decide +kernel
theorem dX6_greatestDivisor_9 : decode cX6_greatestDivisor 9 = .ok (.iload 8, 2) := by decide +kernel
theorem dX6_greatestDivisor_11 : decode cX6_greatestDivisor 11 = .ok (.bipush 100, 2) := by decide +kernel
theorem dX6_greatestDivisor_13 : decode cX6_greatestDivisor 13 = .ok (.if_icmp .ge 31, 3) := by decide +kernel
theorem dX6_greatestDivisor_16 : decode cX6_greatestDivisor 16 = .ok (.lload 6, 2) := by decide +kernel
theorem dX6_greatestDivisor_18 : decode cX6_greatestDivisor 18 = .ok (.lconst 0, 1) := by decide +kernel
theorem dX6_greatestDivisor_19 : decode cX6_greatestDivisor 19 = .ok (.lcmp, 1) := by decide +kernel
theorem dX6_greatestDivisor_20 : decode cX6_greatestDivisor 20 = .ok (.ifCond .eq 24, 3) := by decide +kernel
theorem dX6_greatestDivisor_23 : decode cX6_greatestDivisor 23 = .ok (.lload 4, 2) := by decide +kernel
theorem dX6_greatestDivisor_25 : decode cX6_greatestDivisor 25 = .ok (.lload 6, 2) := by decide +kernel
theorem dX6_greatestDivisor_27 : decode cX6_greatestDivisor 27 = .ok (.lrem, 1) := by decide +kernel
theorem dX6_greatestDivisor_28 : decode cX6_greatestDivisor 28 = .ok (.lstore 9, 2) := by decide +kernel
theorem dX6_greatestDivisor_30 : decode cX6_greatestDivisor 30 = .ok (.lload 6, 2) := by decide +kernel
theorem dX6_greatestDivisor_32 : decode cX6_greatestDivisor 32 = .ok (.lstore 4, 2) := by decide +kernel
theorem dX6_greatestDivisor_34 : decode cX6_greatestDivisor 34 = .ok (.lload 9, 2) := by decide +kernel
theorem dX6_greatestDivisor_36 : decode cX6_greatestDivisor 36 = .ok (.lstore 6, 2) := by decide +kernel
theorem dX6_greatestDivisor_38 : decode cX6_greatestDivisor 38 = .ok (.iinc 8 1, 3) := by decide +kernel
theorem dX6_greatestDivisor_41 : decode cX6_greatestDivisor 41 = .ok (.goto (-32), 3) := by decide +kernel
theorem dX6_greatestDivisor_44 : decode cX6_greatestDivisor 44 = .ok (.lload 4, 2) := by decide +kernel
theorem dX6_greatestDivisor_46 : decode cX6_greatestDivisor 46 = .ok (.lreturn, 1) := by decide +kernel
theorem dJ6_bitCount_0f7a4_0 : decode cJ6_bitCount_0f7a4 0 = .ok (.iload_n 0, 1) := by decide +kernel
theorem dJ6_bitCount_0f7a4_1 : decode cJ6_bitCount_0f7a4 1 = .ok (.iload_n 0, 1) := by decide +kernel
theorem dJ6_bitCount_0f7a4_2 : decode cJ6_bitCount_0f7a4 2 = .ok (.iconst 1, 1) := by decide +kernel
theorem dJ6_bitCount_0f7a4_3 : decode cJ6_bitCount_0f7a4 3 = .ok (.iushr, 1) := by decide +kernel
theorem dJ6_bitCount_0f7a4_4 : decode cJ6_bitCount_0f7a4 4 = .ok (.ldc_w 265, 3) := by decide +kernel
theorem dJ6_bitCount_0f7a4_7 : decode cJ6_bitCount_0f7a4 7 = .ok (.iand, 1) := by decide +kernel
theorem dJ6_bitCount_0f7a4_8 : decode cJ6_bitCount_0f7a4 8 = .ok (.isub, 1) := by decide +kernel
theorem dJ6_bitCount_0f7a4_9 : decode cJ6_bitCount_0f7a4 9 = .ok (.istore_n 0, 1) := by decide +kernel
theorem dJ6_bitCount_0f7a4_10 : decode cJ6_bitCount_0f7a4 10 = .ok (.iload_n 0, 1) := by decide +kernel
theorem dJ6_bitCount_0f7a4_11 : decode cJ6_bitCount_0f7a4 11 = .ok (.ldc_w 266, 3) := by decide +kernel
theorem dJ6_bitCount_0f7a4_14 : decode cJ6_bitCount_0f7a4 14 = .ok (.iand, 1) := by decide +kernel
theorem dJ6_bitCount_0f7a4_15 : decode cJ6_bitCount_0f7a4 15 = .ok (.iload_n 0, 1) := by decide +kernel
theorem dJ6_bitCount_0f7a4_16 : decode cJ6_bitCount_0f7a4 16 = .ok (.iconst 2, 1) := by decide +kernel
theorem dJ6_bitCount_0f7a4_17 : decode cJ6_bitCount_0f7a4 17 = .ok (.iushr, 1) := by decide +kernel
theorem dJ6_bitCount_0f7a4_18 : decode cJ6_bitCount_0f7a4 18 = .ok (.ldc_w 266, 3) := by decide +kernel
theorem dJ6_bitCount_0f7a4_21 : decode cJ6_bitCount_0f7a4 21 = .ok (.iand, 1) := by decide +kernel
theorem dJ6_bitCount_0f7a4_22 : decode cJ6_bitCount_0f7a4 22 = .ok (.iadd, 1) := by decide +kernel
theorem dJ6_bitCount_0f7a4_23 : decode cJ6_bitCount_0f7a4 23 = .ok (.istore_n 0, 1) := by decide +kernel
theorem dJ6_bitCount_0f7a4_24 : decode cJ6_bitCount_0f7a4 24 = .ok (.iload_n 0, 1) := by decide +kernel
theorem dJ6_bitCount_0f7a4_25 : decode cJ6_bitCount_0f7a4 25 = .ok (.iload_n 0, 1) := by decide +kernel
theorem dJ6_bitCount_0f7a4_26 : decode cJ6_bitCount_0f7a4 26 = .ok (.iconst 4, 1) := by decide +kernel
theorem dJ6_bitCount_0f7a4_27 : decode cJ6_bitCount_0f7a4 27 = .ok (.iushr, 1) := by decide +kernel
theorem dJ6_bitCount_0f7a4_28 : decode cJ6_bitCount_0f7a4 28 = .ok (.iadd, 1) := by decide +kernel
theorem dJ6_bitCount_0f7a4_29 : decode cJ6_bitCount_0f7a4 29 = .ok (.ldc_w 267, 3) := by decide +kernel
theorem dJ6_bitCount_0f7a4_32 : decode cJ6_bitCount_0f7a4 32 = .ok (.iand, 1) := by decide +kernel
theorem dJ6_bitCount_0f7a4_33 : decode cJ6_bitCount_0f7a4 33 = .ok (.istore_n 0, 1) := by decide +kernel
theorem dJ6_bitCount_0f7a4_34 : decode cJ6_bitCount_0f7a4 34 = .ok (.iload_n 0, 1) := by decide +kernel
theorem dJ6_bitCount_0f7a4_35 : decode cJ6_bitCount_0f7a4 35 = .ok (.iload_n 0, 1) := by decide +kernel
theorem dJ6_bitCount_0f7a4_36 : decode cJ6_bitCount_0f7a4 36 = .ok (.bipush 8, 2) := by decide +kernel
theorem dJ6_bitCount_0f7a4_38 : decode cJ6_bitCount_0f7a4 38 = .ok (.iushr, 1) := by decide +kernel
theorem dJ6_bitCount_0f7a4_39 : decode cJ6_bitCount_0f7a4 39 = .ok (.iadd, 1) := by decide +kernel
theorem dJ6_bitCount_0f7a4_40 : decode cJ6_bitCount_0f7a4 40 = .ok (.istore_n 0, 1) := by decide +kernel
theorem dJ6_bitCount_0f7a4_41 : decode cJ6_bitCount_0f7a4 41 = .ok (.iload_n 0, 1) := by decide +kernel
theorem dJ6_bitCount_0f7a4_42 : decode cJ6_bitCount_0f7a4 42 = .ok (.iload_n 0, 1) := by decide +kernel
theorem dJ6_bitCount_0f7a4_43 : decode cJ6_bitCount_0f7a4 43 = .ok (.bipush 16, 2) := by decide +kernel
theorem dJ6_bitCount_0f7a4_45 : decode cJ6_bitCount_0f7a4 45 = .ok (.iushr, 1) := by decide +kernel
theorem dJ6_bitCount_0f7a4_46 : decode cJ6_bitCount_0f7a4 46 = .ok (.iadd, 1) := by decide +kernel
theorem dJ6_bitCount_0f7a4_47 : decode cJ6_bitCount_0f7a4 47 = .ok (.istore_n 0, 1) := by decide +kernel
theorem dJ6_bitCount_0f7a4_48 : decode cJ6_bitCount_0f7a4 48 = .ok (.iload_n 0, 1) := by decide +kernel
theorem dJ6_bitCount_0f7a4_49 : decode cJ6_bitCount_0f7a4 49 = .ok (.bipush 63, 2) := by decide +kernel
theorem dJ6_bitCount_0f7a4_51 : decode cJ6_bitCount_0f7a4 51 = .ok (.iand, 1) := by decide +kernel
theorem dJ6_bitCount_0f7a4_52 : decode cJ6_bitCount_0f7a4 52 = .ok (.ireturn, 1) := by decide +kernel
theorem dJ13_compare_74951_0 : decode cJ13_compare_74951 0 = .ok (.lload_n 0, 1) := by decide +kernel
theorem dJ13_compare_74951_1 : decode cJ13_compare_74951 1 = .ok (.lload_n 2, 1) := by decide +kernel
theorem dJ13_compare_74951_2 : decode cJ13_compare_74951 2 = .ok (.lcmp, 1) := by decide +kernel
theorem dJ13_compare_74951_3 : decode cJ13_compare_74951 3 = .ok (.ifCond .ge 7, 3) := by decide +kernel
theorem dJ13_compare_74951_6 : decode cJ13_compare_74951 6 = .ok (.iconst (-1), 1) := by decide +kernel
theorem dJ13_compare_74951_7 : decode cJ13_compare_74951 7 = .ok (.goto 14, 3) := by decide +kernel
theorem dJ13_compare_74951_10 : decode cJ13_compare_74951 10 = .ok (.lload_n 0, 1) := by decide +kernel
theorem dJ13_compare_74951_11 : decode cJ13_compare_74951 11 = .ok (.lload_n 2, 1) := by decide +kernel
theorem dJ13_compare_74951_12 : decode cJ13_compare_74951 12 = .ok (.lcmp, 1) := by decide +kernel
theorem dJ13_compare_74951_13 : decode cJ13_compare_74951 13 = .ok (.ifCond .ne 7, 3) := by decide +kernel
theorem dJ13_compare_74951_16 : decode cJ13_compare_74951 16 = .ok (.iconst 0, 1) := by decide +kernel
theorem dJ13_compare_74951_17 : decode cJ13_compare_74951 17 = .ok (.goto 4, 3) := by decide +kernel
theorem dJ13_compare_74951_20 : decode cJ13_compare_74951 20 = .ok (.iconst 1, 1) := by decide +kernel
theorem dJ13_compare_74951_21 : decode cJ13_compare_74951 21 = .ok (.ireturn, 1) := by decide +kernel
theorem dJ9_abs_0f7a4_0 : decode cJ9_abs_0f7a4 0 = .ok (.iload_n 0, 1) := by decide +kernel
theorem dJ9_abs_0f7a4_1 : decode cJ9_abs_0f7a4 1 = .ok (.ifCond .ge 8, 3) := by decide +kernel
theorem dJ9_abs_0f7a4_4 : decode cJ9_abs_0f7a4 4 = .ok (.iload_n 0, 1) := by decide +kernel
theorem dJ9_abs_0f7a4_5 : decode cJ9_abs_0f7a4 5 = .ok (.ineg, 1) := by decide +kernel
theorem dJ9_abs_0f7a4_6 : decode cJ9_abs_0f7a4 6 = .ok (.goto 4, 3) := by decide +kernel
theorem dJ9_abs_0f7a4_9 : decode cJ9_abs_0f7a4 9 = .ok (.iload_n 0, 1) := by decide +kernel
theorem dJ9_abs_0f7a4_10 : decode cJ9_abs_0f7a4 10 = .ok (.ireturn, 1) := by decide +kernel
theorem dJ9_abs_067f4_0 : decode cJ9_abs_067f4 0 = .ok (.lload_n 0, 1) := by decide +kernel
theorem dJ9_abs_067f4_1 : decode cJ9_abs_067f4 1 = .ok (.lconst 0, 1) := by decide +kernel
theorem dJ9_abs_067f4_2 : decode cJ9_abs_067f4 2 = .ok (.lcmp, 1) := by decide +kernel
theorem dJ9_abs_067f4_3 : decode cJ9_abs_067f4 3 = .ok (.ifCond .ge 8, 3) := by decide +kernel
theorem dJ9_abs_067f4_6 : decode cJ9_abs_067f4 6 = .ok (.lload_n 0, 1) := by decide +kernel
theorem dJ9_abs_067f4_7 : decode cJ9_abs_067f4 7 = .ok (.lneg, 1) := by decide +kernel
theorem dJ9_abs_067f4_8 : decode cJ9_abs_067f4 8 = .ok (.goto 4, 3) := by decide +kernel
theorem dJ9_abs_067f4_11 : decode cJ9_abs_067f4 11 = .ok (.lload_n 0, 1) := by decide +kernel
theorem dJ9_abs_067f4_12 : decode cJ9_abs_067f4 12 = .ok (.lreturn, 1) := by decide +kernel
theorem dJ7_fill_d0a16_0 : decode cJ7_fill_d0a16 0 = .ok (.iconst 0, 1) := by decide +kernel
theorem dJ7_fill_d0a16_1 : decode cJ7_fill_d0a16 1 = .ok (.istore_n 3, 1) := by decide +kernel
theorem dJ7_fill_d0a16_2 : decode cJ7_fill_d0a16 2 = .ok (.aload_n 0, 1) := by decide +kernel
theorem dJ7_fill_d0a16_3 : decode cJ7_fill_d0a16 3 = .ok (.arraylength, 1) := by decide +kernel
theorem dJ7_fill_d0a16_4 : decode cJ7_fill_d0a16 4 = .ok (.istore 4, 2) := by decide +kernel
theorem dJ7_fill_d0a16_6 : decode cJ7_fill_d0a16 6 = .ok (.iload_n 3, 1) := by decide +kernel
theorem dJ7_fill_d0a16_7 : decode cJ7_fill_d0a16 7 = .ok (.iload 4, 2) := by decide +kernel
theorem dJ7_fill_d0a16_9 : decode cJ7_fill_d0a16 9 = .ok (.if_icmp .ge 13, 3) := by decide +kernel
theorem dJ7_fill_d0a16_12 : decode cJ7_fill_d0a16 12 = .ok (.aload_n 0, 1) := by decide +kernel
theorem dJ7_fill_d0a16_13 : decode cJ7_fill_d0a16 13 = .ok (.iload_n 3, 1) := by decide +kernel
theorem dJ7_fill_d0a16_14 : decode cJ7_fill_d0a16 14 = .ok (.lload_n 1, 1) := by decide +kernel
theorem dJ7_fill_d0a16_15 : decode cJ7_fill_d0a16 15 = .ok (.lastore, 1) := by decide +kernel
theorem dJ7_fill_d0a16_16 : decode cJ7_fill_d0a16 16 = .ok (.iinc 3 1, 3) := by decide +kernel
theorem dJ7_fill_d0a16_19 : decode cJ7_fill_d0a16 19 = .ok (.goto (-13), 3) := by decide +kernel
theorem dJ7_fill_d0a16_22 : decode cJ7_fill_d0a16 22 = .ok (.return_, 1) := by decide +kernel
theorem dL_cell_0 : decode cL_cell 0 = .ok (.iload_n 1, 1) := by decide +kernel
theorem dL_cell_1 : decode cL_cell 1 = .ok (.aload_n 0, 1) := by decide +kernel
theorem dL_cell_2 : decode cL_cell 2 = .ok (.arraylength, 1) := by decide +kernel
theorem dL_cell_3 : decode cL_cell 3 = .ok (.if_icmp .ge 9, 3) := by decide +kernel
theorem dL_cell_6 : decode cL_cell 6 = .ok (.aload_n 0, 1) := by decide +kernel
theorem dL_cell_7 : decode cL_cell 7 = .ok (.iload_n 1, 1) := by decide +kernel
theorem dL_cell_8 : decode cL_cell 8 = .ok (.iaload, 1) := by decide +kernel
theorem dL_cell_9 : decode cL_cell 9 = .ok (.goto 9, 3) := by decide +kernel
theorem dL_cell_12 : decode cL_cell 12 = .ok (.ldc 7, 2) := by decide +kernel
theorem dL_cell_14 : decode cL_cell 14 = .ok (.iload_n 1, 1) := by decide +kernel
theorem dL_cell_15 : decode cL_cell 15 = .ok (.iconst 1, 1) := by decide +kernel
theorem dL_cell_16 : decode cL_cell 16 = .ok (.iadd, 1) := by decide +kernel
theorem dL_cell_17 : decode cL_cell 17 = .ok (.imul, 1) := by decide +kernel
theorem dL_cell_18 : decode cL_cell 18 = .ok (.ireturn, 1) := by decide +kernel
theorem dL_at_0 : decode cL_at 0 = .ok (.iload_n 0, 1) := by decide +kernel
theorem dL_at_1 : decode cL_at 1 = .ok (.iconst 1, 1) := by decide +kernel
theorem dL_at_2 : decode cL_at 2 = .ok (.iushr, 1) := by decide +kernel
theorem dL_at_3 : decode cL_at 3 = .ok (.iload_n 1, 1) := by decide +kernel
theorem dL_at_4 : decode cL_at 4 = .ok (.irem, 1) := by decide +kernel
theorem dL_at_5 : decode cL_at 5 = .ok (.ireturn, 1) := by decide +kernel
theorem dL_kind_0 : decode cL_kind 0 = .ok (.aload_n 1, 1) := by decide +kernel
theorem dL_kind_1 : decode cL_kind 1 = .ok (.iconst 4, 1) := by decide +kernel
theorem dL_kind_2 : decode cL_kind 2 = .ok (.iload_n 0, 1) := by decide +kernel
theorem dL_kind_3 : decode cL_kind 3 = .ok (.imul, 1) := by decide +kernel
theorem dL_kind_4 : decode cL_kind 4 = .ok (.iaload, 1) := by decide +kernel
theorem dL_kind_5 : decode cL_kind 5 = .ok (.ireturn, 1) := by decide +kernel
theorem dL_isAt_0 : decode cL_isAt 0 = .ok (.aload_n 2, 1) := by decide +kernel
theorem dL_isAt_1 : decode cL_isAt 1 = .ok (.iconst 4, 1) := by decide +kernel
theorem dL_isAt_2 : decode cL_isAt 2 = .ok (.iload_n 0, 1) := by decide +kernel
theorem dL_isAt_3 : decode cL_isAt 3 = .ok (.imul, 1) := by decide +kernel
theorem dL_isAt_4 : decode cL_isAt 4 = .ok (.iconst 1, 1) := by decide +kernel
theorem dL_isAt_5 : decode cL_isAt 5 = .ok (.iadd, 1) := by decide +kernel
theorem dL_isAt_6 : decode cL_isAt 6 = .ok (.iaload, 1) := by decide +kernel
theorem dL_isAt_7 : decode cL_isAt 7 = .ok (.iload_n 1, 1) := by decide +kernel
theorem dL_isAt_8 : decode cL_isAt 8 = .ok (.if_icmp .eq 43, 3) := by decide +kernel
theorem dL_isAt_11 : decode cL_isAt 11 = .ok (.iload_n 0, 1) := by decide +kernel
theorem dL_isAt_12 : decode cL_isAt 12 = .ok (.aload_n 2, 1) := by decide +kernel
theorem dL_isAt_13 : decode cL_isAt 13 = .ok (.invokestatic 8, 3) := by decide +kernel
theorem dL_isAt_16 : decode cL_isAt 16 = .ok (.iconst 1, 1) := by decide +kernel
theorem dL_isAt_17 : decode cL_isAt 17 = .ok (.if_icmp .eq 14, 3) := by decide +kernel
theorem dL_isAt_20 : decode cL_isAt 20 = .ok (.aload_n 2, 1) := by decide +kernel
theorem dL_isAt_21 : decode cL_isAt 21 = .ok (.iconst 4, 1) := by decide +kernel
theorem dL_isAt_22 : decode cL_isAt 22 = .ok (.iload_n 0, 1) := by decide +kernel
theorem dL_isAt_23 : decode cL_isAt 23 = .ok (.imul, 1) := by decide +kernel
theorem dL_isAt_24 : decode cL_isAt 24 = .ok (.iconst 2, 1) := by decide +kernel
theorem dL_isAt_25 : decode cL_isAt 25 = .ok (.iadd, 1) := by decide +kernel
theorem dL_isAt_26 : decode cL_isAt 26 = .ok (.iaload, 1) := by decide +kernel
theorem dL_isAt_27 : decode cL_isAt 27 = .ok (.iload_n 1, 1) := by decide +kernel
theorem dL_isAt_28 : decode cL_isAt 28 = .ok (.if_icmp .eq 23, 3) := by decide +kernel
theorem dL_isAt_31 : decode cL_isAt 31 = .ok (.iload_n 0, 1) := by decide +kernel
theorem dL_isAt_32 : decode cL_isAt 32 = .ok (.aload_n 2, 1) := by decide +kernel
theorem dL_isAt_33 : decode cL_isAt 33 = .ok (.invokestatic 8, 3) := by decide +kernel
theorem dL_isAt_36 : decode cL_isAt 36 = .ok (.iconst 2, 1) := by decide +kernel
theorem dL_isAt_37 : decode cL_isAt 37 = .ok (.if_icmp .ne 18, 3) := by decide +kernel
theorem dL_isAt_40 : decode cL_isAt 40 = .ok (.aload_n 2, 1) := by decide +kernel
theorem dL_isAt_41 : decode cL_isAt 41 = .ok (.iconst 4, 1) := by decide +kernel
theorem dL_isAt_42 : decode cL_isAt 42 = .ok (.iload_n 0, 1) := by decide +kernel
theorem dL_isAt_43 : decode cL_isAt 43 = .ok (.imul, 1) := by decide +kernel
theorem dL_isAt_44 : decode cL_isAt 44 = .ok (.iconst 3, 1) := by decide +kernel
theorem dL_isAt_45 : decode cL_isAt 45 = .ok (.iadd, 1) := by decide +kernel
theorem dL_isAt_46 : decode cL_isAt 46 = .ok (.iaload, 1) := by decide +kernel
theorem dL_isAt_47 : decode cL_isAt 47 = .ok (.iload_n 1, 1) := by decide +kernel
theorem dL_isAt_48 : decode cL_isAt 48 = .ok (.if_icmp .ne 7, 3) := by decide +kernel
theorem dL_isAt_51 : decode cL_isAt 51 = .ok (.iconst 1, 1) := by decide +kernel
theorem dL_isAt_52 : decode cL_isAt 52 = .ok (.goto 4, 3) := by decide +kernel
theorem dL_isAt_55 : decode cL_isAt 55 = .ok (.iconst 0, 1) := by decide +kernel
theorem dL_isAt_56 : decode cL_isAt 56 = .ok (.ireturn, 1) := by decide +kernel
theorem dL_used_0 : decode cL_used 0 = .ok (.iconst 0, 1) := by decide +kernel
theorem dL_used_1 : decode cL_used 1 = .ok (.istore_n 3, 1) := by decide +kernel
theorem dL_used_2 : decode cL_used 2 = .ok (.iload_n 3, 1) := by decide +kernel
theorem dL_used_3 : decode cL_used 3 = .ok (.aload_n 1, 1) := by decide +kernel
theorem dL_used_4 : decode cL_used 4 = .ok (.iconst 0, 1) := by decide +kernel
theorem dL_used_5 : decode cL_used 5 = .ok (.iaload, 1) := by decide +kernel
theorem dL_used_6 : decode cL_used 6 = .ok (.if_icmp .ge 20, 3) := by decide +kernel
theorem dL_used_9 : decode cL_used 9 = .ok (.iload_n 3, 1) := by decide +kernel
theorem dL_used_10 : decode cL_used 10 = .ok (.iload_n 0, 1) := by decide +kernel
theorem dL_used_11 : decode cL_used 11 = .ok (.aload_n 2, 1) := by decide +kernel
theorem dL_used_12 : decode cL_used 12 = .ok (.invokestatic 14, 3) := by decide +kernel
theorem dL_used_15 : decode cL_used 15 = .ok (.ifCond .eq 5, 3) := by decide +kernel
theorem dL_used_18 : decode cL_used 18 = .ok (.iconst 1, 1) := by decide +kernel
theorem dL_used_19 : decode cL_used 19 = .ok (.ireturn, 1) := by decide +kernel
theorem dL_used_20 : decode cL_used 20 = .ok (.iinc 3 1, 3) := by decide +kernel
theorem dL_used_23 : decode cL_used 23 = .ok (.goto (-21), 3) := by decide +kernel
theorem dL_used_26 : decode cL_used 26 = .ok (.iconst 0, 1) := by decide +kernel
theorem dL_used_27 : decode cL_used 27 = .ok (.ireturn, 1) := by decide +kernel
theorem dL_driver_0 : decode cL_driver 0 = .ok (.iconst 0, 1) := by decide +kernel
theorem dL_driver_1 : decode cL_driver 1 = .ok (.istore_n 3, 1) := by decide +kernel
theorem dL_driver_2 : decode cL_driver 2 = .ok (.iload_n 3, 1) := by decide +kernel
theorem dL_driver_3 : decode cL_driver 3 = .ok (.aload_n 1, 1) := by decide +kernel
theorem dL_driver_4 : decode cL_driver 4 = .ok (.iconst 0, 1) := by decide +kernel
theorem dL_driver_5 : decode cL_driver 5 = .ok (.iaload, 1) := by decide +kernel
theorem dL_driver_6 : decode cL_driver 6 = .ok (.if_icmp .ge 51, 3) := by decide +kernel
theorem dL_driver_9 : decode cL_driver 9 = .ok (.iload_n 3, 1) := by decide +kernel
theorem dL_driver_10 : decode cL_driver 10 = .ok (.aload_n 2, 1) := by decide +kernel
theorem dL_driver_11 : decode cL_driver 11 = .ok (.invokestatic 8, 3) := by decide +kernel
theorem dL_driver_14 : decode cL_driver 14 = .ok (.iconst 1, 1) := by decide +kernel
theorem dL_driver_15 : decode cL_driver 15 = .ok (.if_icmp .ne 14, 3) := by decide +kernel
theorem dL_driver_18 : decode cL_driver 18 = .ok (.aload_n 2, 1) := by decide +kernel
theorem dL_driver_19 : decode cL_driver 19 = .ok (.iconst 4, 1) := by decide +kernel
theorem dL_driver_20 : decode cL_driver 20 = .ok (.iload_n 3, 1) := by decide +kernel
theorem dL_driver_21 : decode cL_driver 21 = .ok (.imul, 1) := by decide +kernel
theorem dL_driver_22 : decode cL_driver 22 = .ok (.iconst 1, 1) := by decide +kernel
theorem dL_driver_23 : decode cL_driver 23 = .ok (.iadd, 1) := by decide +kernel
theorem dL_driver_24 : decode cL_driver 24 = .ok (.iaload, 1) := by decide +kernel
theorem dL_driver_25 : decode cL_driver 25 = .ok (.iload_n 0, 1) := by decide +kernel
theorem dL_driver_26 : decode cL_driver 26 = .ok (.if_icmp .eq 23, 3) := by decide +kernel
theorem dL_driver_29 : decode cL_driver 29 = .ok (.iload_n 3, 1) := by decide +kernel
theorem dL_driver_30 : decode cL_driver 30 = .ok (.aload_n 2, 1) := by decide +kernel
theorem dL_driver_31 : decode cL_driver 31 = .ok (.invokestatic 8, 3) := by decide +kernel
theorem dL_driver_34 : decode cL_driver 34 = .ok (.iconst 2, 1) := by decide +kernel
theorem dL_driver_35 : decode cL_driver 35 = .ok (.if_icmp .ne 16, 3) := by decide +kernel
theorem dL_driver_38 : decode cL_driver 38 = .ok (.aload_n 2, 1) := by decide +kernel
theorem dL_driver_39 : decode cL_driver 39 = .ok (.iconst 4, 1) := by decide +kernel
theorem dL_driver_40 : decode cL_driver 40 = .ok (.iload_n 3, 1) := by decide +kernel
theorem dL_driver_41 : decode cL_driver 41 = .ok (.imul, 1) := by decide +kernel
theorem dL_driver_42 : decode cL_driver 42 = .ok (.iconst 3, 1) := by decide +kernel
theorem dL_driver_43 : decode cL_driver 43 = .ok (.iadd, 1) := by decide +kernel
theorem dL_driver_44 : decode cL_driver 44 = .ok (.iaload, 1) := by decide +kernel
theorem dL_driver_45 : decode cL_driver 45 = .ok (.iload_n 0, 1) := by decide +kernel
theorem dL_driver_46 : decode cL_driver 46 = .ok (.if_icmp .ne 5, 3) := by decide +kernel
theorem dL_driver_49 : decode cL_driver 49 = .ok (.iload_n 3, 1) := by decide +kernel
theorem dL_driver_50 : decode cL_driver 50 = .ok (.ireturn, 1) := by decide +kernel
theorem dL_driver_51 : decode cL_driver 51 = .ok (.iinc 3 1, 3) := by decide +kernel
theorem dL_driver_54 : decode cL_driver 54 = .ok (.goto (-52), 3) := by decide +kernel
theorem dL_driver_57 : decode cL_driver 57 = .ok (.iconst (-1), 1) := by decide +kernel
theorem dL_driver_58 : decode cL_driver 58 = .ok (.ireturn, 1) := by decide +kernel
theorem dL_amplifiers_0 : decode cL_amplifiers 0 = .ok (.iconst 0, 1) := by decide +kernel
theorem dL_amplifiers_1 : decode cL_amplifiers 1 = .ok (.istore_n 2, 1) := by decide +kernel
theorem dL_amplifiers_2 : decode cL_amplifiers 2 = .ok (.iconst 0, 1) := by decide +kernel
theorem dL_amplifiers_3 : decode cL_amplifiers 3 = .ok (.istore_n 3, 1) := by decide +kernel
theorem dL_amplifiers_4 : decode cL_amplifiers 4 = .ok (.iload_n 3, 1) := by decide +kernel
theorem dL_amplifiers_5 : decode cL_amplifiers 5 = .ok (.iload_n 0, 1) := by decide +kernel
theorem dL_amplifiers_6 : decode cL_amplifiers 6 = .ok (.if_icmp .ge 26, 3) := by decide +kernel
theorem dL_amplifiers_9 : decode cL_amplifiers 9 = .ok (.iload_n 2, 1) := by decide +kernel
theorem dL_amplifiers_10 : decode cL_amplifiers 10 = .ok (.iload_n 3, 1) := by decide +kernel
theorem dL_amplifiers_11 : decode cL_amplifiers 11 = .ok (.aload_n 1, 1) := by decide +kernel
theorem dL_amplifiers_12 : decode cL_amplifiers 12 = .ok (.invokestatic 8, 3) := by decide +kernel
theorem dL_amplifiers_15 : decode cL_amplifiers 15 = .ok (.iconst 2, 1) := by decide +kernel
theorem dL_amplifiers_16 : decode cL_amplifiers 16 = .ok (.if_icmp .ne 7, 3) := by decide +kernel
theorem dL_amplifiers_19 : decode cL_amplifiers 19 = .ok (.iconst 1, 1) := by decide +kernel
theorem dL_amplifiers_20 : decode cL_amplifiers 20 = .ok (.goto 4, 3) := by decide +kernel
theorem dL_amplifiers_23 : decode cL_amplifiers 23 = .ok (.iconst 0, 1) := by decide +kernel
theorem dL_amplifiers_24 : decode cL_amplifiers 24 = .ok (.iadd, 1) := by decide +kernel
theorem dL_amplifiers_25 : decode cL_amplifiers 25 = .ok (.istore_n 2, 1) := by decide +kernel
theorem dL_amplifiers_26 : decode cL_amplifiers 26 = .ok (.iinc 3 1, 3) := by decide +kernel
theorem dL_amplifiers_29 : decode cL_amplifiers 29 = .ok (.goto (-25), 3) := by decide +kernel
theorem dL_amplifiers_32 : decode cL_amplifiers 32 = .ok (.iload_n 2, 1) := by decide +kernel
theorem dL_amplifiers_33 : decode cL_amplifiers 33 = .ok (.ireturn, 1) := by decide +kernel
theorem dL_place_0 : decode cL_place 0 = .ok (.iconst 0, 1) := by decide +kernel
theorem dL_place_1 : decode cL_place 1 = .ok (.istore_n 3, 1) := by decide +kernel
theorem dL_place_2 : decode cL_place 2 = .ok (.iload_n 3, 1) := by decide +kernel
theorem dL_place_3 : decode cL_place 3 = .ok (.aload_n 1, 1) := by decide +kernel
theorem dL_place_4 : decode cL_place 4 = .ok (.iconst 0, 1) := by decide +kernel
theorem dL_place_5 : decode cL_place 5 = .ok (.iaload, 1) := by decide +kernel
theorem dL_place_6 : decode cL_place 6 = .ok (.if_icmp .ge 29, 3) := by decide +kernel
theorem dL_place_9 : decode cL_place 9 = .ok (.iload_n 3, 1) := by decide +kernel
theorem dL_place_10 : decode cL_place 10 = .ok (.aload_n 2, 1) := by decide +kernel
theorem dL_place_11 : decode cL_place 11 = .ok (.invokestatic 8, 3) := by decide +kernel
theorem dL_place_14 : decode cL_place 14 = .ok (.iconst 2, 1) := by decide +kernel
theorem dL_place_15 : decode cL_place 15 = .ok (.if_icmp .ne 14, 3) := by decide +kernel
theorem dL_place_18 : decode cL_place 18 = .ok (.iload_n 3, 1) := by decide +kernel
theorem dL_place_19 : decode cL_place 19 = .ok (.aload_n 2, 1) := by decide +kernel
theorem dL_place_20 : decode cL_place 20 = .ok (.invokestatic 18, 3) := by decide +kernel
theorem dL_place_23 : decode cL_place 23 = .ok (.iload_n 0, 1) := by decide +kernel
theorem dL_place_24 : decode cL_place 24 = .ok (.if_icmp .ne 5, 3) := by decide +kernel
theorem dL_place_27 : decode cL_place 27 = .ok (.iload_n 3, 1) := by decide +kernel
theorem dL_place_28 : decode cL_place 28 = .ok (.ireturn, 1) := by decide +kernel
theorem dL_place_29 : decode cL_place 29 = .ok (.iinc 3 1, 3) := by decide +kernel
theorem dL_place_32 : decode cL_place 32 = .ok (.goto (-30), 3) := by decide +kernel
theorem dL_place_35 : decode cL_place 35 = .ok (.iconst (-1), 1) := by decide +kernel
theorem dL_place_36 : decode cL_place 36 = .ok (.ireturn, 1) := by decide +kernel
theorem dL_power_0 : decode cL_power 0 = .ok (.iload_n 0, 1) := by decide +kernel
theorem dL_power_1 : decode cL_power 1 = .ok (.ifCond .ne 7, 3) := by decide +kernel
theorem dL_power_4 : decode cL_power 4 = .ok (.iconst 1, 1) := by decide +kernel
theorem dL_power_5 : decode cL_power 5 = .ok (.goto 24, 3) := by decide +kernel
theorem dL_power_8 : decode cL_power 8 = .ok (.iload_n 0, 1) := by decide +kernel
theorem dL_power_9 : decode cL_power 9 = .ok (.iconst 1, 1) := by decide +kernel
theorem dL_power_10 : decode cL_power 10 = .ok (.if_icmp .ne 7, 3) := by decide +kernel
theorem dL_power_13 : decode cL_power 13 = .ok (.iconst 3, 1) := by decide +kernel
theorem dL_power_14 : decode cL_power 14 = .ok (.goto 15, 3) := by decide +kernel
theorem dL_power_17 : decode cL_power 17 = .ok (.iload_n 0, 1) := by decide +kernel
theorem dL_power_18 : decode cL_power 18 = .ok (.iconst 2, 1) := by decide +kernel
theorem dL_power_19 : decode cL_power 19 = .ok (.if_icmp .ne 8, 3) := by decide +kernel
theorem dL_power_22 : decode cL_power 22 = .ok (.bipush 9, 2) := by decide +kernel
theorem dL_power_24 : decode cL_power 24 = .ok (.goto 5, 3) := by decide +kernel
theorem dL_power_27 : decode cL_power 27 = .ok (.bipush 27, 2) := by decide +kernel
theorem dL_power_29 : decode cL_power 29 = .ok (.ireturn, 1) := by decide +kernel
theorem dL_state_0 : decode cL_state 0 = .ok (.iload_n 0, 1) := by decide +kernel
theorem dL_state_1 : decode cL_state 1 = .ok (.iload_n 1, 1) := by decide +kernel
theorem dL_state_2 : decode cL_state 2 = .ok (.invokestatic 21, 3) := by decide +kernel
theorem dL_state_5 : decode cL_state 5 = .ok (.idiv, 1) := by decide +kernel
theorem dL_state_6 : decode cL_state 6 = .ok (.iconst 3, 1) := by decide +kernel
theorem dL_state_7 : decode cL_state 7 = .ok (.irem, 1) := by decide +kernel
theorem dL_state_8 : decode cL_state 8 = .ok (.ireturn, 1) := by decide +kernel
theorem dL_equations_0 : decode cL_equations 0 = .ok (.iconst 0, 1) := by decide +kernel
theorem dL_equations_1 : decode cL_equations 1 = .ok (.istore 5, 2) := by decide +kernel
theorem dL_equations_3 : decode cL_equations 3 = .ok (.iload 5, 2) := by decide +kernel
theorem dL_equations_5 : decode cL_equations 5 = .ok (.bipush 56, 2) := by decide +kernel
theorem dL_equations_7 : decode cL_equations 7 = .ok (.if_icmp .ge 15, 3) := by decide +kernel
theorem dL_equations_10 : decode cL_equations 10 = .ok (.aload 4, 2) := by decide +kernel
theorem dL_equations_12 : decode cL_equations 12 = .ok (.iload 5, 2) := by decide +kernel
theorem dL_equations_14 : decode cL_equations 14 = .ok (.lconst 0, 1) := by decide +kernel
theorem dL_equations_15 : decode cL_equations 15 = .ok (.lastore, 1) := by decide +kernel
theorem dL_equations_16 : decode cL_equations 16 = .ok (.iinc 5 1, 3) := by decide +kernel
theorem dL_equations_19 : decode cL_equations 19 = .ok (.goto (-16), 3) := by decide +kernel
theorem dL_equations_22 : decode cL_equations 22 = .ok (.iconst 0, 1) := by decide +kernel
theorem dL_equations_23 : decode cL_equations 23 = .ok (.istore 5, 2) := by decide +kernel
theorem dL_equations_25 : decode cL_equations 25 = .ok (.iload 5, 2) := by decide +kernel
theorem dL_equations_27 : decode cL_equations 27 = .ok (.bipush 7, 2) := by decide +kernel
theorem dL_equations_29 : decode cL_equations 29 = .ok (.if_icmp .ge 342, 3) := by decide +kernel
theorem dL_equations_32 : decode cL_equations 32 = .ok (.bipush 8, 2) := by decide +kernel
theorem dL_equations_34 : decode cL_equations 34 = .ok (.iload 5, 2) := by decide +kernel
theorem dL_equations_36 : decode cL_equations 36 = .ok (.imul, 1) := by decide +kernel
theorem dL_equations_37 : decode cL_equations 37 = .ok (.istore 6, 2) := by decide +kernel
theorem dL_equations_39 : decode cL_equations 39 = .ok (.iload 5, 2) := by decide +kernel
theorem dL_equations_41 : decode cL_equations 41 = .ok (.aload_n 2, 1) := by decide +kernel
theorem dL_equations_42 : decode cL_equations 42 = .ok (.aload_n 3, 1) := by decide +kernel
theorem dL_equations_43 : decode cL_equations 43 = .ok (.invokestatic 25, 3) := by decide +kernel
theorem dL_equations_46 : decode cL_equations 46 = .ok (.istore 7, 2) := by decide +kernel
theorem dL_equations_48 : decode cL_equations 48 = .ok (.iload 5, 2) := by decide +kernel
theorem dL_equations_50 : decode cL_equations 50 = .ok (.ifCond .eq 13, 3) := by decide +kernel
theorem dL_equations_53 : decode cL_equations 53 = .ok (.iload 5, 2) := by decide +kernel
theorem dL_equations_55 : decode cL_equations 55 = .ok (.aload_n 2, 1) := by decide +kernel
theorem dL_equations_56 : decode cL_equations 56 = .ok (.aload_n 3, 1) := by decide +kernel
theorem dL_equations_57 : decode cL_equations 57 = .ok (.invokestatic 29, 3) := by decide +kernel
theorem dL_equations_60 : decode cL_equations 60 = .ok (.ifCond .ne 15, 3) := by decide +kernel
theorem dL_equations_63 : decode cL_equations 63 = .ok (.aload 4, 2) := by decide +kernel
theorem dL_equations_65 : decode cL_equations 65 = .ok (.iload 6, 2) := by decide +kernel
theorem dL_equations_67 : decode cL_equations 67 = .ok (.iload 5, 2) := by decide +kernel
theorem dL_equations_69 : decode cL_equations 69 = .ok (.iadd, 1) := by decide +kernel
theorem dL_equations_70 : decode cL_equations 70 = .ok (.lconst 1, 1) := by decide +kernel
theorem dL_equations_71 : decode cL_equations 71 = .ok (.lastore, 1) := by decide +kernel
theorem dL_equations_72 : decode cL_equations 72 = .ok (.goto 293, 3) := by decide +kernel
theorem dL_equations_75 : decode cL_equations 75 = .ok (.iload 7, 2) := by decide +kernel
theorem dL_equations_77 : decode cL_equations 77 = .ok (.ifCond .lt 50, 3) := by decide +kernel
theorem dL_equations_80 : decode cL_equations 80 = .ok (.iload 7, 2) := by decide +kernel
theorem dL_equations_82 : decode cL_equations 82 = .ok (.aload_n 3, 1) := by decide +kernel
theorem dL_equations_83 : decode cL_equations 83 = .ok (.invokestatic 8, 3) := by decide +kernel
theorem dL_equations_86 : decode cL_equations 86 = .ok (.iconst 1, 1) := by decide +kernel
theorem dL_equations_87 : decode cL_equations 87 = .ok (.if_icmp .ne 40, 3) := by decide +kernel
theorem dL_equations_90 : decode cL_equations 90 = .ok (.aload 4, 2) := by decide +kernel
theorem dL_equations_92 : decode cL_equations 92 = .ok (.iload 6, 2) := by decide +kernel
theorem dL_equations_94 : decode cL_equations 94 = .ok (.iload 5, 2) := by decide +kernel
theorem dL_equations_96 : decode cL_equations 96 = .ok (.iadd, 1) := by decide +kernel
theorem dL_equations_97 : decode cL_equations 97 = .ok (.lconst 1, 1) := by decide +kernel
theorem dL_equations_98 : decode cL_equations 98 = .ok (.lastore, 1) := by decide +kernel
theorem dL_equations_99 : decode cL_equations 99 = .ok (.aload 4, 2) := by decide +kernel
theorem dL_equations_101 : decode cL_equations 101 = .ok (.iload 6, 2) := by decide +kernel
theorem dL_equations_103 : decode cL_equations 103 = .ok (.bipush 7, 2) := by decide +kernel
theorem dL_equations_105 : decode cL_equations 105 = .ok (.iadd, 1) := by decide +kernel
theorem dL_equations_106 : decode cL_equations 106 = .ok (.iload_n 1, 1) := by decide +kernel
theorem dL_equations_107 : decode cL_equations 107 = .ok (.ifCond .ge 15, 3) := by decide +kernel
theorem dL_equations_110 : decode cL_equations 110 = .ok (.aload_n 3, 1) := by decide +kernel
theorem dL_equations_111 : decode cL_equations 111 = .ok (.iconst 4, 1) := by decide +kernel
theorem dL_equations_112 : decode cL_equations 112 = .ok (.iload 7, 2) := by decide +kernel
theorem dL_equations_114 : decode cL_equations 114 = .ok (.imul, 1) := by decide +kernel
theorem dL_equations_115 : decode cL_equations 115 = .ok (.iconst 3, 1) := by decide +kernel
theorem dL_equations_116 : decode cL_equations 116 = .ok (.iadd, 1) := by decide +kernel
theorem dL_equations_117 : decode cL_equations 117 = .ok (.iaload, 1) := by decide +kernel
theorem dL_equations_118 : decode cL_equations 118 = .ok (.i2l, 1) := by decide +kernel
theorem dL_equations_119 : decode cL_equations 119 = .ok (.goto 4, 3) := by decide +kernel
theorem dL_equations_122 : decode cL_equations 122 = .ok (.lconst 0, 1) := by decide +kernel
theorem dL_equations_123 : decode cL_equations 123 = .ok (.lastore, 1) := by decide +kernel
theorem dL_equations_124 : decode cL_equations 124 = .ok (.goto 241, 3) := by decide +kernel
theorem dL_equations_127 : decode cL_equations 127 = .ok (.iload 7, 2) := by decide +kernel
theorem dL_equations_129 : decode cL_equations 129 = .ok (.ifCond .lt 125, 3) := by decide +kernel
theorem dL_equations_132 : decode cL_equations 132 = .ok (.iload 7, 2) := by decide +kernel
theorem dL_equations_134 : decode cL_equations 134 = .ok (.aload_n 3, 1) := by decide +kernel
theorem dL_equations_135 : decode cL_equations 135 = .ok (.invokestatic 18, 3) := by decide +kernel
theorem dL_equations_138 : decode cL_equations 138 = .ok (.istore 8, 2) := by decide +kernel
theorem dL_equations_140 : decode cL_equations 140 = .ok (.iload 8, 2) := by decide +kernel
theorem dL_equations_142 : decode cL_equations 142 = .ok (.iload_n 1, 1) := by decide +kernel
theorem dL_equations_143 : decode cL_equations 143 = .ok (.if_icmp .eq 51, 3) := by decide +kernel
theorem dL_equations_146 : decode cL_equations 146 = .ok (.iload_n 0, 1) := by decide +kernel
theorem dL_equations_147 : decode cL_equations 147 = .ok (.iload 8, 2) := by decide +kernel
theorem dL_equations_149 : decode cL_equations 149 = .ok (.invokestatic 33, 3) := by decide +kernel
theorem dL_equations_152 : decode cL_equations 152 = .ok (.ifCond .ne 42, 3) := by decide +kernel
theorem dL_equations_155 : decode cL_equations 155 = .ok (.aload 4, 2) := by decide +kernel
theorem dL_equations_157 : decode cL_equations 157 = .ok (.iload 6, 2) := by decide +kernel
theorem dL_equations_159 : decode cL_equations 159 = .ok (.aload_n 3, 1) := by decide +kernel
theorem dL_equations_160 : decode cL_equations 160 = .ok (.iconst 4, 1) := by decide +kernel
theorem dL_equations_161 : decode cL_equations 161 = .ok (.iload 7, 2) := by decide +kernel
theorem dL_equations_163 : decode cL_equations 163 = .ok (.imul, 1) := by decide +kernel
theorem dL_equations_164 : decode cL_equations 164 = .ok (.iconst 1, 1) := by decide +kernel
theorem dL_equations_165 : decode cL_equations 165 = .ok (.iadd, 1) := by decide +kernel
theorem dL_equations_166 : decode cL_equations 166 = .ok (.iaload, 1) := by decide +kernel
theorem dL_equations_167 : decode cL_equations 167 = .ok (.iadd, 1) := by decide +kernel
theorem dL_equations_168 : decode cL_equations 168 = .ok (.dup2, 1) := by decide +kernel
theorem dL_equations_169 : decode cL_equations 169 = .ok (.laload, 1) := by decide +kernel
theorem dL_equations_170 : decode cL_equations 170 = .ok (.lconst 1, 1) := by decide +kernel
theorem dL_equations_171 : decode cL_equations 171 = .ok (.ladd, 1) := by decide +kernel
theorem dL_equations_172 : decode cL_equations 172 = .ok (.lastore, 1) := by decide +kernel
theorem dL_equations_173 : decode cL_equations 173 = .ok (.aload 4, 2) := by decide +kernel
theorem dL_equations_175 : decode cL_equations 175 = .ok (.iload 6, 2) := by decide +kernel
theorem dL_equations_177 : decode cL_equations 177 = .ok (.aload_n 3, 1) := by decide +kernel
theorem dL_equations_178 : decode cL_equations 178 = .ok (.iconst 4, 1) := by decide +kernel
theorem dL_equations_179 : decode cL_equations 179 = .ok (.iload 7, 2) := by decide +kernel
theorem dL_equations_181 : decode cL_equations 181 = .ok (.imul, 1) := by decide +kernel
theorem dL_equations_182 : decode cL_equations 182 = .ok (.iconst 2, 1) := by decide +kernel
theorem dL_equations_183 : decode cL_equations 183 = .ok (.iadd, 1) := by decide +kernel
theorem dL_equations_184 : decode cL_equations 184 = .ok (.iaload, 1) := by decide +kernel
theorem dL_equations_185 : decode cL_equations 185 = .ok (.iadd, 1) := by decide +kernel
theorem dL_equations_186 : decode cL_equations 186 = .ok (.dup2, 1) := by decide +kernel
theorem dL_equations_187 : decode cL_equations 187 = .ok (.laload, 1) := by decide +kernel
theorem dL_equations_188 : decode cL_equations 188 = .ok (.lconst 1, 1) := by decide +kernel
theorem dL_equations_189 : decode cL_equations 189 = .ok (.lsub, 1) := by decide +kernel
theorem dL_equations_190 : decode cL_equations 190 = .ok (.lastore, 1) := by decide +kernel
theorem dL_equations_191 : decode cL_equations 191 = .ok (.goto 60, 3) := by decide +kernel
theorem dL_equations_194 : decode cL_equations 194 = .ok (.aload 4, 2) := by decide +kernel
theorem dL_equations_196 : decode cL_equations 196 = .ok (.iload 6, 2) := by decide +kernel
theorem dL_equations_198 : decode cL_equations 198 = .ok (.iload 5, 2) := by decide +kernel
theorem dL_equations_200 : decode cL_equations 200 = .ok (.iadd, 1) := by decide +kernel
theorem dL_equations_201 : decode cL_equations 201 = .ok (.lconst 1, 1) := by decide +kernel
theorem dL_equations_202 : decode cL_equations 202 = .ok (.lastore, 1) := by decide +kernel
theorem dL_equations_203 : decode cL_equations 203 = .ok (.aload 4, 2) := by decide +kernel
theorem dL_equations_205 : decode cL_equations 205 = .ok (.iload 6, 2) := by decide +kernel
theorem dL_equations_207 : decode cL_equations 207 = .ok (.bipush 7, 2) := by decide +kernel
theorem dL_equations_209 : decode cL_equations 209 = .ok (.iadd, 1) := by decide +kernel
theorem dL_equations_210 : decode cL_equations 210 = .ok (.iload 8, 2) := by decide +kernel
theorem dL_equations_212 : decode cL_equations 212 = .ok (.iload_n 1, 1) := by decide +kernel
theorem dL_equations_213 : decode cL_equations 213 = .ok (.if_icmp .ne 7, 3) := by decide +kernel
theorem dL_equations_216 : decode cL_equations 216 = .ok (.lconst 1, 1) := by decide +kernel
theorem dL_equations_217 : decode cL_equations 217 = .ok (.goto 33, 3) := by decide +kernel
theorem dL_equations_220 : decode cL_equations 220 = .ok (.iload_n 1, 1) := by decide +kernel
theorem dL_equations_221 : decode cL_equations 221 = .ok (.ifCond .lt 7, 3) := by decide +kernel
theorem dL_equations_224 : decode cL_equations 224 = .ok (.lconst 0, 1) := by decide +kernel
theorem dL_equations_225 : decode cL_equations 225 = .ok (.goto 25, 3) := by decide +kernel
theorem dL_equations_228 : decode cL_equations 228 = .ok (.iload_n 0, 1) := by decide +kernel
theorem dL_equations_229 : decode cL_equations 229 = .ok (.iload 8, 2) := by decide +kernel
theorem dL_equations_231 : decode cL_equations 231 = .ok (.invokestatic 33, 3) := by decide +kernel
theorem dL_equations_234 : decode cL_equations 234 = .ok (.iconst 1, 1) := by decide +kernel
theorem dL_equations_235 : decode cL_equations 235 = .ok (.if_icmp .ne 10, 3) := by decide +kernel
theorem dL_equations_238 : decode cL_equations 238 = .ok (.aload_n 2, 1) := by decide +kernel
theorem dL_equations_239 : decode cL_equations 239 = .ok (.iconst 1, 1) := by decide +kernel
theorem dL_equations_240 : decode cL_equations 240 = .ok (.iaload, 1) := by decide +kernel
theorem dL_equations_241 : decode cL_equations 241 = .ok (.i2l, 1) := by decide +kernel
theorem dL_equations_242 : decode cL_equations 242 = .ok (.goto 8, 3) := by decide +kernel
theorem dL_equations_245 : decode cL_equations 245 = .ok (.aload_n 2, 1) := by decide +kernel
theorem dL_equations_246 : decode cL_equations 246 = .ok (.iconst 1, 1) := by decide +kernel
theorem dL_equations_247 : decode cL_equations 247 = .ok (.iaload, 1) := by decide +kernel
theorem dL_equations_248 : decode cL_equations 248 = .ok (.ineg, 1) := by decide +kernel
theorem dL_equations_249 : decode cL_equations 249 = .ok (.i2l, 1) := by decide +kernel
theorem dL_equations_250 : decode cL_equations 250 = .ok (.lastore, 1) := by decide +kernel
theorem dL_equations_251 : decode cL_equations 251 = .ok (.goto 114, 3) := by decide +kernel
theorem dL_equations_254 : decode cL_equations 254 = .ok (.iconst 0, 1) := by decide +kernel
theorem dL_equations_255 : decode cL_equations 255 = .ok (.istore 8, 2) := by decide +kernel
theorem dL_equations_257 : decode cL_equations 257 = .ok (.iload 8, 2) := by decide +kernel
theorem dL_equations_259 : decode cL_equations 259 = .ok (.aload_n 2, 1) := by decide +kernel
theorem dL_equations_260 : decode cL_equations 260 = .ok (.iconst 0, 1) := by decide +kernel
theorem dL_equations_261 : decode cL_equations 261 = .ok (.iaload, 1) := by decide +kernel
theorem dL_equations_262 : decode cL_equations 262 = .ok (.if_icmp .ge 103, 3) := by decide +kernel
theorem dL_equations_265 : decode cL_equations 265 = .ok (.iload 8, 2) := by decide +kernel
theorem dL_equations_267 : decode cL_equations 267 = .ok (.aload_n 3, 1) := by decide +kernel
theorem dL_equations_268 : decode cL_equations 268 = .ok (.invokestatic 8, 3) := by decide +kernel
theorem dL_equations_271 : decode cL_equations 271 = .ok (.ifCond .ne 88, 3) := by decide +kernel
theorem dL_equations_274 : decode cL_equations 274 = .ok (.iload 8, 2) := by decide +kernel
theorem dL_equations_276 : decode cL_equations 276 = .ok (.iload 5, 2) := by decide +kernel
theorem dL_equations_278 : decode cL_equations 278 = .ok (.aload_n 3, 1) := by decide +kernel
theorem dL_equations_279 : decode cL_equations 279 = .ok (.invokestatic 14, 3) := by decide +kernel
theorem dL_equations_282 : decode cL_equations 282 = .ok (.ifCond .eq 77, 3) := by decide +kernel
theorem dL_equations_285 : decode cL_equations 285 = .ok (.aload_n 3, 1) := by decide +kernel
theorem dL_equations_286 : decode cL_equations 286 = .ok (.iconst 4, 1) := by decide +kernel
theorem dL_equations_287 : decode cL_equations 287 = .ok (.iload 8, 2) := by decide +kernel
theorem dL_equations_289 : decode cL_equations 289 = .ok (.imul, 1) := by decide +kernel
theorem dL_equations_290 : decode cL_equations 290 = .ok (.iconst 1, 1) := by decide +kernel
theorem dL_equations_291 : decode cL_equations 291 = .ok (.iadd, 1) := by decide +kernel
theorem dL_equations_292 : decode cL_equations 292 = .ok (.iaload, 1) := by decide +kernel
theorem dL_equations_293 : decode cL_equations 293 = .ok (.iload 5, 2) := by decide +kernel
theorem dL_equations_295 : decode cL_equations 295 = .ok (.if_icmp .ne 14, 3) := by decide +kernel
theorem dL_equations_298 : decode cL_equations 298 = .ok (.aload_n 3, 1) := by decide +kernel
theorem dL_equations_299 : decode cL_equations 299 = .ok (.iconst 4, 1) := by decide +kernel
theorem dL_equations_300 : decode cL_equations 300 = .ok (.iload 8, 2) := by decide +kernel
theorem dL_equations_302 : decode cL_equations 302 = .ok (.imul, 1) := by decide +kernel
theorem dL_equations_303 : decode cL_equations 303 = .ok (.iconst 2, 1) := by decide +kernel
theorem dL_equations_304 : decode cL_equations 304 = .ok (.iadd, 1) := by decide +kernel
theorem dL_equations_305 : decode cL_equations 305 = .ok (.iaload, 1) := by decide +kernel
theorem dL_equations_306 : decode cL_equations 306 = .ok (.goto 11, 3) := by decide +kernel
theorem dL_equations_309 : decode cL_equations 309 = .ok (.aload_n 3, 1) := by decide +kernel
theorem dL_equations_310 : decode cL_equations 310 = .ok (.iconst 4, 1) := by decide +kernel
theorem dL_equations_311 : decode cL_equations 311 = .ok (.iload 8, 2) := by decide +kernel
theorem dL_equations_313 : decode cL_equations 313 = .ok (.imul, 1) := by decide +kernel
theorem dL_equations_314 : decode cL_equations 314 = .ok (.iconst 1, 1) := by decide +kernel
theorem dL_equations_315 : decode cL_equations 315 = .ok (.iadd, 1) := by decide +kernel
theorem dL_equations_316 : decode cL_equations 316 = .ok (.iaload, 1) := by decide +kernel
theorem dL_equations_317 : decode cL_equations 317 = .ok (.istore 9, 2) := by decide +kernel
theorem dL_equations_319 : decode cL_equations 319 = .ok (.aload 4, 2) := by decide +kernel
theorem dL_equations_321 : decode cL_equations 321 = .ok (.iload 6, 2) := by decide +kernel
theorem dL_equations_323 : decode cL_equations 323 = .ok (.iload 5, 2) := by decide +kernel
theorem dL_equations_325 : decode cL_equations 325 = .ok (.iadd, 1) := by decide +kernel
theorem dL_equations_326 : decode cL_equations 326 = .ok (.dup2, 1) := by decide +kernel
theorem dL_equations_327 : decode cL_equations 327 = .ok (.laload, 1) := by decide +kernel
theorem dL_equations_328 : decode cL_equations 328 = .ok (.aload_n 3, 1) := by decide +kernel
theorem dL_equations_329 : decode cL_equations 329 = .ok (.iconst 4, 1) := by decide +kernel
theorem dL_equations_330 : decode cL_equations 330 = .ok (.iload 8, 2) := by decide +kernel
theorem dL_equations_332 : decode cL_equations 332 = .ok (.imul, 1) := by decide +kernel
theorem dL_equations_333 : decode cL_equations 333 = .ok (.iconst 3, 1) := by decide +kernel
theorem dL_equations_334 : decode cL_equations 334 = .ok (.iadd, 1) := by decide +kernel
theorem dL_equations_335 : decode cL_equations 335 = .ok (.iaload, 1) := by decide +kernel
theorem dL_equations_336 : decode cL_equations 336 = .ok (.i2l, 1) := by decide +kernel
theorem dL_equations_337 : decode cL_equations 337 = .ok (.ladd, 1) := by decide +kernel
theorem dL_equations_338 : decode cL_equations 338 = .ok (.lastore, 1) := by decide +kernel
theorem dL_equations_339 : decode cL_equations 339 = .ok (.aload 4, 2) := by decide +kernel
theorem dL_equations_341 : decode cL_equations 341 = .ok (.iload 6, 2) := by decide +kernel
theorem dL_equations_343 : decode cL_equations 343 = .ok (.iload 9, 2) := by decide +kernel
theorem dL_equations_345 : decode cL_equations 345 = .ok (.iadd, 1) := by decide +kernel
theorem dL_equations_346 : decode cL_equations 346 = .ok (.dup2, 1) := by decide +kernel
theorem dL_equations_347 : decode cL_equations 347 = .ok (.laload, 1) := by decide +kernel
theorem dL_equations_348 : decode cL_equations 348 = .ok (.aload_n 3, 1) := by decide +kernel
theorem dL_equations_349 : decode cL_equations 349 = .ok (.iconst 4, 1) := by decide +kernel
theorem dL_equations_350 : decode cL_equations 350 = .ok (.iload 8, 2) := by decide +kernel
theorem dL_equations_352 : decode cL_equations 352 = .ok (.imul, 1) := by decide +kernel
theorem dL_equations_353 : decode cL_equations 353 = .ok (.iconst 3, 1) := by decide +kernel
theorem dL_equations_354 : decode cL_equations 354 = .ok (.iadd, 1) := by decide +kernel
theorem dL_equations_355 : decode cL_equations 355 = .ok (.iaload, 1) := by decide +kernel
theorem dL_equations_356 : decode cL_equations 356 = .ok (.i2l, 1) := by decide +kernel
theorem dL_equations_357 : decode cL_equations 357 = .ok (.lsub, 1) := by decide +kernel
theorem dL_equations_358 : decode cL_equations 358 = .ok (.lastore, 1) := by decide +kernel
theorem dL_equations_359 : decode cL_equations 359 = .ok (.iinc 8 1, 3) := by decide +kernel
theorem dL_equations_362 : decode cL_equations 362 = .ok (.goto (-105), 3) := by decide +kernel
theorem dL_equations_365 : decode cL_equations 365 = .ok (.iinc 5 1, 3) := by decide +kernel
theorem dL_equations_368 : decode cL_equations 368 = .ok (.goto (-343), 3) := by decide +kernel
theorem dL_equations_371 : decode cL_equations 371 = .ok (.return_, 1) := by decide +kernel
theorem dL_solve_0 : decode cL_solve 0 = .ok (.iconst 0, 1) := by decide +kernel
theorem dL_solve_1 : decode cL_solve 1 = .ok (.istore_n 1, 1) := by decide +kernel
theorem dL_solve_2 : decode cL_solve 2 = .ok (.iload_n 1, 1) := by decide +kernel
theorem dL_solve_3 : decode cL_solve 3 = .ok (.bipush 7, 2) := by decide +kernel
theorem dL_solve_5 : decode cL_solve 5 = .ok (.if_icmp .ge 284, 3) := by decide +kernel
theorem dL_solve_8 : decode cL_solve 8 = .ok (.iconst (-1), 1) := by decide +kernel
theorem dL_solve_9 : decode cL_solve 9 = .ok (.istore_n 2, 1) := by decide +kernel
theorem dL_solve_10 : decode cL_solve 10 = .ok (.bipush 6, 2) := by decide +kernel
theorem dL_solve_12 : decode cL_solve 12 = .ok (.istore_n 3, 1) := by decide +kernel
theorem dL_solve_13 : decode cL_solve 13 = .ok (.iload_n 3, 1) := by decide +kernel
theorem dL_solve_14 : decode cL_solve 14 = .ok (.iload_n 1, 1) := by decide +kernel
theorem dL_solve_15 : decode cL_solve 15 = .ok (.if_icmp .lt 24, 3) := by decide +kernel
theorem dL_solve_18 : decode cL_solve 18 = .ok (.aload_n 0, 1) := by decide +kernel
theorem dL_solve_19 : decode cL_solve 19 = .ok (.bipush 8, 2) := by decide +kernel
theorem dL_solve_21 : decode cL_solve 21 = .ok (.iload_n 3, 1) := by decide +kernel
theorem dL_solve_22 : decode cL_solve 22 = .ok (.imul, 1) := by decide +kernel
theorem dL_solve_23 : decode cL_solve 23 = .ok (.iload_n 1, 1) := by decide +kernel
theorem dL_solve_24 : decode cL_solve 24 = .ok (.iadd, 1) := by decide +kernel
theorem dL_solve_25 : decode cL_solve 25 = .ok (.laload, 1) := by decide +kernel
theorem dL_solve_26 : decode cL_solve 26 = .ok (.lconst 0, 1) := by decide +kernel
theorem dL_solve_27 : decode cL_solve 27 = .ok (.lcmp, 1) := by decide +kernel
theorem dL_solve_28 : decode cL_solve 28 = .ok (.ifCond .eq 5, 3) := by decide +kernel
theorem dL_solve_31 : decode cL_solve 31 = .ok (.iload_n 3, 1) := by decide +kernel
theorem dL_solve_32 : decode cL_solve 32 = .ok (.istore_n 2, 1) := by decide +kernel
theorem dL_solve_33 : decode cL_solve 33 = .ok (.iinc 3 (-1), 3) := by decide +kernel
theorem dL_solve_36 : decode cL_solve 36 = .ok (.goto (-23), 3) := by decide +kernel
theorem dL_solve_39 : decode cL_solve 39 = .ok (.iload_n 2, 1) := by decide +kernel
theorem dL_solve_40 : decode cL_solve 40 = .ok (.ifCond .ge 5, 3) := by decide +kernel
theorem dL_solve_43 : decode cL_solve 43 = .ok (.iconst 0, 1) := by decide +kernel
theorem dL_solve_44 : decode cL_solve 44 = .ok (.ireturn, 1) := by decide +kernel
theorem dL_solve_45 : decode cL_solve 45 = .ok (.iconst 0, 1) := by decide +kernel
theorem dL_solve_46 : decode cL_solve 46 = .ok (.istore_n 3, 1) := by decide +kernel
theorem dL_solve_47 : decode cL_solve 47 = .ok (.iload_n 3, 1) := by decide +kernel
theorem dL_solve_48 : decode cL_solve 48 = .ok (.bipush 8, 2) := by decide +kernel
theorem dL_solve_50 : decode cL_solve 50 = .ok (.if_icmp .ge 45, 3) := by decide +kernel
theorem dL_solve_53 : decode cL_solve 53 = .ok (.aload_n 0, 1) := by decide +kernel
theorem dL_solve_54 : decode cL_solve 54 = .ok (.bipush 8, 2) := by decide +kernel
theorem dL_solve_56 : decode cL_solve 56 = .ok (.iload_n 1, 1) := by decide +kernel
theorem dL_solve_57 : decode cL_solve 57 = .ok (.imul, 1) := by decide +kernel
theorem dL_solve_58 : decode cL_solve 58 = .ok (.iload_n 3, 1) := by decide +kernel
theorem dL_solve_59 : decode cL_solve 59 = .ok (.iadd, 1) := by decide +kernel
theorem dL_solve_60 : decode cL_solve 60 = .ok (.laload, 1) := by decide +kernel
theorem dL_solve_61 : decode cL_solve 61 = .ok (.lstore 4, 2) := by decide +kernel
theorem dL_solve_63 : decode cL_solve 63 = .ok (.aload_n 0, 1) := by decide +kernel
theorem dL_solve_64 : decode cL_solve 64 = .ok (.bipush 8, 2) := by decide +kernel
theorem dL_solve_66 : decode cL_solve 66 = .ok (.iload_n 1, 1) := by decide +kernel
theorem dL_solve_67 : decode cL_solve 67 = .ok (.imul, 1) := by decide +kernel
theorem dL_solve_68 : decode cL_solve 68 = .ok (.iload_n 3, 1) := by decide +kernel
theorem dL_solve_69 : decode cL_solve 69 = .ok (.iadd, 1) := by decide +kernel
theorem dL_solve_70 : decode cL_solve 70 = .ok (.aload_n 0, 1) := by decide +kernel
theorem dL_solve_71 : decode cL_solve 71 = .ok (.bipush 8, 2) := by decide +kernel
theorem dL_solve_73 : decode cL_solve 73 = .ok (.iload_n 2, 1) := by decide +kernel
theorem dL_solve_74 : decode cL_solve 74 = .ok (.imul, 1) := by decide +kernel
theorem dL_solve_75 : decode cL_solve 75 = .ok (.iload_n 3, 1) := by decide +kernel
theorem dL_solve_76 : decode cL_solve 76 = .ok (.iadd, 1) := by decide +kernel
theorem dL_solve_77 : decode cL_solve 77 = .ok (.laload, 1) := by decide +kernel
theorem dL_solve_78 : decode cL_solve 78 = .ok (.lastore, 1) := by decide +kernel
theorem dL_solve_79 : decode cL_solve 79 = .ok (.aload_n 0, 1) := by decide +kernel
theorem dL_solve_80 : decode cL_solve 80 = .ok (.bipush 8, 2) := by decide +kernel
theorem dL_solve_82 : decode cL_solve 82 = .ok (.iload_n 2, 1) := by decide +kernel
theorem dL_solve_83 : decode cL_solve 83 = .ok (.imul, 1) := by decide +kernel
theorem dL_solve_84 : decode cL_solve 84 = .ok (.iload_n 3, 1) := by decide +kernel
theorem dL_solve_85 : decode cL_solve 85 = .ok (.iadd, 1) := by decide +kernel
theorem dL_solve_86 : decode cL_solve 86 = .ok (.lload 4, 2) := by decide +kernel
theorem dL_solve_88 : decode cL_solve 88 = .ok (.lastore, 1) := by decide +kernel
theorem dL_solve_89 : decode cL_solve 89 = .ok (.iinc 3 1, 3) := by decide +kernel
theorem dL_solve_92 : decode cL_solve 92 = .ok (.goto (-45), 3) := by decide +kernel
theorem dL_solve_95 : decode cL_solve 95 = .ok (.iconst 0, 1) := by decide +kernel
theorem dL_solve_96 : decode cL_solve 96 = .ok (.istore_n 3, 1) := by decide +kernel
theorem dL_solve_97 : decode cL_solve 97 = .ok (.iload_n 3, 1) := by decide +kernel
theorem dL_solve_98 : decode cL_solve 98 = .ok (.bipush 7, 2) := by decide +kernel
theorem dL_solve_100 : decode cL_solve 100 = .ok (.if_icmp .ge 183, 3) := by decide +kernel
theorem dL_solve_103 : decode cL_solve 103 = .ok (.iload_n 3, 1) := by decide +kernel
theorem dL_solve_104 : decode cL_solve 104 = .ok (.iload_n 1, 1) := by decide +kernel
theorem dL_solve_105 : decode cL_solve 105 = .ok (.if_icmp .eq 172, 3) := by decide +kernel
theorem dL_solve_108 : decode cL_solve 108 = .ok (.aload_n 0, 1) := by decide +kernel
theorem dL_solve_109 : decode cL_solve 109 = .ok (.bipush 8, 2) := by decide +kernel
theorem dL_solve_111 : decode cL_solve 111 = .ok (.iload_n 3, 1) := by decide +kernel
theorem dL_solve_112 : decode cL_solve 112 = .ok (.imul, 1) := by decide +kernel
theorem dL_solve_113 : decode cL_solve 113 = .ok (.iload_n 1, 1) := by decide +kernel
theorem dL_solve_114 : decode cL_solve 114 = .ok (.iadd, 1) := by decide +kernel
theorem dL_solve_115 : decode cL_solve 115 = .ok (.laload, 1) := by decide +kernel
theorem dL_solve_116 : decode cL_solve 116 = .ok (.lconst 0, 1) := by decide +kernel
theorem dL_solve_117 : decode cL_solve 117 = .ok (.lcmp, 1) := by decide +kernel
theorem dL_solve_118 : decode cL_solve 118 = .ok (.ifCond .ne 6, 3) := by decide +kernel
theorem dL_solve_121 : decode cL_solve 121 = .ok (.goto 156, 3) := by decide +kernel
theorem dL_solve_124 : decode cL_solve 124 = .ok (.aload_n 0, 1) := by decide +kernel
