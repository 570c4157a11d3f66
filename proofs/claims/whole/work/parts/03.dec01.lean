theorem dX5_acceptsInValue_23 : decode cX5_acceptsInValue 23 = .ok (.if_icmp .lt 13, 3) := by decide +kernel
theorem dX5_acceptsInValue_26 : decode cX5_acceptsInValue 26 = .ok (.iload_n 1, 1) := by decide +kernel
theorem dX5_acceptsInValue_27 : decode cX5_acceptsInValue 27 = .ok (.bipush 57, 2) := by decide +kernel
theorem dX5_acceptsInValue_29 : decode cX5_acceptsInValue 29 = .ok (.if_icmp .gt 7, 3) := by decide +kernel
theorem dX5_acceptsInValue_32 : decode cX5_acceptsInValue 32 = .ok (.iload_n 2, 1) := by decide +kernel
theorem dX5_acceptsInValue_33 : decode cX5_acceptsInValue 33 = .ok (.ifCond .eq 5, 3) := by decide +kernel
theorem dX5_acceptsInValue_36 : decode cX5_acceptsInValue 36 = .ok (.iconst 0, 1) := by decide +kernel
theorem dX5_acceptsInValue_37 : decode cX5_acceptsInValue 37 = .ok (.ireturn, 1) := by decide +kernel
theorem dX5_acceptsInValue_38 : decode cX5_acceptsInValue 38 = .ok (.aload_n 0, 1) := by decide +kernel
theorem dX5_acceptsInValue_39 : decode cX5_acceptsInValue 39 = .ok (.bipush 10, 2) := by decide +kernel
theorem dX5_acceptsInValue_41 : decode cX5_acceptsInValue 41 = .ok (.aload_n 0, 1) := by decide +kernel
theorem dX5_acceptsInValue_42 : decode cX5_acceptsInValue 42 = .ok (.getfield 63, 3) := by decide +kernel
theorem dX5_acceptsInValue_45 : decode cX5_acceptsInValue 45 = .ok (.imul, 1) := by decide +kernel
theorem dX5_acceptsInValue_46 : decode cX5_acceptsInValue 46 = .ok (.iload_n 1, 1) := by decide +kernel
theorem dX5_acceptsInValue_47 : decode cX5_acceptsInValue 47 = .ok (.bipush 48, 2) := by decide +kernel
theorem dX5_acceptsInValue_49 : decode cX5_acceptsInValue 49 = .ok (.isub, 1) := by decide +kernel
theorem dX5_acceptsInValue_50 : decode cX5_acceptsInValue 50 = .ok (.iadd, 1) := by decide +kernel
theorem dX5_acceptsInValue_51 : decode cX5_acceptsInValue 51 = .ok (.putfield 63, 3) := by decide +kernel
theorem dX5_acceptsInValue_54 : decode cX5_acceptsInValue 54 = .ok (.aload_n 0, 1) := by decide +kernel
theorem dX5_acceptsInValue_55 : decode cX5_acceptsInValue 55 = .ok (.dup, 1) := by decide +kernel
theorem dX5_acceptsInValue_56 : decode cX5_acceptsInValue 56 = .ok (.getfield 53, 3) := by decide +kernel
theorem dX5_acceptsInValue_59 : decode cX5_acceptsInValue 59 = .ok (.iconst 1, 1) := by decide +kernel
theorem dX5_acceptsInValue_60 : decode cX5_acceptsInValue 60 = .ok (.iadd, 1) := by decide +kernel
theorem dX5_acceptsInValue_61 : decode cX5_acceptsInValue 61 = .ok (.putfield 53, 3) := by decide +kernel
theorem dX5_acceptsInValue_64 : decode cX5_acceptsInValue 64 = .ok (.aload_n 0, 1) := by decide +kernel
theorem dX5_acceptsInValue_65 : decode cX5_acceptsInValue 65 = .ok (.getfield 63, 3) := by decide +kernel
theorem dX5_acceptsInValue_68 : decode cX5_acceptsInValue 68 = .ok (.sipush 200, 3) := by decide +kernel
theorem dX5_acceptsInValue_71 : decode cX5_acceptsInValue 71 = .ok (.if_icmp .gt 7, 3) := by decide +kernel
theorem dX5_acceptsInValue_74 : decode cX5_acceptsInValue 74 = .ok (.iconst 1, 1) := by decide +kernel
theorem dX5_acceptsInValue_75 : decode cX5_acceptsInValue 75 = .ok (.goto 4, 3) := by decide +kernel
theorem dX5_acceptsInValue_78 : decode cX5_acceptsInValue 78 = .ok (.iconst 0, 1) := by decide +kernel
theorem dX5_acceptsInValue_79 : decode cX5_acceptsInValue 79 = .ok (.ireturn, 1) := by decide +kernel
theorem dX5_isNode_0 : decode cX5_isNode 0 = .ok (.iload_n 0, 1) := by decide +kernel
theorem dX5_isNode_1 : decode cX5_isNode 1 = .ok (.bipush 48, 2) := by decide +kernel
theorem dX5_isNode_3 : decode cX5_isNode 3 = .ok (.if_icmp .lt 13, 3) := by decide +kernel
theorem dX5_isNode_6 : decode cX5_isNode 6 = .ok (.iload_n 0, 1) := by decide +kernel
theorem dX5_isNode_7 : decode cX5_isNode 7 = .ok (.bipush 55, 2) := by decide +kernel
theorem dX5_isNode_9 : decode cX5_isNode 9 = .ok (.if_icmp .ge 7, 3) := by decide +kernel
theorem dX5_isNode_12 : decode cX5_isNode 12 = .ok (.iconst 1, 1) := by decide +kernel
theorem dX5_isNode_13 : decode cX5_isNode 13 = .ok (.goto 4, 3) := by decide +kernel
theorem dX5_isNode_16 : decode cX5_isNode 16 = .ok (.iconst 0, 1) := by decide +kernel
theorem dX5_isNode_17 : decode cX5_isNode 17 = .ok (.ireturn, 1) := by decide +kernel
theorem dX5_endsPart_0 : decode cX5_endsPart 0 = .ok (.aload_n 0, 1) := by decide +kernel
theorem dX5_endsPart_1 : decode cX5_endsPart 1 = .ok (.getfield 50, 3) := by decide +kernel
theorem dX5_endsPart_4 : decode cX5_endsPart 4 = .ok (.iconst (-1), 1) := by decide +kernel
theorem dX5_endsPart_5 : decode cX5_endsPart 5 = .ok (.if_icmp .ne 5, 3) := by decide +kernel
theorem dX5_endsPart_8 : decode cX5_endsPart 8 = .ok (.iconst 0, 1) := by decide +kernel
theorem dX5_endsPart_9 : decode cX5_endsPart 9 = .ok (.ireturn, 1) := by decide +kernel
theorem dX5_endsPart_10 : decode cX5_endsPart 10 = .ok (.aload_n 0, 1) := by decide +kernel
theorem dX5_endsPart_11 : decode cX5_endsPart 11 = .ok (.getfield 50, 3) := by decide +kernel
theorem dX5_endsPart_14 : decode cX5_endsPart 14 = .ok (.iconst 1, 1) := by decide +kernel
theorem dX5_endsPart_15 : decode cX5_endsPart 15 = .ok (.if_icmp .ne 46, 3) := by decide +kernel
theorem dX5_endsPart_18 : decode cX5_endsPart 18 = .ok (.aload_n 0, 1) := by decide +kernel
theorem dX5_endsPart_19 : decode cX5_endsPart 19 = .ok (.getfield 53, 3) := by decide +kernel
theorem dX5_endsPart_22 : decode cX5_endsPart 22 = .ok (.ifCond .ne 5, 3) := by decide +kernel
theorem dX5_endsPart_25 : decode cX5_endsPart 25 = .ok (.iconst 0, 1) := by decide +kernel
theorem dX5_endsPart_26 : decode cX5_endsPart 26 = .ok (.ireturn, 1) := by decide +kernel
theorem dX5_endsPart_27 : decode cX5_endsPart 27 = .ok (.aload_n 0, 1) := by decide +kernel
theorem dX5_endsPart_28 : decode cX5_endsPart 28 = .ok (.getfield 20, 3) := by decide +kernel
theorem dX5_endsPart_31 : decode cX5_endsPart 31 = .ok (.iconst 1, 1) := by decide +kernel
theorem dX5_endsPart_32 : decode cX5_endsPart 32 = .ok (.aload_n 0, 1) := by decide +kernel
theorem dX5_endsPart_33 : decode cX5_endsPart 33 = .ok (.getfield 56, 3) := by decide +kernel
theorem dX5_endsPart_36 : decode cX5_endsPart 36 = .ok (.iconst (-1), 1) := by decide +kernel
theorem dX5_endsPart_37 : decode cX5_endsPart 37 = .ok (.aload_n 0, 1) := by decide +kernel
theorem dX5_endsPart_38 : decode cX5_endsPart 38 = .ok (.getfield 59, 3) := by decide +kernel
theorem dX5_endsPart_41 : decode cX5_endsPart 41 = .ok (.ifCond .eq 11, 3) := by decide +kernel
theorem dX5_endsPart_44 : decode cX5_endsPart 44 = .ok (.aload_n 0, 1) := by decide +kernel
theorem dX5_endsPart_45 : decode cX5_endsPart 45 = .ok (.getfield 63, 3) := by decide +kernel
theorem dX5_endsPart_48 : decode cX5_endsPart 48 = .ok (.ineg, 1) := by decide +kernel
theorem dX5_endsPart_49 : decode cX5_endsPart 49 = .ok (.goto 7, 3) := by decide +kernel
theorem dX5_endsPart_52 : decode cX5_endsPart 52 = .ok (.aload_n 0, 1) := by decide +kernel
theorem dX5_endsPart_53 : decode cX5_endsPart 53 = .ok (.getfield 63, 3) := by decide +kernel
theorem dX5_endsPart_56 : decode cX5_endsPart 56 = .ok (.invokevirtual 85, 3) := by decide +kernel
theorem dX5_endsPart_59 : decode cX5_endsPart 59 = .ok (.iconst 1, 1) := by decide +kernel
theorem dX5_endsPart_60 : decode cX5_endsPart 60 = .ok (.ireturn, 1) := by decide +kernel
theorem dX5_endsPart_61 : decode cX5_endsPart 61 = .ok (.aload_n 0, 1) := by decide +kernel
theorem dX5_endsPart_62 : decode cX5_endsPart 62 = .ok (.getfield 53, 3) := by decide +kernel
theorem dX5_endsPart_65 : decode cX5_endsPart 65 = .ok (.aload_n 0, 1) := by decide +kernel
theorem dX5_endsPart_66 : decode cX5_endsPart 66 = .ok (.getfield 24, 3) := by decide +kernel
theorem dX5_endsPart_69 : decode cX5_endsPart 69 = .ok (.arraylength, 1) := by decide +kernel
theorem dX5_endsPart_70 : decode cX5_endsPart 70 = .ok (.if_icmp .ge 5, 3) := by decide +kernel
theorem dX5_endsPart_73 : decode cX5_endsPart 73 = .ok (.iconst 0, 1) := by decide +kernel
theorem dX5_endsPart_74 : decode cX5_endsPart 74 = .ok (.ireturn, 1) := by decide +kernel
theorem dX5_endsPart_75 : decode cX5_endsPart 75 = .ok (.aload_n 0, 1) := by decide +kernel
theorem dX5_endsPart_76 : decode cX5_endsPart 76 = .ok (.getfield 20, 3) := by decide +kernel
theorem dX5_endsPart_79 : decode cX5_endsPart 79 = .ok (.aload_n 0, 1) := by decide +kernel
theorem dX5_endsPart_80 : decode cX5_endsPart 80 = .ok (.getfield 50, 3) := by decide +kernel
theorem dX5_endsPart_83 : decode cX5_endsPart 83 = .ok (.aload_n 0, 1) := by decide +kernel
theorem dX5_endsPart_84 : decode cX5_endsPart 84 = .ok (.getfield 24, 3) := by decide +kernel
theorem dX5_endsPart_87 : decode cX5_endsPart 87 = .ok (.iconst 0, 1) := by decide +kernel
theorem dX5_endsPart_88 : decode cX5_endsPart 88 = .ok (.iaload, 1) := by decide +kernel
theorem dX5_endsPart_89 : decode cX5_endsPart 89 = .ok (.aload_n 0, 1) := by decide +kernel
theorem dX5_endsPart_90 : decode cX5_endsPart 90 = .ok (.getfield 24, 3) := by decide +kernel
theorem dX5_endsPart_93 : decode cX5_endsPart 93 = .ok (.iconst 1, 1) := by decide +kernel
theorem dX5_endsPart_94 : decode cX5_endsPart 94 = .ok (.iaload, 1) := by decide +kernel
theorem dX5_endsPart_95 : decode cX5_endsPart 95 = .ok (.aload_n 0, 1) := by decide +kernel
theorem dX5_endsPart_96 : decode cX5_endsPart 96 = .ok (.getfield 24, 3) := by decide +kernel
theorem dX5_endsPart_99 : decode cX5_endsPart 99 = .ok (.iconst 2, 1) := by decide +kernel
theorem dX5_endsPart_100 : decode cX5_endsPart 100 = .ok (.iaload, 1) := by decide +kernel
theorem dX5_endsPart_101 : decode cX5_endsPart 101 = .ok (.invokevirtual 85, 3) := by decide +kernel
theorem dX5_endsPart_104 : decode cX5_endsPart 104 = .ok (.iconst 1, 1) := by decide +kernel
theorem dX5_endsPart_105 : decode cX5_endsPart 105 = .ok (.ireturn, 1) := by decide +kernel
theorem dX6_init_0 : decode cX6_init 0 = .ok (.aload_n 0, 1) := by decide +kernel
theorem dX6_init_1 : decode cX6_init 1 = .ok (.invokespecial 1, 3) := by decide +kernel
theorem dX6_init_4 : decode cX6_init 4 = .ok (.aload_n 0, 1) := by decide +kernel
theorem dX6_init_5 : decode cX6_init 5 = .ok (.new 7, 3) := by decide +kernel
theorem dX6_init_8 : decode cX6_init 8 = .ok (.dup, 1) := by decide +kernel
theorem dX6_init_9 : decode cX6_init 9 = .ok (.invokespecial 9, 3) := by decide +kernel
theorem dX6_init_12 : decode cX6_init 12 = .ok (.putfield 10, 3) := by decide +kernel
theorem dX6_init_15 : decode cX6_init 15 = .ok (.aload_n 0, 1) := by decide +kernel
theorem dX6_init_16 : decode cX6_init 16 = .ok (.new 7, 3) := by decide +kernel
theorem dX6_init_19 : decode cX6_init 19 = .ok (.dup, 1) := by decide +kernel
theorem dX6_init_20 : decode cX6_init 20 = .ok (.invokespecial 9, 3) := by decide +kernel
theorem dX6_init_23 : decode cX6_init 23 = .ok (.putfield 16, 3) := by decide +kernel
theorem dX6_init_26 : decode cX6_init 26 = .ok (.aload_n 0, 1) := by decide +kernel
theorem dX6_init_27 : decode cX6_init 27 = .ok (.new 19, 3) := by decide +kernel
theorem dX6_init_30 : decode cX6_init 30 = .ok (.dup, 1) := by decide +kernel
theorem dX6_init_31 : decode cX6_init 31 = .ok (.invokespecial 21, 3) := by decide +kernel
theorem dX6_init_34 : decode cX6_init 34 = .ok (.putfield 22, 3) := by decide +kernel
theorem dX6_init_37 : decode cX6_init 37 = .ok (.aload_n 0, 1) := by decide +kernel
theorem dX6_init_38 : decode cX6_init 38 = .ok (.new 26, 3) := by decide +kernel
theorem dX6_init_41 : decode cX6_init 41 = .ok (.dup, 1) := by decide +kernel
theorem dX6_init_42 : decode cX6_init 42 = .ok (.invokespecial 28, 3) := by decide +kernel
theorem dX6_init_45 : decode cX6_init 45 = .ok (.putfield 29, 3) := by decide +kernel
theorem dX6_init_48 : decode cX6_init 48 = .ok (.aload_n 0, 1) := by decide +kernel
theorem dX6_init_49 : decode cX6_init 49 = .ok (.iconst 2, 1) := by decide +kernel
theorem dX6_init_50 : decode cX6_init 50 = .ok (.anewarray 33, 3) := by decide +kernel
theorem dX6_init_53 : decode cX6_init 53 = .ok (.putfield 35, 3) := by decide +kernel
theorem dX6_init_56 : decode cX6_init 56 = .ok (.iconst 0, 1) := by decide +kernel
theorem dX6_init_57 : decode cX6_init 57 = .ok (.istore_n 1, 1) := by decide +kernel
theorem dX6_init_58 : decode cX6_init 58 = .ok (.iload_n 1, 1) := by decide +kernel
theorem dX6_init_59 : decode cX6_init 59 = .ok (.iconst 2, 1) := by decide +kernel
theorem dX6_init_60 : decode cX6_init 60 = .ok (.if_icmp .ge 22, 3) := by decide +kernel
theorem dX6_init_63 : decode cX6_init 63 = .ok (.aload_n 0, 1) := by decide +kernel
theorem dX6_init_64 : decode cX6_init 64 = .ok (.getfield 35, 3) := by decide +kernel
theorem dX6_init_67 : decode cX6_init 67 = .ok (.iload_n 1, 1) := by decide +kernel
theorem dX6_init_68 : decode cX6_init 68 = .ok (.new 33, 3) := by decide +kernel
theorem dX6_init_71 : decode cX6_init 71 = .ok (.dup, 1) := by decide +kernel
theorem dX6_init_72 : decode cX6_init 72 = .ok (.invokespecial 39, 3) := by decide +kernel
theorem dX6_init_75 : decode cX6_init 75 = .ok (.aastore, 1) := by decide +kernel
theorem dX6_init_76 : decode cX6_init 76 = .ok (.iinc 1 1, 3) := by decide +kernel
theorem dX6_init_79 : decode cX6_init 79 = .ok (.goto (-21), 3) := by decide +kernel
theorem dX6_init_82 : decode cX6_init 82 = .ok (.aload_n 0, 1) := by decide +kernel
theorem dX6_init_83 : decode cX6_init 83 = .ok (.getfield 10, 3) := by decide +kernel
theorem dX6_init_86 : decode cX6_init 86 = .ok (.invokevirtual 40, 3) := by decide +kernel
theorem dX6_init_89 : decode cX6_init 89 = .ok (.return_, 1) := by decide +kernel
theorem dX6_begin_0 : decode cX6_begin 0 = .ok (.aload_n 0, 1) := by decide +kernel
theorem dX6_begin_1 : decode cX6_begin 1 = .ok (.getfield 10, 3) := by decide +kernel
theorem dX6_begin_4 : decode cX6_begin 4 = .ok (.getfield 43, 3) := by decide +kernel
theorem dX6_begin_7 : decode cX6_begin 7 = .ok (.getfield 47, 3) := by decide +kernel
theorem dX6_begin_10 : decode cX6_begin 10 = .ok (.getfield 51, 3) := by decide +kernel
theorem dX6_begin_13 : decode cX6_begin 13 = .ok (.istore_n 1, 1) := by decide +kernel
theorem dX6_begin_14 : decode cX6_begin 14 = .ok (.aload_n 0, 1) := by decide +kernel
theorem dX6_begin_15 : decode cX6_begin 15 = .ok (.getfield 29, 3) := by decide +kernel
theorem dX6_begin_18 : decode cX6_begin 18 = .ok (.aload_n 0, 1) := by decide +kernel
theorem dX6_begin_19 : decode cX6_begin 19 = .ok (.getfield 10, 3) := by decide +kernel
theorem dX6_begin_22 : decode cX6_begin 22 = .ok (.getfield 43, 3) := by decide +kernel
theorem dX6_begin_25 : decode cX6_begin 25 = .ok (.invokevirtual 57, 3) := by decide +kernel
theorem dX6_begin_28 : decode cX6_begin 28 = .ok (.aload_n 0, 1) := by decide +kernel
theorem dX6_begin_29 : decode cX6_begin 29 = .ok (.getfield 10, 3) := by decide +kernel
theorem dX6_begin_32 : decode cX6_begin 32 = .ok (.getfield 43, 3) := by decide +kernel
theorem dX6_begin_35 : decode cX6_begin 35 = .ok (.invokevirtual 61, 3) := by decide +kernel
theorem dX6_begin_38 : decode cX6_begin 38 = .ok (.aload_n 0, 1) := by decide +kernel
theorem dX6_begin_39 : decode cX6_begin 39 = .ok (.getfield 10, 3) := by decide +kernel
theorem dX6_begin_42 : decode cX6_begin 42 = .ok (.invokevirtual 40, 3) := by decide +kernel
theorem dX6_begin_45 : decode cX6_begin 45 = .ok (.aload_n 0, 1) := by decide +kernel
theorem dX6_begin_46 : decode cX6_begin 46 = .ok (.getfield 10, 3) := by decide +kernel
theorem dX6_begin_49 : decode cX6_begin 49 = .ok (.invokevirtual 64, 3) := by decide +kernel
theorem dX6_begin_52 : decode cX6_begin 52 = .ok (.iload_n 1, 1) := by decide +kernel
theorem dX6_begin_53 : decode cX6_begin 53 = .ok (.ireturn, 1) := by decide +kernel
theorem dX6_load_0 : decode cX6_load 0 = .ok (.aload_n 0, 1) := by decide +kernel
theorem dX6_load_1 : decode cX6_load 1 = .ok (.getfield 22, 3) := by decide +kernel
theorem dX6_load_4 : decode cX6_load 4 = .ok (.invokevirtual 67, 3) := by decide +kernel
theorem dX6_load_7 : decode cX6_load 7 = .ok (.ifCond .eq 16, 3) := by decide +kernel
theorem dX6_load_10 : decode cX6_load 10 = .ok (.aload_n 0, 1) := by decide +kernel
theorem dX6_load_11 : decode cX6_load 11 = .ok (.getfield 22, 3) := by decide +kernel
theorem dX6_load_14 : decode cX6_load 14 = .ok (.getfield 71, 3) := by decide +kernel
theorem dX6_load_17 : decode cX6_load 17 = .ok (.invokevirtual 72, 3) := by decide +kernel
theorem dX6_load_20 : decode cX6_load 20 = .ok (.ifCond .ne 13, 3) := by decide +kernel
theorem dX6_load_23 : decode cX6_load 23 = .ok (.new 75, 3) := by decide +kernel
theorem dX6_load_26 : decode cX6_load 26 = .ok (.dup, 1) := by decide +kernel
theorem dX6_load_27 : decode cX6_load 27 = .ok (.ldc 77, 2) := by decide +kernel
theorem dX6_load_29 : decode cX6_load 29 = .ok (.invokespecial 79, 3) := by decide +kernel
theorem dX6_load_32 : decode cX6_load 32 = .ok (.athrow, 1) := by decide +kernel
theorem dX6_load_33 : decode cX6_load 33 = .ok (.aload_n 0, 1) := by decide +kernel
theorem dX6_load_34 : decode cX6_load 34 = .ok (.getfield 10, 3) := by decide +kernel
theorem dX6_load_37 : decode cX6_load 37 = .ok (.getfield 43, 3) := by decide +kernel
theorem dX6_load_40 : decode cX6_load 40 = .ok (.getfield 47, 3) := by decide +kernel
theorem dX6_load_43 : decode cX6_load 43 = .ok (.aload_n 0, 1) := by decide +kernel
theorem dX6_load_44 : decode cX6_load 44 = .ok (.getfield 22, 3) := by decide +kernel
theorem dX6_load_47 : decode cX6_load 47 = .ok (.getfield 71, 3) := by decide +kernel
theorem dX6_load_50 : decode cX6_load 50 = .ok (.invokevirtual 82, 3) := by decide +kernel
theorem dX6_load_53 : decode cX6_load 53 = .ok (.ifCond .ne 13, 3) := by decide +kernel
theorem dX6_load_56 : decode cX6_load 56 = .ok (.new 86, 3) := by decide +kernel
theorem dX6_load_59 : decode cX6_load 59 = .ok (.dup, 1) := by decide +kernel
theorem dX6_load_60 : decode cX6_load 60 = .ok (.ldc 88, 2) := by decide +kernel
theorem dX6_load_62 : decode cX6_load 62 = .ok (.invokespecial 90, 3) := by decide +kernel
theorem dX6_load_65 : decode cX6_load 65 = .ok (.athrow, 1) := by decide +kernel
theorem dX6_load_66 : decode cX6_load 66 = .ok (.aload_n 0, 1) := by decide +kernel
theorem dX6_load_67 : decode cX6_load 67 = .ok (.getfield 29, 3) := by decide +kernel
theorem dX6_load_70 : decode cX6_load 70 = .ok (.aload_n 0, 1) := by decide +kernel
theorem dX6_load_71 : decode cX6_load 71 = .ok (.getfield 10, 3) := by decide +kernel
theorem dX6_load_74 : decode cX6_load 74 = .ok (.getfield 43, 3) := by decide +kernel
theorem dX6_load_77 : decode cX6_load 77 = .ok (.invokevirtual 57, 3) := by decide +kernel
theorem dX6_load_80 : decode cX6_load 80 = .ok (.aload_n 0, 1) := by decide +kernel
theorem dX6_load_81 : decode cX6_load 81 = .ok (.getfield 10, 3) := by decide +kernel
theorem dX6_load_84 : decode cX6_load 84 = .ok (.getfield 43, 3) := by decide +kernel
theorem dX6_load_87 : decode cX6_load 87 = .ok (.getfield 47, 3) := by decide +kernel
theorem dX6_load_90 : decode cX6_load 90 = .ok (.aload_n 0, 1) := by decide +kernel
theorem dX6_load_91 : decode cX6_load 91 = .ok (.getfield 22, 3) := by decide +kernel
theorem dX6_load_94 : decode cX6_load 94 = .ok (.getfield 71, 3) := by decide +kernel
theorem dX6_load_97 : decode cX6_load 97 = .ok (.invokevirtual 91, 3) := by decide +kernel
theorem dX6_load_100 : decode cX6_load 100 = .ok (.aload_n 0, 1) := by decide +kernel
theorem dX6_load_101 : decode cX6_load 101 = .ok (.getfield 22, 3) := by decide +kernel
theorem dX6_load_104 : decode cX6_load 104 = .ok (.iconst 0, 1) := by decide +kernel
theorem dX6_load_105 : decode cX6_load 105 = .ok (.putfield 95, 3) := by decide +kernel
theorem dX6_load_108 : decode cX6_load 108 = .ok (.aload_n 0, 1) := by decide +kernel
theorem dX6_load_109 : decode cX6_load 109 = .ok (.getfield 10, 3) := by decide +kernel
theorem dX6_load_112 : decode cX6_load 112 = .ok (.invokevirtual 40, 3) := by decide +kernel
theorem dX6_load_115 : decode cX6_load 115 = .ok (.aload_n 0, 1) := by decide +kernel
theorem dX6_load_116 : decode cX6_load 116 = .ok (.getfield 10, 3) := by decide +kernel
theorem dX6_load_119 : decode cX6_load 119 = .ok (.invokevirtual 64, 3) := by decide +kernel
theorem dX6_load_122 : decode cX6_load 122 = .ok (.aload_n 0, 1) := by decide +kernel
theorem dX6_load_123 : decode cX6_load 123 = .ok (.getfield 10, 3) := by decide +kernel
theorem dX6_load_126 : decode cX6_load 126 = .ok (.getfield 43, 3) := by decide +kernel
theorem dX6_load_129 : decode cX6_load 129 = .ok (.getfield 47, 3) := by decide +kernel
theorem dX6_load_132 : decode cX6_load 132 = .ok (.getfield 51, 3) := by decide +kernel
theorem dX6_load_135 : decode cX6_load 135 = .ok (.ireturn, 1) := by decide +kernel
theorem dX6_setValue_0 : decode cX6_setValue 0 = .ok (.aload_n 0, 1) := by decide +kernel
theorem dX6_setValue_1 : decode cX6_setValue 1 = .ok (.iload_n 1, 1) := by decide +kernel
theorem dX6_setValue_2 : decode cX6_setValue 2 = .ok (.iload_n 2, 1) := by decide +kernel
theorem dX6_setValue_3 : decode cX6_setValue 3 = .ok (.invokevirtual 98, 3) := by decide +kernel
theorem dX6_setValue_6 : decode cX6_setValue 6 = .ok (.aload_n 0, 1) := by decide +kernel
theorem dX6_setValue_7 : decode cX6_setValue 7 = .ok (.getfield 10, 3) := by decide +kernel
theorem dX6_setValue_10 : decode cX6_setValue 10 = .ok (.getfield 43, 3) := by decide +kernel
theorem dX6_setValue_13 : decode cX6_setValue 13 = .ok (.getfield 47, 3) := by decide +kernel
theorem dX6_setValue_16 : decode cX6_setValue 16 = .ok (.getfield 102, 3) := by decide +kernel
theorem dX6_setValue_19 : decode cX6_setValue 19 = .ok (.iload_n 1, 1) := by decide +kernel
theorem dX6_setValue_20 : decode cX6_setValue 20 = .ok (.iaload, 1) := by decide +kernel
theorem dX6_setValue_21 : decode cX6_setValue 21 = .ok (.istore_n 3, 1) := by decide +kernel
theorem dX6_setValue_22 : decode cX6_setValue 22 = .ok (.aload_n 0, 1) := by decide +kernel
theorem dX6_setValue_23 : decode cX6_setValue 23 = .ok (.getfield 29, 3) := by decide +kernel
theorem dX6_setValue_26 : decode cX6_setValue 26 = .ok (.aload_n 0, 1) := by decide +kernel
theorem dX6_setValue_27 : decode cX6_setValue 27 = .ok (.getfield 10, 3) := by decide +kernel
theorem dX6_setValue_30 : decode cX6_setValue 30 = .ok (.getfield 43, 3) := by decide +kernel
theorem dX6_setValue_33 : decode cX6_setValue 33 = .ok (.invokevirtual 57, 3) := by decide +kernel
theorem dX6_setValue_36 : decode cX6_setValue 36 = .ok (.aload_n 0, 1) := by decide +kernel
theorem dX6_setValue_37 : decode cX6_setValue 37 = .ok (.getfield 10, 3) := by decide +kernel
theorem dX6_setValue_40 : decode cX6_setValue 40 = .ok (.getfield 43, 3) := by decide +kernel
theorem dX6_setValue_43 : decode cX6_setValue 43 = .ok (.getfield 47, 3) := by decide +kernel
theorem dX6_setValue_46 : decode cX6_setValue 46 = .ok (.getfield 102, 3) := by decide +kernel
theorem dX6_setValue_49 : decode cX6_setValue 49 = .ok (.iload_n 1, 1) := by decide +kernel
theorem dX6_setValue_50 : decode cX6_setValue 50 = .ok (.iload_n 2, 1) := by decide +kernel
theorem dX6_setValue_51 : decode cX6_setValue 51 = .ok (.iastore, 1) := by decide +kernel
theorem dX6_setValue_52 : decode cX6_setValue 52 = .ok (.aload_n 0, 1) := by decide +kernel
theorem dX6_setValue_53 : decode cX6_setValue 53 = .ok (.getfield 10, 3) := by decide +kernel
theorem dX6_setValue_56 : decode cX6_setValue 56 = .ok (.invokevirtual 40, 3) := by decide +kernel
theorem dX6_setValue_59 : decode cX6_setValue 59 = .ok (.aload_n 0, 1) := by decide +kernel
theorem dX6_setValue_60 : decode cX6_setValue 60 = .ok (.getfield 10, 3) := by decide +kernel
theorem dX6_setValue_63 : decode cX6_setValue 63 = .ok (.invokevirtual 64, 3) := by decide +kernel
theorem dX6_setValue_66 : decode cX6_setValue 66 = .ok (.iload_n 3, 1) := by decide +kernel
theorem dX6_setValue_67 : decode cX6_setValue 67 = .ok (.ireturn, 1) := by decide +kernel
theorem dX6_setRail_0 : decode cX6_setRail 0 = .ok (.iload_n 1, 1) := by decide +kernel
theorem dX6_setRail_1 : decode cX6_setRail 1 = .ok (.bipush 10, 2) := by decide +kernel
theorem dX6_setRail_3 : decode cX6_setRail 3 = .ok (.if_icmp .lt 10, 3) := by decide +kernel
theorem dX6_setRail_6 : decode cX6_setRail 6 = .ok (.iload_n 1, 1) := by decide +kernel
theorem dX6_setRail_7 : decode cX6_setRail 7 = .ok (.sipush 200, 3) := by decide +kernel
theorem dX6_setRail_10 : decode cX6_setRail 10 = .ok (.if_icmp .le 13, 3) := by decide +kernel
theorem dX6_setRail_13 : decode cX6_setRail 13 = .ok (.new 75, 3) := by decide +kernel
theorem dX6_setRail_16 : decode cX6_setRail 16 = .ok (.dup, 1) := by decide +kernel
theorem dX6_setRail_17 : decode cX6_setRail 17 = .ok (.ldc 106, 2) := by decide +kernel
theorem dX6_setRail_19 : decode cX6_setRail 19 = .ok (.invokespecial 79, 3) := by decide +kernel
theorem dX6_setRail_22 : decode cX6_setRail 22 = .ok (.athrow, 1) := by decide +kernel
theorem dX6_setRail_23 : decode cX6_setRail 23 = .ok (.aload_n 0, 1) := by decide +kernel
theorem dX6_setRail_24 : decode cX6_setRail 24 = .ok (.getfield 10, 3) := by decide +kernel
theorem dX6_setRail_27 : decode cX6_setRail 27 = .ok (.getfield 43, 3) := by decide +kernel
theorem dX6_setRail_30 : decode cX6_setRail 30 = .ok (.getfield 108, 3) := by decide +kernel
theorem dX6_setRail_33 : decode cX6_setRail 33 = .ok (.istore_n 2, 1) := by decide +kernel
theorem dX6_setRail_34 : decode cX6_setRail 34 = .ok (.aload_n 0, 1) := by decide +kernel
theorem dX6_setRail_35 : decode cX6_setRail 35 = .ok (.getfield 29, 3) := by decide +kernel
theorem dX6_setRail_38 : decode cX6_setRail 38 = .ok (.aload_n 0, 1) := by decide +kernel
theorem dX6_setRail_39 : decode cX6_setRail 39 = .ok (.getfield 10, 3) := by decide +kernel
theorem dX6_setRail_42 : decode cX6_setRail 42 = .ok (.getfield 43, 3) := by decide +kernel
theorem dX6_setRail_45 : decode cX6_setRail 45 = .ok (.invokevirtual 57, 3) := by decide +kernel
theorem dX6_setRail_48 : decode cX6_setRail 48 = .ok (.aload_n 0, 1) := by decide +kernel
theorem dX6_setRail_49 : decode cX6_setRail 49 = .ok (.getfield 10, 3) := by decide +kernel
theorem dX6_setRail_52 : decode cX6_setRail 52 = .ok (.getfield 43, 3) := by decide +kernel
theorem dX6_setRail_55 : decode cX6_setRail 55 = .ok (.iload_n 1, 1) := by decide +kernel
theorem dX6_setRail_56 : decode cX6_setRail 56 = .ok (.putfield 108, 3) := by decide +kernel
theorem dX6_setRail_59 : decode cX6_setRail 59 = .ok (.aload_n 0, 1) := by decide +kernel
theorem dX6_setRail_60 : decode cX6_setRail 60 = .ok (.getfield 10, 3) := by decide +kernel
theorem dX6_setRail_63 : decode cX6_setRail 63 = .ok (.invokevirtual 64, 3) := by decide +kernel
theorem dX6_setRail_66 : decode cX6_setRail 66 = .ok (.iload_n 2, 1) := by decide +kernel
theorem dX6_setRail_67 : decode cX6_setRail 67 = .ok (.ireturn, 1) := by decide +kernel
theorem dX6_drop_0 : decode cX6_drop 0 = .ok (.aload_n 0, 1) := by decide +kernel
theorem dX6_drop_1 : decode cX6_drop 1 = .ok (.iload_n 1, 1) := by decide +kernel
theorem dX6_drop_2 : decode cX6_drop 2 = .ok (.invokevirtual 111, 3) := by decide +kernel
theorem dX6_drop_5 : decode cX6_drop 5 = .ok (.aload_n 0, 1) := by decide +kernel
theorem dX6_drop_6 : decode cX6_drop 6 = .ok (.getfield 29, 3) := by decide +kernel
theorem dX6_drop_9 : decode cX6_drop 9 = .ok (.aload_n 0, 1) := by decide +kernel
theorem dX6_drop_10 : decode cX6_drop 10 = .ok (.getfield 10, 3) := by decide +kernel
theorem dX6_drop_13 : decode cX6_drop 13 = .ok (.getfield 43, 3) := by decide +kernel
theorem dX6_drop_16 : decode cX6_drop 16 = .ok (.invokevirtual 57, 3) := by decide +kernel
theorem dX6_drop_19 : decode cX6_drop 19 = .ok (.aload_n 0, 1) := by decide +kernel
theorem dX6_drop_20 : decode cX6_drop 20 = .ok (.getfield 10, 3) := by decide +kernel
theorem dX6_drop_23 : decode cX6_drop 23 = .ok (.getfield 43, 3) := by decide +kernel
theorem dX6_drop_26 : decode cX6_drop 26 = .ok (.iload_n 1, 1) := by decide +kernel
theorem dX6_drop_27 : decode cX6_drop 27 = .ok (.invokevirtual 115, 3) := by decide +kernel
theorem dX6_drop_30 : decode cX6_drop 30 = .ok (.aload_n 0, 1) := by decide +kernel
theorem dX6_drop_31 : decode cX6_drop 31 = .ok (.getfield 10, 3) := by decide +kernel
theorem dX6_drop_34 : decode cX6_drop 34 = .ok (.invokevirtual 40, 3) := by decide +kernel
theorem dX6_drop_37 : decode cX6_drop 37 = .ok (.aload_n 0, 1) := by decide +kernel
theorem dX6_drop_38 : decode cX6_drop 38 = .ok (.getfield 10, 3) := by decide +kernel
theorem dX6_drop_41 : decode cX6_drop 41 = .ok (.invokevirtual 64, 3) := by decide +kernel
theorem dX6_drop_44 : decode cX6_drop 44 = .ok (.aload_n 0, 1) := by decide +kernel
theorem dX6_drop_45 : decode cX6_drop 45 = .ok (.getfield 10, 3) := by decide +kernel
theorem dX6_drop_48 : decode cX6_drop 48 = .ok (.getfield 43, 3) := by decide +kernel
theorem dX6_drop_51 : decode cX6_drop 51 = .ok (.getfield 47, 3) := by decide +kernel
theorem dX6_drop_54 : decode cX6_drop 54 = .ok (.getfield 51, 3) := by decide +kernel
theorem dX6_drop_57 : decode cX6_drop 57 = .ok (.ireturn, 1) := by decide +kernel
theorem dX6_sweep_0 : decode cX6_sweep 0 = .ok (.aload_n 0, 1) := by decide +kernel
theorem dX6_sweep_1 : decode cX6_sweep 1 = .ok (.iload_n 1, 1) := by decide +kernel
theorem dX6_sweep_2 : decode cX6_sweep 2 = .ok (.invokevirtual 118, 3) := by decide +kernel
theorem dX6_sweep_5 : decode cX6_sweep 5 = .ok (.iload_n 2, 1) := by decide +kernel
theorem dX6_sweep_6 : decode cX6_sweep 6 = .ok (.invokestatic 121, 3) := by decide +kernel
theorem dX6_sweep_9 : decode cX6_sweep 9 = .ok (.ifCond .ne 13, 3) := by decide +kernel
theorem dX6_sweep_12 : decode cX6_sweep 12 = .ok (.new 75, 3) := by decide +kernel
theorem dX6_sweep_15 : decode cX6_sweep 15 = .ok (.dup, 1) := by decide +kernel
theorem dX6_sweep_16 : decode cX6_sweep 16 = .ok (.ldc 125, 2) := by decide +kernel
theorem dX6_sweep_18 : decode cX6_sweep 18 = .ok (.invokespecial 79, 3) := by decide +kernel
theorem dX6_sweep_21 : decode cX6_sweep 21 = .ok (.athrow, 1) := by decide +kernel
theorem dX6_sweep_22 : decode cX6_sweep 22 = .ok (.aload_n 0, 1) := by decide +kernel
theorem dX6_sweep_23 : decode cX6_sweep 23 = .ok (.getfield 29, 3) := by decide +kernel
theorem dX6_sweep_26 : decode cX6_sweep 26 = .ok (.aload_n 0, 1) := by decide +kernel
theorem dX6_sweep_27 : decode cX6_sweep 27 = .ok (.getfield 10, 3) := by decide +kernel
theorem dX6_sweep_30 : decode cX6_sweep 30 = .ok (.getfield 43, 3) := by decide +kernel
theorem dX6_sweep_33 : decode cX6_sweep 33 = .ok (.invokevirtual 57, 3) := by decide +kernel
theorem dX6_sweep_36 : decode cX6_sweep 36 = .ok (.aload_n 0, 1) := by decide +kernel
theorem dX6_sweep_37 : decode cX6_sweep 37 = .ok (.getfield 10, 3) := by decide +kernel
theorem dX6_sweep_40 : decode cX6_sweep 40 = .ok (.getfield 43, 3) := by decide +kernel
theorem dX6_sweep_43 : decode cX6_sweep 43 = .ok (.getfield 47, 3) := by decide +kernel
theorem dX6_sweep_46 : decode cX6_sweep 46 = .ok (.getfield 102, 3) := by decide +kernel
theorem dX6_sweep_49 : decode cX6_sweep 49 = .ok (.astore_n 3, 1) := by decide +kernel
theorem dX6_sweep_50 : decode cX6_sweep 50 = .ok (.iload_n 2, 1) := by decide +kernel
theorem dX6_sweep_51 : decode cX6_sweep 51 = .ok (.aload_n 3, 1) := by decide +kernel
theorem dX6_sweep_52 : decode cX6_sweep 52 = .ok (.iload_n 1, 1) := by decide +kernel
theorem dX6_sweep_53 : decode cX6_sweep 53 = .ok (.iaload, 1) := by decide +kernel
theorem dX6_sweep_54 : decode cX6_sweep 54 = .ok (.isub, 1) := by decide +kernel
theorem dX6_sweep_55 : decode cX6_sweep 55 = .ok (.invokestatic 127, 3) := by decide +kernel
theorem dX6_sweep_58 : decode cX6_sweep 58 = .ok (.istore 4, 2) := by decide +kernel
theorem dX6_sweep_60 : decode cX6_sweep 60 = .ok (.iload_n 2, 1) := by decide +kernel
theorem dX6_sweep_61 : decode cX6_sweep 61 = .ok (.aload_n 3, 1) := by decide +kernel
theorem dX6_sweep_62 : decode cX6_sweep 62 = .ok (.iload_n 1, 1) := by decide +kernel
theorem dX6_sweep_63 : decode cX6_sweep 63 = .ok (.iaload, 1) := by decide +kernel
theorem dX6_sweep_64 : decode cX6_sweep 64 = .ok (.if_icmp .le 7, 3) := by decide +kernel
theorem dX6_sweep_67 : decode cX6_sweep 67 = .ok (.iconst 1, 1) := by decide +kernel
theorem dX6_sweep_68 : decode cX6_sweep 68 = .ok (.goto 4, 3) := by decide +kernel
theorem dX6_sweep_71 : decode cX6_sweep 71 = .ok (.iconst (-1), 1) := by decide +kernel
theorem dX6_sweep_72 : decode cX6_sweep 72 = .ok (.istore 5, 2) := by decide +kernel
theorem dX6_sweep_74 : decode cX6_sweep 74 = .ok (.iconst 0, 1) := by decide +kernel
theorem dX6_sweep_75 : decode cX6_sweep 75 = .ok (.istore 6, 2) := by decide +kernel
theorem dX6_sweep_77 : decode cX6_sweep 77 = .ok (.iconst 0, 1) := by decide +kernel
theorem dX6_sweep_78 : decode cX6_sweep 78 = .ok (.istore 7, 2) := by decide +kernel
theorem dX6_sweep_80 : decode cX6_sweep 80 = .ok (.iload 7, 2) := by decide +kernel
theorem dX6_sweep_82 : decode cX6_sweep 82 = .ok (.iload 4, 2) := by decide +kernel
theorem dX6_sweep_84 : decode cX6_sweep 84 = .ok (.if_icmp .ge 54, 3) := by decide +kernel
theorem dX6_sweep_87 : decode cX6_sweep 87 = .ok (.aload_n 0, 1) := by decide +kernel
theorem dX6_sweep_88 : decode cX6_sweep 88 = .ok (.getfield 10, 3) := by decide +kernel
theorem dX6_sweep_91 : decode cX6_sweep 91 = .ok (.getfield 43, 3) := by decide +kernel
theorem dX6_sweep_94 : decode cX6_sweep 94 = .ok (.getfield 133, 3) := by decide +kernel
theorem dX6_sweep_97 : decode cX6_sweep 97 = .ok (.istore 8, 2) := by decide +kernel
theorem dX6_sweep_99 : decode cX6_sweep 99 = .ok (.aload_n 3, 1) := by decide +kernel
theorem dX6_sweep_100 : decode cX6_sweep 100 = .ok (.iload_n 1, 1) := by decide +kernel
theorem dX6_sweep_101 : decode cX6_sweep 101 = .ok (.dup2, 1) := by decide +kernel
theorem dX6_sweep_102 : decode cX6_sweep 102 = .ok (.iaload, 1) := by decide +kernel
theorem dX6_sweep_103 : decode cX6_sweep 103 = .ok (.iload 5, 2) := by decide +kernel
theorem dX6_sweep_105 : decode cX6_sweep 105 = .ok (.iadd, 1) := by decide +kernel
theorem dX6_sweep_106 : decode cX6_sweep 106 = .ok (.iastore, 1) := by decide +kernel
theorem dX6_sweep_107 : decode cX6_sweep 107 = .ok (.aload_n 0, 1) := by decide +kernel
theorem dX6_sweep_108 : decode cX6_sweep 108 = .ok (.getfield 10, 3) := by decide +kernel
theorem dX6_sweep_111 : decode cX6_sweep 111 = .ok (.invokevirtual 64, 3) := by decide +kernel
theorem dX6_sweep_114 : decode cX6_sweep 114 = .ok (.aload_n 0, 1) := by decide +kernel
theorem dX6_sweep_115 : decode cX6_sweep 115 = .ok (.getfield 10, 3) := by decide +kernel
theorem dX6_sweep_118 : decode cX6_sweep 118 = .ok (.getfield 43, 3) := by decide +kernel
theorem dX6_sweep_121 : decode cX6_sweep 121 = .ok (.getfield 133, 3) := by decide +kernel
theorem dX6_sweep_124 : decode cX6_sweep 124 = .ok (.iload 8, 2) := by decide +kernel
theorem dX6_sweep_126 : decode cX6_sweep 126 = .ok (.if_icmp .eq 6, 3) := by decide +kernel
theorem dX6_sweep_129 : decode cX6_sweep 129 = .ok (.iinc 6 1, 3) := by decide +kernel
theorem dX6_sweep_132 : decode cX6_sweep 132 = .ok (.iinc 7 1, 3) := by decide +kernel
theorem dX6_sweep_135 : decode cX6_sweep 135 = .ok (.goto (-55), 3) := by decide +kernel
theorem dX6_sweep_138 : decode cX6_sweep 138 = .ok (.iload 6, 2) := by decide +kernel
theorem dX6_sweep_140 : decode cX6_sweep 140 = .ok (.ireturn, 1) := by decide +kernel
theorem dX6_undo_0 : decode cX6_undo 0 = .ok (.aload_n 0, 1) := by decide +kernel
theorem dX6_undo_1 : decode cX6_undo 1 = .ok (.getfield 29, 3) := by decide +kernel
theorem dX6_undo_4 : decode cX6_undo 4 = .ok (.getfield 136, 3) := by decide +kernel
theorem dX6_undo_7 : decode cX6_undo 7 = .ok (.ifCond .ne 13, 3) := by decide +kernel
theorem dX6_undo_10 : decode cX6_undo 10 = .ok (.new 86, 3) := by decide +kernel
theorem dX6_undo_13 : decode cX6_undo 13 = .ok (.dup, 1) := by decide +kernel
theorem dX6_undo_14 : decode cX6_undo 14 = .ok (.ldc 137, 2) := by decide +kernel
theorem dX6_undo_16 : decode cX6_undo 16 = .ok (.invokespecial 90, 3) := by decide +kernel
theorem dX6_undo_19 : decode cX6_undo 19 = .ok (.athrow, 1) := by decide +kernel
theorem dX6_undo_20 : decode cX6_undo 20 = .ok (.aload_n 0, 1) := by decide +kernel
theorem dX6_undo_21 : decode cX6_undo 21 = .ok (.getfield 10, 3) := by decide +kernel
theorem dX6_undo_24 : decode cX6_undo 24 = .ok (.aload_n 0, 1) := by decide +kernel
theorem dX6_undo_25 : decode cX6_undo 25 = .ok (.getfield 29, 3) := by decide +kernel
theorem dX6_undo_28 : decode cX6_undo 28 = .ok (.invokevirtual 139, 3) := by decide +kernel
theorem dX6_undo_31 : decode cX6_undo 31 = .ok (.invokevirtual 143, 3) := by decide +kernel
theorem dX6_undo_34 : decode cX6_undo 34 = .ok (.aload_n 0, 1) := by decide +kernel
theorem dX6_undo_35 : decode cX6_undo 35 = .ok (.getfield 29, 3) := by decide +kernel
theorem dX6_undo_38 : decode cX6_undo 38 = .ok (.getfield 136, 3) := by decide +kernel
theorem dX6_undo_41 : decode cX6_undo 41 = .ok (.ireturn, 1) := by decide +kernel
theorem dX6_keep_0 : decode cX6_keep 0 = .ok (.aload_n 0, 1) := by decide +kernel
theorem dX6_keep_1 : decode cX6_keep 1 = .ok (.iload_n 1, 1) := by decide +kernel
theorem dX6_keep_2 : decode cX6_keep 2 = .ok (.invokevirtual 146, 3) := by decide +kernel
theorem dX6_keep_5 : decode cX6_keep 5 = .ok (.aload_n 0, 1) := by decide +kernel
theorem dX6_keep_6 : decode cX6_keep 6 = .ok (.getfield 35, 3) := by decide +kernel
theorem dX6_keep_9 : decode cX6_keep 9 = .ok (.iload_n 1, 1) := by decide +kernel
theorem dX6_keep_10 : decode cX6_keep 10 = .ok (.aaload, 1) := by decide +kernel
theorem dX6_keep_11 : decode cX6_keep 11 = .ok (.aload_n 0, 1) := by decide +kernel
theorem dX6_keep_12 : decode cX6_keep 12 = .ok (.getfield 10, 3) := by decide +kernel
theorem dX6_keep_15 : decode cX6_keep 15 = .ok (.getfield 43, 3) := by decide +kernel
theorem dX6_keep_18 : decode cX6_keep 18 = .ok (.invokevirtual 149, 3) := by decide +kernel
theorem dX6_keep_21 : decode cX6_keep 21 = .ok (.aload_n 0, 1) := by decide +kernel
theorem dX6_keep_22 : decode cX6_keep 22 = .ok (.dup, 1) := by decide +kernel
theorem dX6_keep_23 : decode cX6_keep 23 = .ok (.getfield 152, 3) := by decide +kernel
theorem dX6_keep_26 : decode cX6_keep 26 = .ok (.iconst 1, 1) := by decide +kernel
theorem dX6_keep_27 : decode cX6_keep 27 = .ok (.iload_n 1, 1) := by decide +kernel
theorem dX6_keep_28 : decode cX6_keep 28 = .ok (.ishl, 1) := by decide +kernel
theorem dX6_keep_29 : decode cX6_keep 29 = .ok (.ior, 1) := by decide +kernel
theorem dX6_keep_30 : decode cX6_keep 30 = .ok (.putfield 152, 3) := by decide +kernel
theorem dX6_keep_33 : decode cX6_keep 33 = .ok (.aload_n 0, 1) := by decide +kernel
theorem dX6_keep_34 : decode cX6_keep 34 = .ok (.getfield 10, 3) := by decide +kernel
theorem dX6_keep_37 : decode cX6_keep 37 = .ok (.getfield 43, 3) := by decide +kernel
theorem dX6_keep_40 : decode cX6_keep 40 = .ok (.getfield 47, 3) := by decide +kernel
theorem dX6_keep_43 : decode cX6_keep 43 = .ok (.getfield 51, 3) := by decide +kernel
theorem dX6_keep_46 : decode cX6_keep 46 = .ok (.ireturn, 1) := by decide +kernel
theorem dX6_back_0 : decode cX6_back 0 = .ok (.aload_n 0, 1) := by decide +kernel
theorem dX6_back_1 : decode cX6_back 1 = .ok (.iload_n 1, 1) := by decide +kernel
theorem dX6_back_2 : decode cX6_back 2 = .ok (.invokevirtual 146, 3) := by decide +kernel
theorem dX6_back_5 : decode cX6_back 5 = .ok (.aload_n 0, 1) := by decide +kernel
theorem dX6_back_6 : decode cX6_back 6 = .ok (.getfield 152, 3) := by decide +kernel
theorem dX6_back_9 : decode cX6_back 9 = .ok (.iload_n 1, 1) := by decide +kernel
theorem dX6_back_10 : decode cX6_back 10 = .ok (.invokestatic 155, 3) := by decide +kernel
theorem dX6_back_13 : decode cX6_back 13 = .ok (.ifCond .ne 13, 3) := by decide +kernel
theorem dX6_back_16 : decode cX6_back 16 = .ok (.new 86, 3) := by decide +kernel
theorem dX6_back_19 : decode cX6_back 19 = .ok (.dup, 1) := by decide +kernel
theorem dX6_back_20 : decode cX6_back 20 = .ok (.ldc 159, 2) := by decide +kernel
theorem dX6_back_22 : decode cX6_back 22 = .ok (.invokespecial 90, 3) := by decide +kernel
theorem dX6_back_25 : decode cX6_back 25 = .ok (.athrow, 1) := by decide +kernel
theorem dX6_back_26 : decode cX6_back 26 = .ok (.aload_n 0, 1) := by decide +kernel
theorem dX6_back_27 : decode cX6_back 27 = .ok (.getfield 29, 3) := by decide +kernel
theorem dX6_back_30 : decode cX6_back 30 = .ok (.aload_n 0, 1) := by decide +kernel
theorem dX6_back_31 : decode cX6_back 31 = .ok (.getfield 10, 3) := by decide +kernel
theorem dX6_back_34 : decode cX6_back 34 = .ok (.getfield 43, 3) := by decide +kernel
theorem dX6_back_37 : decode cX6_back 37 = .ok (.invokevirtual 57, 3) := by decide +kernel
theorem dX6_back_40 : decode cX6_back 40 = .ok (.aload_n 0, 1) := by decide +kernel
theorem dX6_back_41 : decode cX6_back 41 = .ok (.getfield 10, 3) := by decide +kernel
theorem dX6_back_44 : decode cX6_back 44 = .ok (.aload_n 0, 1) := by decide +kernel
theorem dX6_back_45 : decode cX6_back 45 = .ok (.getfield 35, 3) := by decide +kernel
theorem dX6_back_48 : decode cX6_back 48 = .ok (.iload_n 1, 1) := by decide +kernel
theorem dX6_back_49 : decode cX6_back 49 = .ok (.aaload, 1) := by decide +kernel
theorem dX6_back_50 : decode cX6_back 50 = .ok (.invokevirtual 143, 3) := by decide +kernel
theorem dX6_back_53 : decode cX6_back 53 = .ok (.aload_n 0, 1) := by decide +kernel
theorem dX6_back_54 : decode cX6_back 54 = .ok (.getfield 10, 3) := by decide +kernel
theorem dX6_back_57 : decode cX6_back 57 = .ok (.getfield 43, 3) := by decide +kernel
theorem dX6_back_60 : decode cX6_back 60 = .ok (.getfield 47, 3) := by decide +kernel
theorem dX6_back_63 : decode cX6_back 63 = .ok (.getfield 51, 3) := by decide +kernel
theorem dX6_back_66 : decode cX6_back 66 = .ok (.ireturn, 1) := by decide +kernel
theorem dX6_append_0 : decode cX6_append 0 = .ok (.iload_n 1, 1) := by decide +kernel
theorem dX6_append_1 : decode cX6_append 1 = .ok (.bipush 32, 2) := by decide +kernel
theorem dX6_append_3 : decode cX6_append 3 = .ok (.if_icmp .lt 9, 3) := by decide +kernel
theorem dX6_append_6 : decode cX6_append 6 = .ok (.iload_n 1, 1) := by decide +kernel
theorem dX6_append_7 : decode cX6_append 7 = .ok (.bipush 126, 2) := by decide +kernel
theorem dX6_append_9 : decode cX6_append 9 = .ok (.if_icmp .le 13, 3) := by decide +kernel
theorem dX6_append_12 : decode cX6_append 12 = .ok (.new 75, 3) := by decide +kernel
theorem dX6_append_15 : decode cX6_append 15 = .ok (.dup, 1) := by decide +kernel
theorem dX6_append_16 : decode cX6_append 16 = .ok (.ldc 161, 2) := by decide +kernel
theorem dX6_append_18 : decode cX6_append 18 = .ok (.invokespecial 79, 3) := by decide +kernel
theorem dX6_append_21 : decode cX6_append 21 = .ok (.athrow, 1) := by decide +kernel
theorem dX6_append_22 : decode cX6_append 22 = .ok (.aload_n 0, 1) := by decide +kernel
theorem dX6_append_23 : decode cX6_append 23 = .ok (.getfield 22, 3) := by decide +kernel
theorem dX6_append_26 : decode cX6_append 26 = .ok (.getfield 95, 3) := by decide +kernel
theorem dX6_append_29 : decode cX6_append 29 = .ok (.bipush 60, 2) := by decide +kernel
theorem dX6_append_31 : decode cX6_append 31 = .ok (.if_icmp .lt 13, 3) := by decide +kernel
theorem dX6_append_34 : decode cX6_append 34 = .ok (.new 86, 3) := by decide +kernel
theorem dX6_append_37 : decode cX6_append 37 = .ok (.dup, 1) := by decide +kernel
theorem dX6_append_38 : decode cX6_append 38 = .ok (.ldc 163, 2) := by decide +kernel
theorem dX6_append_40 : decode cX6_append 40 = .ok (.invokespecial 90, 3) := by decide +kernel
theorem dX6_append_43 : decode cX6_append 43 = .ok (.athrow, 1) := by decide +kernel
theorem dX6_append_44 : decode cX6_append 44 = .ok (.aload_n 0, 1) := by decide +kernel
theorem dX6_append_45 : decode cX6_append 45 = .ok (.getfield 22, 3) := by decide +kernel
theorem dX6_append_48 : decode cX6_append 48 = .ok (.getfield 165, 3) := by decide +kernel
theorem dX6_append_51 : decode cX6_append 51 = .ok (.aload_n 0, 1) := by decide +kernel
theorem dX6_append_52 : decode cX6_append 52 = .ok (.getfield 22, 3) := by decide +kernel
theorem dX6_append_55 : decode cX6_append 55 = .ok (.getfield 95, 3) := by decide +kernel
theorem dX6_append_58 : decode cX6_append 58 = .ok (.iload_n 1, 1) := by decide +kernel
theorem dX6_append_59 : decode cX6_append 59 = .ok (.i2c, 1) := by decide +kernel
theorem dX6_append_60 : decode cX6_append 60 = .ok (.castore, 1) := by decide +kernel
theorem dX6_append_61 : decode cX6_append 61 = .ok (.aload_n 0, 1) := by decide +kernel
theorem dX6_append_62 : decode cX6_append 62 = .ok (.getfield 22, 3) := by decide +kernel
theorem dX6_append_65 : decode cX6_append 65 = .ok (.dup, 1) := by decide +kernel
theorem dX6_append_66 : decode cX6_append 66 = .ok (.getfield 95, 3) := by decide +kernel
theorem dX6_append_69 : decode cX6_append 69 = .ok (.iconst 1, 1) := by decide +kernel
theorem dX6_append_70 : decode cX6_append 70 = .ok (.iadd, 1) := by decide +kernel
theorem dX6_append_71 : decode cX6_append 71 = .ok (.putfield 95, 3) := by decide +kernel
theorem dX6_append_74 : decode cX6_append 74 = .ok (.aload_n 0, 1) := by decide +kernel
theorem dX6_append_75 : decode cX6_append 75 = .ok (.getfield 22, 3) := by decide +kernel
theorem dX6_append_78 : decode cX6_append 78 = .ok (.getfield 95, 3) := by decide +kernel
theorem dX6_append_81 : decode cX6_append 81 = .ok (.ireturn, 1) := by decide +kernel
theorem dX6_clearInput_0 : decode cX6_clearInput 0 = .ok (.aload_n 0, 1) := by decide +kernel
theorem dX6_clearInput_1 : decode cX6_clearInput 1 = .ok (.getfield 22, 3) := by decide +kernel
theorem dX6_clearInput_4 : decode cX6_clearInput 4 = .ok (.getfield 95, 3) := by decide +kernel
theorem dX6_clearInput_7 : decode cX6_clearInput 7 = .ok (.istore_n 1, 1) := by decide +kernel
theorem dX6_clearInput_8 : decode cX6_clearInput 8 = .ok (.aload_n 0, 1) := by decide +kernel
theorem dX6_clearInput_9 : decode cX6_clearInput 9 = .ok (.getfield 22, 3) := by decide +kernel
theorem dX6_clearInput_12 : decode cX6_clearInput 12 = .ok (.iconst 0, 1) := by decide +kernel
theorem dX6_clearInput_13 : decode cX6_clearInput 13 = .ok (.putfield 95, 3) := by decide +kernel
theorem dX6_clearInput_16 : decode cX6_clearInput 16 = .ok (.iload_n 1, 1) := by decide +kernel
theorem dX6_clearInput_17 : decode cX6_clearInput 17 = .ok (.ireturn, 1) := by decide +kernel
theorem dX6_firstError_0 : decode cX6_firstError 0 = .ok (.aload_n 0, 1) := by decide +kernel
theorem dX6_firstError_1 : decode cX6_firstError 1 = .ok (.getfield 22, 3) := by decide +kernel
theorem dX6_firstError_4 : decode cX6_firstError 4 = .ok (.invokevirtual 169, 3) := by decide +kernel
theorem dX6_firstError_7 : decode cX6_firstError 7 = .ok (.ireturn, 1) := by decide +kernel
theorem dX6_voltage_0 : decode cX6_voltage 0 = .ok (.iload_n 1, 1) := by decide +kernel
theorem dX6_voltage_1 : decode cX6_voltage 1 = .ok (.invokestatic 173, 3) := by decide +kernel
theorem dX6_voltage_4 : decode cX6_voltage 4 = .ok (.iload_n 2, 1) := by decide +kernel
theorem dX6_voltage_5 : decode cX6_voltage 5 = .ok (.invokestatic 176, 3) := by decide +kernel
theorem dX6_voltage_8 : decode cX6_voltage 8 = .ok (.aload_n 0, 1) := by decide +kernel
theorem dX6_voltage_9 : decode cX6_voltage 9 = .ok (.getfield 10, 3) := by decide +kernel
theorem dX6_voltage_12 : decode cX6_voltage 12 = .ok (.getfield 43, 3) := by decide +kernel
theorem dX6_voltage_15 : decode cX6_voltage 15 = .ok (.getfield 179, 3) := by decide +kernel
theorem dX6_voltage_18 : decode cX6_voltage 18 = .ok (.ifCond .ne 5, 3) := by decide +kernel
theorem dX6_voltage_21 : decode cX6_voltage 21 = .ok (.lconst 0, 1) := by decide +kernel
theorem dX6_voltage_22 : decode cX6_voltage 22 = .ok (.lreturn, 1) := by decide +kernel
theorem dX6_voltage_23 : decode cX6_voltage 23 = .ok (.aload_n 0, 1) := by decide +kernel
theorem dX6_voltage_24 : decode cX6_voltage 24 = .ok (.getfield 10, 3) := by decide +kernel
theorem dX6_voltage_27 : decode cX6_voltage 27 = .ok (.aload_n 0, 1) := by decide +kernel
theorem dX6_voltage_28 : decode cX6_voltage 28 = .ok (.getfield 10, 3) := by decide +kernel
theorem dX6_voltage_31 : decode cX6_voltage 31 = .ok (.getfield 43, 3) := by decide +kernel
theorem dX6_voltage_34 : decode cX6_voltage 34 = .ok (.getfield 133, 3) := by decide +kernel
theorem dX6_voltage_37 : decode cX6_voltage 37 = .ok (.iload_n 1, 1) := by decide +kernel
theorem dX6_voltage_38 : decode cX6_voltage 38 = .ok (.iload_n 2, 1) := by decide +kernel
theorem dX6_voltage_39 : decode cX6_voltage 39 = .ok (.invokevirtual 183, 3) := by decide +kernel
theorem dX6_voltage_42 : decode cX6_voltage 42 = .ok (.lreturn, 1) := by decide +kernel
theorem dX6_current_0 : decode cX6_current 0 = .ok (.aload_n 0, 1) := by decide +kernel
theorem dX6_current_1 : decode cX6_current 1 = .ok (.iload_n 1, 1) := by decide +kernel
theorem dX6_current_2 : decode cX6_current 2 = .ok (.invokevirtual 111, 3) := by decide +kernel
theorem dX6_current_5 : decode cX6_current 5 = .ok (.aload_n 0, 1) := by decide +kernel
theorem dX6_current_6 : decode cX6_current 6 = .ok (.getfield 10, 3) := by decide +kernel
theorem dX6_current_9 : decode cX6_current 9 = .ok (.getfield 43, 3) := by decide +kernel
theorem dX6_current_12 : decode cX6_current 12 = .ok (.getfield 47, 3) := by decide +kernel
theorem dX6_current_15 : decode cX6_current 15 = .ok (.astore_n 3, 1) := by decide +kernel
theorem dX6_current_16 : decode cX6_current 16 = .ok (.aload_n 3, 1) := by decide +kernel
theorem dX6_current_17 : decode cX6_current 17 = .ok (.getfield 187, 3) := by decide +kernel
theorem dX6_current_20 : decode cX6_current 20 = .ok (.iload_n 1, 1) := by decide +kernel
theorem dX6_current_21 : decode cX6_current 21 = .ok (.iaload, 1) := by decide +kernel
theorem dX6_current_22 : decode cX6_current 22 = .ok (.ifCond .eq 13, 3) := by decide +kernel
theorem dX6_current_25 : decode cX6_current 25 = .ok (.new 86, 3) := by decide +kernel
theorem dX6_current_28 : decode cX6_current 28 = .ok (.dup, 1) := by decide +kernel
theorem dX6_current_29 : decode cX6_current 29 = .ok (.ldc 190, 2) := by decide +kernel
theorem dX6_current_31 : decode cX6_current 31 = .ok (.invokespecial 90, 3) := by decide +kernel
theorem dX6_current_34 : decode cX6_current 34 = .ok (.athrow, 1) := by decide +kernel
theorem dX6_current_35 : decode cX6_current 35 = .ok (.iload_n 2, 1) := by decide +kernel
theorem dX6_current_36 : decode cX6_current 36 = .ok (.invokestatic 176, 3) := by decide +kernel
theorem dX6_current_39 : decode cX6_current 39 = .ok (.aload_n 0, 1) := by decide +kernel
theorem dX6_current_40 : decode cX6_current 40 = .ok (.getfield 10, 3) := by decide +kernel
theorem dX6_current_43 : decode cX6_current 43 = .ok (.getfield 43, 3) := by decide +kernel
theorem dX6_current_46 : decode cX6_current 46 = .ok (.getfield 179, 3) := by decide +kernel
theorem dX6_current_49 : decode cX6_current 49 = .ok (.ifCond .ne 5, 3) := by decide +kernel
theorem dX6_current_52 : decode cX6_current 52 = .ok (.lconst 0, 1) := by decide +kernel
theorem dX6_current_53 : decode cX6_current 53 = .ok (.lreturn, 1) := by decide +kernel
theorem dX6_current_54 : decode cX6_current 54 = .ok (.aload_n 0, 1) := by decide +kernel
theorem dX6_current_55 : decode cX6_current 55 = .ok (.getfield 10, 3) := by decide +kernel
theorem dX6_current_58 : decode cX6_current 58 = .ok (.aload_n 0, 1) := by decide +kernel
theorem dX6_current_59 : decode cX6_current 59 = .ok (.getfield 10, 3) := by decide +kernel
theorem dX6_current_62 : decode cX6_current 62 = .ok (.getfield 43, 3) := by decide +kernel
theorem dX6_current_65 : decode cX6_current 65 = .ok (.getfield 133, 3) := by decide +kernel
theorem dX6_current_68 : decode cX6_current 68 = .ok (.invokevirtual 192, 3) := by decide +kernel
theorem dX6_current_71 : decode cX6_current 71 = .ok (.aload_n 0, 1) := by decide +kernel
theorem dX6_current_72 : decode cX6_current 72 = .ok (.getfield 10, 3) := by decide +kernel
theorem dX6_current_75 : decode cX6_current 75 = .ok (.aload_n 3, 1) := by decide +kernel
theorem dX6_current_76 : decode cX6_current 76 = .ok (.getfield 195, 3) := by decide +kernel
theorem dX6_current_79 : decode cX6_current 79 = .ok (.iload_n 1, 1) := by decide +kernel
theorem dX6_current_80 : decode cX6_current 80 = .ok (.iaload, 1) := by decide +kernel
theorem dX6_current_81 : decode cX6_current 81 = .ok (.invokevirtual 198, 3) := by decide +kernel
theorem dX6_current_84 : decode cX6_current 84 = .ok (.aload_n 0, 1) := by decide +kernel
theorem dX6_current_85 : decode cX6_current 85 = .ok (.getfield 10, 3) := by decide +kernel
theorem dX6_current_88 : decode cX6_current 88 = .ok (.aload_n 3, 1) := by decide +kernel
theorem dX6_current_89 : decode cX6_current 89 = .ok (.getfield 202, 3) := by decide +kernel
theorem dX6_current_92 : decode cX6_current 92 = .ok (.iload_n 1, 1) := by decide +kernel
theorem dX6_current_93 : decode cX6_current 93 = .ok (.iaload, 1) := by decide +kernel
theorem dX6_current_94 : decode cX6_current 94 = .ok (.invokevirtual 198, 3) := by decide +kernel
theorem dX6_current_97 : decode cX6_current 97 = .ok (.lsub, 1) := by decide +kernel
theorem dX6_current_98 : decode cX6_current 98 = .ok (.lstore 4, 2) := by decide +kernel
theorem dX6_current_100 : decode cX6_current 100 = .ok (.aload_n 3, 1) := by decide +kernel
theorem dX6_current_101 : decode cX6_current 101 = .ok (.getfield 102, 3) := by decide +kernel
theorem dX6_current_104 : decode cX6_current 104 = .ok (.iload_n 1, 1) := by decide +kernel
theorem dX6_current_105 : decode cX6_current 105 = .ok (.iaload, 1) := by decide +kernel
theorem dX6_current_106 : decode cX6_current 106 = .ok (.i2l, 1) := by decide +kernel
theorem dX6_current_107 : decode cX6_current 107 = .ok (.lload 4, 2) := by decide +kernel
theorem dX6_current_109 : decode cX6_current 109 = .ok (.lmul, 1) := by decide +kernel
theorem dX6_current_110 : decode cX6_current 110 = .ok (.aload_n 0, 1) := by decide +kernel
theorem dX6_current_111 : decode cX6_current 111 = .ok (.getfield 10, 3) := by decide +kernel
theorem dX6_current_114 : decode cX6_current 114 = .ok (.invokevirtual 205, 3) := by decide +kernel
theorem dX6_current_117 : decode cX6_current 117 = .ok (.iload_n 2, 1) := by decide +kernel
theorem dX6_current_118 : decode cX6_current 118 = .ok (.invokestatic 209, 3) := by decide +kernel
theorem dX6_current_121 : decode cX6_current 121 = .ok (.lreturn, 1) := by decide +kernel
theorem dX6_amplifier_0 : decode cX6_amplifier 0 = .ok (.iload_n 1, 1) := by decide +kernel
theorem dX6_amplifier_1 : decode cX6_amplifier 1 = .ok (.ifCond .lt 14, 3) := by decide +kernel
theorem dX6_amplifier_4 : decode cX6_amplifier 4 = .ok (.iload_n 1, 1) := by decide +kernel
theorem dX6_amplifier_5 : decode cX6_amplifier 5 = .ok (.aload_n 0, 1) := by decide +kernel
theorem dX6_amplifier_6 : decode cX6_amplifier 6 = .ok (.getfield 10, 3) := by decide +kernel
theorem dX6_amplifier_9 : decode cX6_amplifier 9 = .ok (.getfield 213, 3) := by decide +kernel
theorem dX6_amplifier_12 : decode cX6_amplifier 12 = .ok (.if_icmp .lt 13, 3) := by decide +kernel
theorem dX6_amplifier_15 : decode cX6_amplifier 15 = .ok (.new 216, 3) := by decide +kernel
theorem dX6_amplifier_18 : decode cX6_amplifier 18 = .ok (.dup, 1) := by decide +kernel
theorem dX6_amplifier_19 : decode cX6_amplifier 19 = .ok (.ldc 218, 2) := by decide +kernel
theorem dX6_amplifier_21 : decode cX6_amplifier 21 = .ok (.invokespecial 220, 3) := by decide +kernel
theorem dX6_amplifier_24 : decode cX6_amplifier 24 = .ok (.athrow, 1) := by decide +kernel
theorem dX6_amplifier_25 : decode cX6_amplifier 25 = .ok (.iload_n 2, 1) := by decide +kernel
theorem dX6_amplifier_26 : decode cX6_amplifier 26 = .ok (.tableswitch 77 0 2 #[26, 36, 51], 26) := by decide +kernel
theorem dX6_amplifier_52 : decode cX6_amplifier 52 = .ok (.aload_n 0, 1) := by decide +kernel
theorem dX6_amplifier_53 : decode cX6_amplifier 53 = .ok (.getfield 10, 3) := by decide +kernel
theorem dX6_amplifier_56 : decode cX6_amplifier 56 = .ok (.getfield 221, 3) := by decide +kernel
theorem dX6_amplifier_59 : decode cX6_amplifier 59 = .ok (.iload_n 1, 1) := by decide +kernel
theorem dX6_amplifier_60 : decode cX6_amplifier 60 = .ok (.iaload, 1) := by decide +kernel
theorem dX6_amplifier_61 : decode cX6_amplifier 61 = .ok (.ireturn, 1) := by decide +kernel
theorem dX6_amplifier_62 : decode cX6_amplifier 62 = .ok (.aload_n 0, 1) := by decide +kernel
theorem dX6_amplifier_63 : decode cX6_amplifier 63 = .ok (.getfield 10, 3) := by decide +kernel
theorem dX6_amplifier_66 : decode cX6_amplifier 66 = .ok (.getfield 43, 3) := by decide +kernel
theorem dX6_amplifier_69 : decode cX6_amplifier 69 = .ok (.getfield 133, 3) := by decide +kernel
theorem dX6_amplifier_72 : decode cX6_amplifier 72 = .ok (.iload_n 1, 1) := by decide +kernel
theorem dX6_amplifier_73 : decode cX6_amplifier 73 = .ok (.invokestatic 224, 3) := by decide +kernel
theorem dX6_amplifier_76 : decode cX6_amplifier 76 = .ok (.ireturn, 1) := by decide +kernel
theorem dX6_amplifier_77 : decode cX6_amplifier 77 = .ok (.aload_n 0, 1) := by decide +kernel
theorem dX6_amplifier_78 : decode cX6_amplifier 78 = .ok (.getfield 10, 3) := by decide +kernel
theorem dX6_amplifier_81 : decode cX6_amplifier 81 = .ok (.getfield 43, 3) := by decide +kernel
theorem dX6_amplifier_84 : decode cX6_amplifier 84 = .ok (.getfield 179, 3) := by decide +kernel
theorem dX6_amplifier_87 : decode cX6_amplifier 87 = .ok (.ifCond .eq 14, 3) := by decide +kernel
theorem dX6_amplifier_90 : decode cX6_amplifier 90 = .ok (.aload_n 0, 1) := by decide +kernel
theorem dX6_amplifier_91 : decode cX6_amplifier 91 = .ok (.getfield 10, 3) := by decide +kernel
theorem dX6_amplifier_94 : decode cX6_amplifier 94 = .ok (.iload_n 1, 1) := by decide +kernel
theorem dX6_amplifier_95 : decode cX6_amplifier 95 = .ok (.invokevirtual 228, 3) := by decide +kernel
theorem dX6_amplifier_98 : decode cX6_amplifier 98 = .ok (.goto 4, 3) := by decide +kernel
theorem dX6_amplifier_101 : decode cX6_amplifier 101 = .ok (.iconst 0, 1) := by decide +kernel
theorem dX6_amplifier_102 : decode cX6_amplifier 102 = .ok (.ireturn, 1) := by decide +kernel
theorem dX6_amplifier_103 : decode cX6_amplifier 103 = .ok (.new 75, 3) := by decide +kernel
theorem dX6_amplifier_106 : decode cX6_amplifier 106 = .ok (.dup, 1) := by decide +kernel
theorem dX6_amplifier_107 : decode cX6_amplifier 107 = .ok (.ldc 231, 2) := by decide +kernel
theorem dX6_amplifier_109 : decode cX6_amplifier 109 = .ok (.invokespecial 79, 3) := by decide +kernel
theorem dX6_amplifier_112 : decode cX6_amplifier 112 = .ok (.athrow, 1) := by decide +kernel
theorem dX6_why_0 : decode cX6_why 0 = .ok (.aload_n 0, 1) := by decide +kernel
theorem dX6_why_1 : decode cX6_why 1 = .ok (.iload_n 1, 1) := by decide +kernel
theorem dX6_why_2 : decode cX6_why 2 = .ok (.invokevirtual 233, 3) := by decide +kernel
theorem dX6_why_5 : decode cX6_why 5 = .ok (.aload_n 0, 1) := by decide +kernel
theorem dX6_why_6 : decode cX6_why 6 = .ok (.getfield 10, 3) := by decide +kernel
theorem dX6_why_9 : decode cX6_why 9 = .ok (.iload_n 1, 1) := by decide +kernel
theorem dX6_why_10 : decode cX6_why 10 = .ok (.invokevirtual 236, 3) := by decide +kernel
theorem dX6_why_13 : decode cX6_why 13 = .ok (.aload_n 0, 1) := by decide +kernel
theorem dX6_why_14 : decode cX6_why 14 = .ok (.getfield 10, 3) := by decide +kernel
theorem dX6_why_17 : decode cX6_why 17 = .ok (.getfield 239, 3) := by decide +kernel
theorem dX6_why_20 : decode cX6_why 20 = .ok (.ireturn, 1) := by decide +kernel
theorem dX6_concerned_0 : decode cX6_concerned 0 = .ok (.aload_n 0, 1) := by decide +kernel
theorem dX6_concerned_1 : decode cX6_concerned 1 = .ok (.iload_n 1, 1) := by decide +kernel
theorem dX6_concerned_2 : decode cX6_concerned 2 = .ok (.invokevirtual 233, 3) := by decide +kernel
theorem dX6_concerned_5 : decode cX6_concerned 5 = .ok (.aload_n 0, 1) := by decide +kernel
theorem dX6_concerned_6 : decode cX6_concerned 6 = .ok (.getfield 10, 3) := by decide +kernel
theorem dX6_concerned_9 : decode cX6_concerned 9 = .ok (.iload_n 1, 1) := by decide +kernel
theorem dX6_concerned_10 : decode cX6_concerned 10 = .ok (.invokevirtual 236, 3) := by decide +kernel
theorem dX6_concerned_13 : decode cX6_concerned 13 = .ok (.aload_n 0, 1) := by decide +kernel
theorem dX6_concerned_14 : decode cX6_concerned 14 = .ok (.getfield 10, 3) := by decide +kernel
theorem dX6_concerned_17 : decode cX6_concerned 17 = .ok (.getfield 242, 3) := by decide +kernel
theorem dX6_concerned_20 : decode cX6_concerned 20 = .ok (.ireturn, 1) := by decide +kernel
theorem dX6_inCase_0 : decode cX6_inCase 0 = .ok (.aload_n 0, 1) := by decide +kernel
theorem dX6_inCase_1 : decode cX6_inCase 1 = .ok (.iload_n 1, 1) := by decide +kernel
theorem dX6_inCase_2 : decode cX6_inCase 2 = .ok (.invokevirtual 233, 3) := by decide +kernel
theorem dX6_inCase_5 : decode cX6_inCase 5 = .ok (.iload_n 2, 1) := by decide +kernel
theorem dX6_inCase_6 : decode cX6_inCase 6 = .ok (.invokestatic 173, 3) := by decide +kernel
theorem dX6_inCase_9 : decode cX6_inCase 9 = .ok (.iload_n 3, 1) := by decide +kernel
theorem dX6_inCase_10 : decode cX6_inCase 10 = .ok (.invokestatic 176, 3) := by decide +kernel
theorem dX6_inCase_13 : decode cX6_inCase 13 = .ok (.aload_n 0, 1) := by decide +kernel
theorem dX6_inCase_14 : decode cX6_inCase 14 = .ok (.getfield 10, 3) := by decide +kernel
theorem dX6_inCase_17 : decode cX6_inCase 17 = .ok (.iload_n 1, 1) := by decide +kernel
theorem dX6_inCase_18 : decode cX6_inCase 18 = .ok (.iload_n 2, 1) := by decide +kernel
theorem dX6_inCase_19 : decode cX6_inCase 19 = .ok (.iload_n 3, 1) := by decide +kernel
theorem dX6_inCase_20 : decode cX6_inCase 20 = .ok (.invokevirtual 183, 3) := by decide +kernel
theorem dX6_inCase_23 : decode cX6_inCase 23 = .ok (.lreturn, 1) := by decide +kernel
theorem dX6_trip_0 : decode cX6_trip 0 = .ok (.aload_n 0, 1) := by decide +kernel
theorem dX6_trip_1 : decode cX6_trip 1 = .ok (.iload_n 1, 1) := by decide +kernel
theorem dX6_trip_2 : decode cX6_trip 2 = .ok (.invokevirtual 118, 3) := by decide +kernel
theorem dX6_trip_5 : decode cX6_trip 5 = .ok (.aload_n 0, 1) := by decide +kernel
theorem dX6_trip_6 : decode cX6_trip 6 = .ok (.getfield 16, 3) := by decide +kernel
theorem dX6_trip_9 : decode cX6_trip 9 = .ok (.aload_n 0, 1) := by decide +kernel
theorem dX6_trip_10 : decode cX6_trip 10 = .ok (.getfield 10, 3) := by decide +kernel
theorem dX6_trip_13 : decode cX6_trip 13 = .ok (.getfield 43, 3) := by decide +kernel
theorem dX6_trip_16 : decode cX6_trip 16 = .ok (.invokevirtual 143, 3) := by decide +kernel
theorem dX6_trip_19 : decode cX6_trip 19 = .ok (.aload_n 0, 1) := by decide +kernel
theorem dX6_trip_20 : decode cX6_trip 20 = .ok (.getfield 16, 3) := by decide +kernel
theorem dX6_trip_23 : decode cX6_trip 23 = .ok (.getfield 43, 3) := by decide +kernel
theorem dX6_trip_26 : decode cX6_trip 26 = .ok (.getfield 47, 3) := by decide +kernel
theorem dX6_trip_29 : decode cX6_trip 29 = .ok (.getfield 102, 3) := by decide +kernel
theorem dX6_trip_32 : decode cX6_trip 32 = .ok (.astore_n 3, 1) := by decide +kernel
theorem dX6_trip_33 : decode cX6_trip 33 = .ok (.iload_n 2, 1) := by decide +kernel
theorem dX6_trip_34 : decode cX6_trip 34 = .ok (.ifCond .eq 7, 3) := by decide +kernel
theorem dX6_trip_37 : decode cX6_trip 37 = .ok (.iconst 1, 1) := by decide +kernel
theorem dX6_trip_38 : decode cX6_trip 38 = .ok (.goto 4, 3) := by decide +kernel
theorem dX6_trip_41 : decode cX6_trip 41 = .ok (.iconst (-1), 1) := by decide +kernel
theorem dX6_trip_42 : decode cX6_trip 42 = .ok (.istore 4, 2) := by decide +kernel
theorem dX6_trip_44 : decode cX6_trip 44 = .ok (.sipush 200, 3) := by decide +kernel
theorem dX6_trip_47 : decode cX6_trip 47 = .ok (.iload 4, 2) := by decide +kernel
theorem dX6_trip_49 : decode cX6_trip 49 = .ok (.aload_n 3, 1) := by decide +kernel
theorem dX6_trip_50 : decode cX6_trip 50 = .ok (.iload_n 1, 1) := by decide +kernel
theorem dX6_trip_51 : decode cX6_trip 51 = .ok (.iaload, 1) := by decide +kernel
theorem dX6_trip_52 : decode cX6_trip 52 = .ok (.imul, 1) := by decide +kernel
theorem dX6_trip_53 : decode cX6_trip 53 = .ok (.isub, 1) := by decide +kernel
theorem dX6_trip_54 : decode cX6_trip 54 = .ok (.istore 5, 2) := by decide +kernel
theorem dX6_trip_56 : decode cX6_trip 56 = .ok (.iconst 0, 1) := by decide +kernel
theorem dX6_trip_57 : decode cX6_trip 57 = .ok (.istore 6, 2) := by decide +kernel
theorem dX6_trip_59 : decode cX6_trip 59 = .ok (.iload 6, 2) := by decide +kernel
theorem dX6_trip_61 : decode cX6_trip 61 = .ok (.iload 5, 2) := by decide +kernel
theorem dX6_trip_63 : decode cX6_trip 63 = .ok (.if_icmp .ge 55, 3) := by decide +kernel
theorem dX6_trip_66 : decode cX6_trip 66 = .ok (.aload_n 3, 1) := by decide +kernel
theorem dX6_trip_67 : decode cX6_trip 67 = .ok (.iload_n 1, 1) := by decide +kernel
theorem dX6_trip_68 : decode cX6_trip 68 = .ok (.dup2, 1) := by decide +kernel
theorem dX6_trip_69 : decode cX6_trip 69 = .ok (.iaload, 1) := by decide +kernel
theorem dX6_trip_70 : decode cX6_trip 70 = .ok (.iload 4, 2) := by decide +kernel
theorem dX6_trip_72 : decode cX6_trip 72 = .ok (.iadd, 1) := by decide +kernel
theorem dX6_trip_73 : decode cX6_trip 73 = .ok (.iastore, 1) := by decide +kernel
theorem dX6_trip_74 : decode cX6_trip 74 = .ok (.aload_n 0, 1) := by decide +kernel
theorem dX6_trip_75 : decode cX6_trip 75 = .ok (.getfield 16, 3) := by decide +kernel
theorem dX6_trip_78 : decode cX6_trip 78 = .ok (.invokevirtual 64, 3) := by decide +kernel
theorem dX6_trip_81 : decode cX6_trip 81 = .ok (.aload_n 0, 1) := by decide +kernel
theorem dX6_trip_82 : decode cX6_trip 82 = .ok (.getfield 16, 3) := by decide +kernel
theorem dX6_trip_85 : decode cX6_trip 85 = .ok (.getfield 43, 3) := by decide +kernel
theorem dX6_trip_88 : decode cX6_trip 88 = .ok (.getfield 133, 3) := by decide +kernel
theorem dX6_trip_91 : decode cX6_trip 91 = .ok (.aload_n 0, 1) := by decide +kernel
theorem dX6_trip_92 : decode cX6_trip 92 = .ok (.getfield 10, 3) := by decide +kernel
theorem dX6_trip_95 : decode cX6_trip 95 = .ok (.getfield 43, 3) := by decide +kernel
theorem dX6_trip_98 : decode cX6_trip 98 = .ok (.getfield 133, 3) := by decide +kernel
theorem dX6_trip_101 : decode cX6_trip 101 = .ok (.if_icmp .eq 11, 3) := by decide +kernel
theorem dX6_trip_104 : decode cX6_trip 104 = .ok (.aload_n 3, 1) := by decide +kernel
theorem dX6_trip_105 : decode cX6_trip 105 = .ok (.iload_n 1, 1) := by decide +kernel
theorem dX6_trip_106 : decode cX6_trip 106 = .ok (.iaload, 1) := by decide +kernel
theorem dX6_trip_107 : decode cX6_trip 107 = .ok (.sipush 1000, 3) := by decide +kernel
theorem dX6_trip_110 : decode cX6_trip 110 = .ok (.iadd, 1) := by decide +kernel
theorem dX6_trip_111 : decode cX6_trip 111 = .ok (.ireturn, 1) := by decide +kernel
theorem dX6_trip_112 : decode cX6_trip 112 = .ok (.iinc 6 1, 3) := by decide +kernel
theorem dX6_trip_115 : decode cX6_trip 115 = .ok (.goto (-56), 3) := by decide +kernel
theorem dX6_trip_118 : decode cX6_trip 118 = .ok (.iconst (-1), 1) := by decide +kernel
theorem dX6_trip_119 : decode cX6_trip 119 = .ok (.ireturn, 1) := by decide +kernel
theorem dX6_ifValue_0 : decode cX6_ifValue 0 = .ok (.aload_n 0, 1) := by decide +kernel
theorem dX6_ifValue_1 : decode cX6_ifValue 1 = .ok (.iload_n 1, 1) := by decide +kernel
theorem dX6_ifValue_2 : decode cX6_ifValue 2 = .ok (.iload_n 2, 1) := by decide +kernel
theorem dX6_ifValue_3 : decode cX6_ifValue 3 = .ok (.invokevirtual 98, 3) := by decide +kernel
theorem dX6_ifValue_6 : decode cX6_ifValue 6 = .ok (.aload_n 0, 1) := by decide +kernel
theorem dX6_ifValue_7 : decode cX6_ifValue 7 = .ok (.getfield 16, 3) := by decide +kernel
theorem dX6_ifValue_10 : decode cX6_ifValue 10 = .ok (.getfield 43, 3) := by decide +kernel
theorem dX6_ifValue_13 : decode cX6_ifValue 13 = .ok (.aload_n 0, 1) := by decide +kernel
theorem dX6_ifValue_14 : decode cX6_ifValue 14 = .ok (.getfield 10, 3) := by decide +kernel
theorem dX6_ifValue_17 : decode cX6_ifValue 17 = .ok (.getfield 43, 3) := by decide +kernel
theorem dX6_ifValue_20 : decode cX6_ifValue 20 = .ok (.invokevirtual 149, 3) := by decide +kernel
theorem dX6_ifValue_23 : decode cX6_ifValue 23 = .ok (.aload_n 0, 1) := by decide +kernel
theorem dX6_ifValue_24 : decode cX6_ifValue 24 = .ok (.getfield 16, 3) := by decide +kernel
theorem dX6_ifValue_27 : decode cX6_ifValue 27 = .ok (.getfield 43, 3) := by decide +kernel
theorem dX6_ifValue_30 : decode cX6_ifValue 30 = .ok (.getfield 47, 3) := by decide +kernel
theorem dX6_ifValue_33 : decode cX6_ifValue 33 = .ok (.getfield 102, 3) := by decide +kernel
theorem dX6_ifValue_36 : decode cX6_ifValue 36 = .ok (.iload_n 1, 1) := by decide +kernel
theorem dX6_ifValue_37 : decode cX6_ifValue 37 = .ok (.iload_n 2, 1) := by decide +kernel
theorem dX6_ifValue_38 : decode cX6_ifValue 38 = .ok (.iastore, 1) := by decide +kernel
theorem dX6_ifValue_39 : decode cX6_ifValue 39 = .ok (.aload_n 0, 1) := by decide +kernel
theorem dX6_ifValue_40 : decode cX6_ifValue 40 = .ok (.getfield 16, 3) := by decide +kernel
theorem dX6_ifValue_43 : decode cX6_ifValue 43 = .ok (.invokevirtual 40, 3) := by decide +kernel
theorem dX6_ifValue_46 : decode cX6_ifValue 46 = .ok (.aload_n 0, 1) := by decide +kernel
theorem dX6_ifValue_47 : decode cX6_ifValue 47 = .ok (.getfield 16, 3) := by decide +kernel
theorem dX6_ifValue_50 : decode cX6_ifValue 50 = .ok (.invokevirtual 64, 3) := by decide +kernel
theorem dX6_ifValue_53 : decode cX6_ifValue 53 = .ok (.aload_n 0, 1) := by decide +kernel
theorem dX6_ifValue_54 : decode cX6_ifValue 54 = .ok (.getfield 16, 3) := by decide +kernel
theorem dX6_ifValue_57 : decode cX6_ifValue 57 = .ok (.getfield 43, 3) := by decide +kernel
theorem dX6_ifValue_60 : decode cX6_ifValue 60 = .ok (.getfield 179, 3) := by decide +kernel
theorem dX6_ifValue_63 : decode cX6_ifValue 63 = .ok (.ifCond .eq 16, 3) := by decide +kernel
theorem dX6_ifValue_66 : decode cX6_ifValue 66 = .ok (.aload_n 0, 1) := by decide +kernel
theorem dX6_ifValue_67 : decode cX6_ifValue 67 = .ok (.getfield 16, 3) := by decide +kernel
theorem dX6_ifValue_70 : decode cX6_ifValue 70 = .ok (.getfield 43, 3) := by decide +kernel
theorem dX6_ifValue_73 : decode cX6_ifValue 73 = .ok (.getfield 133, 3) := by decide +kernel
theorem dX6_ifValue_76 : decode cX6_ifValue 76 = .ok (.goto 4, 3) := by decide +kernel
theorem dX6_ifValue_79 : decode cX6_ifValue 79 = .ok (.iconst (-1), 1) := by decide +kernel
theorem dX6_ifValue_80 : decode cX6_ifValue 80 = .ok (.ireturn, 1) := by decide +kernel
theorem dX6_part_0 : decode cX6_part 0 = .ok (.aload_n 0, 1) := by decide +kernel
theorem dX6_part_1 : decode cX6_part 1 = .ok (.iload_n 1, 1) := by decide +kernel
theorem dX6_part_2 : decode cX6_part 2 = .ok (.invokevirtual 111, 3) := by decide +kernel
theorem dX6_part_5 : decode cX6_part 5 = .ok (.iload_n 2, 1) := by decide +kernel
theorem dX6_part_6 : decode cX6_part 6 = .ok (.tableswitch 94 0 3 #[30, 46, 62, 78], 30) := by decide +kernel
theorem dX6_part_36 : decode cX6_part 36 = .ok (.aload_n 0, 1) := by decide +kernel
theorem dX6_part_37 : decode cX6_part 37 = .ok (.getfield 10, 3) := by decide +kernel
theorem dX6_part_40 : decode cX6_part 40 = .ok (.getfield 43, 3) := by decide +kernel
theorem dX6_part_43 : decode cX6_part 43 = .ok (.getfield 47, 3) := by decide +kernel
theorem dX6_part_46 : decode cX6_part 46 = .ok (.getfield 187, 3) := by decide +kernel
theorem dX6_part_49 : decode cX6_part 49 = .ok (.iload_n 1, 1) := by decide +kernel
theorem dX6_part_50 : decode cX6_part 50 = .ok (.iaload, 1) := by decide +kernel
theorem dX6_part_51 : decode cX6_part 51 = .ok (.ireturn, 1) := by decide +kernel
theorem dX6_part_52 : decode cX6_part 52 = .ok (.aload_n 0, 1) := by decide +kernel
theorem dX6_part_53 : decode cX6_part 53 = .ok (.getfield 10, 3) := by decide +kernel
theorem dX6_part_56 : decode cX6_part 56 = .ok (.getfield 43, 3) := by decide +kernel
theorem dX6_part_59 : decode cX6_part 59 = .ok (.getfield 47, 3) := by decide +kernel
theorem dX6_part_62 : decode cX6_part 62 = .ok (.getfield 195, 3) := by decide +kernel
theorem dX6_part_65 : decode cX6_part 65 = .ok (.iload_n 1, 1) := by decide +kernel
theorem dX6_part_66 : decode cX6_part 66 = .ok (.iaload, 1) := by decide +kernel
theorem dX6_part_67 : decode cX6_part 67 = .ok (.ireturn, 1) := by decide +kernel
theorem dX6_part_68 : decode cX6_part 68 = .ok (.aload_n 0, 1) := by decide +kernel
theorem dX6_part_69 : decode cX6_part 69 = .ok (.getfield 10, 3) := by decide +kernel
theorem dX6_part_72 : decode cX6_part 72 = .ok (.getfield 43, 3) := by decide +kernel
theorem dX6_part_75 : decode cX6_part 75 = .ok (.getfield 47, 3) := by decide +kernel
theorem dX6_part_78 : decode cX6_part 78 = .ok (.getfield 202, 3) := by decide +kernel
theorem dX6_part_81 : decode cX6_part 81 = .ok (.iload_n 1, 1) := by decide +kernel
theorem dX6_part_82 : decode cX6_part 82 = .ok (.iaload, 1) := by decide +kernel
theorem dX6_part_83 : decode cX6_part 83 = .ok (.ireturn, 1) := by decide +kernel
theorem dX6_part_84 : decode cX6_part 84 = .ok (.aload_n 0, 1) := by decide +kernel
theorem dX6_part_85 : decode cX6_part 85 = .ok (.getfield 10, 3) := by decide +kernel
theorem dX6_part_88 : decode cX6_part 88 = .ok (.getfield 43, 3) := by decide +kernel
theorem dX6_part_91 : decode cX6_part 91 = .ok (.getfield 47, 3) := by decide +kernel
theorem dX6_part_94 : decode cX6_part 94 = .ok (.getfield 102, 3) := by decide +kernel
theorem dX6_part_97 : decode cX6_part 97 = .ok (.iload_n 1, 1) := by decide +kernel
theorem dX6_part_98 : decode cX6_part 98 = .ok (.iaload, 1) := by decide +kernel
theorem dX6_part_99 : decode cX6_part 99 = .ok (.ireturn, 1) := by decide +kernel
theorem dX6_part_100 : decode cX6_part 100 = .ok (.new 75, 3) := by decide +kernel
theorem dX6_part_103 : decode cX6_part 103 = .ok (.dup, 1) := by decide +kernel
theorem dX6_part_104 : decode cX6_part 104 = .ok (.ldc 245, 2) := by decide +kernel
theorem dX6_part_106 : decode cX6_part 106 = .ok (.invokespecial 79, 3) := by decide +kernel
theorem dX6_part_109 : decode cX6_part 109 = .ok (.athrow, 1) := by decide +kernel
theorem dX6_count_0 : decode cX6_count 0 = .ok (.iload_n 1, 1) := by decide +kernel
theorem dX6_count_1 : decode cX6_count 1 = .ok (.tableswitch 155 0 9 #[55, 69, 77, 88, 99, 118, 123, 128, 142, 150], 55) := by decide +kernel
theorem dX6_count_56 : decode cX6_count 56 = .ok (.aload_n 0, 1) := by decide +kernel
theorem dX6_count_57 : decode cX6_count 57 = .ok (.getfield 10, 3) := by decide +kernel
theorem dX6_count_60 : decode cX6_count 60 = .ok (.getfield 43, 3) := by decide +kernel
theorem dX6_count_63 : decode cX6_count 63 = .ok (.getfield 47, 3) := by decide +kernel
theorem dX6_count_66 : decode cX6_count 66 = .ok (.getfield 51, 3) := by decide +kernel
theorem dX6_count_69 : decode cX6_count 69 = .ok (.ireturn, 1) := by decide +kernel
theorem dX6_count_70 : decode cX6_count 70 = .ok (.aload_n 0, 1) := by decide +kernel
theorem dX6_count_71 : decode cX6_count 71 = .ok (.getfield 10, 3) := by decide +kernel
theorem dX6_count_74 : decode cX6_count 74 = .ok (.getfield 213, 3) := by decide +kernel
theorem dX6_count_77 : decode cX6_count 77 = .ok (.ireturn, 1) := by decide +kernel
theorem dX6_count_78 : decode cX6_count 78 = .ok (.aload_n 0, 1) := by decide +kernel
theorem dX6_count_79 : decode cX6_count 79 = .ok (.getfield 10, 3) := by decide +kernel
theorem dX6_count_82 : decode cX6_count 82 = .ok (.getfield 43, 3) := by decide +kernel
theorem dX6_count_85 : decode cX6_count 85 = .ok (.getfield 108, 3) := by decide +kernel
theorem dX6_count_88 : decode cX6_count 88 = .ok (.ireturn, 1) := by decide +kernel
theorem dX6_count_89 : decode cX6_count 89 = .ok (.aload_n 0, 1) := by decide +kernel
theorem dX6_count_90 : decode cX6_count 90 = .ok (.getfield 10, 3) := by decide +kernel
theorem dX6_count_93 : decode cX6_count 93 = .ok (.getfield 43, 3) := by decide +kernel
theorem dX6_count_96 : decode cX6_count 96 = .ok (.getfield 133, 3) := by decide +kernel
theorem dX6_count_99 : decode cX6_count 99 = .ok (.ireturn, 1) := by decide +kernel
theorem dX6_count_100 : decode cX6_count 100 = .ok (.aload_n 0, 1) := by decide +kernel
theorem dX6_count_101 : decode cX6_count 101 = .ok (.getfield 10, 3) := by decide +kernel
theorem dX6_count_104 : decode cX6_count 104 = .ok (.getfield 43, 3) := by decide +kernel
theorem dX6_count_107 : decode cX6_count 107 = .ok (.getfield 179, 3) := by decide +kernel
theorem dX6_count_110 : decode cX6_count 110 = .ok (.ifCond .eq 7, 3) := by decide +kernel
theorem dX6_count_113 : decode cX6_count 113 = .ok (.iconst 1, 1) := by decide +kernel
theorem dX6_count_114 : decode cX6_count 114 = .ok (.goto 4, 3) := by decide +kernel
theorem dX6_count_117 : decode cX6_count 117 = .ok (.iconst 0, 1) := by decide +kernel
theorem dX6_count_118 : decode cX6_count 118 = .ok (.ireturn, 1) := by decide +kernel
theorem dX6_count_119 : decode cX6_count 119 = .ok (.aload_n 0, 1) := by decide +kernel
theorem dX6_count_120 : decode cX6_count 120 = .ok (.invokevirtual 247, 3) := by decide +kernel
theorem dX6_count_123 : decode cX6_count 123 = .ok (.ireturn, 1) := by decide +kernel
theorem dX6_count_124 : decode cX6_count 124 = .ok (.aload_n 0, 1) := by decide +kernel
theorem dX6_count_125 : decode cX6_count 125 = .ok (.invokevirtual 250, 3) := by decide +kernel
theorem dX6_count_128 : decode cX6_count 128 = .ok (.ireturn, 1) := by decide +kernel
theorem dX6_count_129 : decode cX6_count 129 = .ok (.aload_n 0, 1) := by decide +kernel
theorem dX6_count_130 : decode cX6_count 130 = .ok (.getfield 10, 3) := by decide +kernel
theorem dX6_count_133 : decode cX6_count 133 = .ok (.getfield 43, 3) := by decide +kernel
theorem dX6_count_136 : decode cX6_count 136 = .ok (.getfield 47, 3) := by decide +kernel
theorem dX6_count_139 : decode cX6_count 139 = .ok (.invokevirtual 253, 3) := by decide +kernel
theorem dX6_count_142 : decode cX6_count 142 = .ok (.ireturn, 1) := by decide +kernel
theorem dX6_count_143 : decode cX6_count 143 = .ok (.aload_n 0, 1) := by decide +kernel
theorem dX6_count_144 : decode cX6_count 144 = .ok (.getfield 29, 3) := by decide +kernel
theorem dX6_count_147 : decode cX6_count 147 = .ok (.getfield 136, 3) := by decide +kernel
theorem dX6_count_150 : decode cX6_count 150 = .ok (.ireturn, 1) := by decide +kernel
theorem dX6_count_151 : decode cX6_count 151 = .ok (.aload_n 0, 1) := by decide +kernel
theorem dX6_count_152 : decode cX6_count 152 = .ok (.getfield 152, 3) := by decide +kernel
theorem dX6_count_155 : decode cX6_count 155 = .ok (.ireturn, 1) := by decide +kernel
theorem dX6_count_156 : decode cX6_count 156 = .ok (.new 75, 3) := by decide +kernel
theorem dX6_count_159 : decode cX6_count 159 = .ok (.dup, 1) := by decide +kernel
theorem dX6_count_160 : decode cX6_count 160 = .ok (.ldc_w 256, 3) := by decide +kernel
theorem dX6_count_163 : decode cX6_count 163 = .ok (.invokespecial 79, 3) := by decide +kernel
theorem dX6_count_166 : decode cX6_count 166 = .ok (.athrow, 1) := by decide +kernel
theorem dX6_meanVoltage_0 : decode cX6_meanVoltage 0 = .ok (.aload_n 0, 1) := by decide +kernel
theorem dX6_meanVoltage_1 : decode cX6_meanVoltage 1 = .ok (.getfield 10, 3) := by decide +kernel
theorem dX6_meanVoltage_4 : decode cX6_meanVoltage 4 = .ok (.getfield 43, 3) := by decide +kernel
theorem dX6_meanVoltage_7 : decode cX6_meanVoltage 7 = .ok (.getfield 179, 3) := by decide +kernel
theorem dX6_meanVoltage_10 : decode cX6_meanVoltage 10 = .ok (.ifCond .ne 5, 3) := by decide +kernel
theorem dX6_meanVoltage_13 : decode cX6_meanVoltage 13 = .ok (.dconst 0, 1) := by decide +kernel
theorem dX6_meanVoltage_14 : decode cX6_meanVoltage 14 = .ok (.dreturn, 1) := by decide +kernel
theorem dX6_meanVoltage_15 : decode cX6_meanVoltage 15 = .ok (.aload_n 0, 1) := by decide +kernel
theorem dX6_meanVoltage_16 : decode cX6_meanVoltage 16 = .ok (.getfield 10, 3) := by decide +kernel
theorem dX6_meanVoltage_19 : decode cX6_meanVoltage 19 = .ok (.getfield 43, 3) := by decide +kernel
theorem dX6_meanVoltage_22 : decode cX6_meanVoltage 22 = .ok (.getfield 47, 3) := by decide +kernel
theorem dX6_meanVoltage_25 : decode cX6_meanVoltage 25 = .ok (.invokevirtual 253, 3) := by decide +kernel
theorem dX6_meanVoltage_28 : decode cX6_meanVoltage 28 = .ok (.istore_n 1, 1) := by decide +kernel
theorem dX6_meanVoltage_29 : decode cX6_meanVoltage 29 = .ok (.iload_n 1, 1) := by decide +kernel
theorem dX6_meanVoltage_30 : decode cX6_meanVoltage 30 = .ok (.invokestatic 258, 3) := by decide +kernel
theorem dX6_meanVoltage_33 : decode cX6_meanVoltage 33 = .ok (.istore_n 2, 1) := by decide +kernel
theorem dX6_meanVoltage_34 : decode cX6_meanVoltage 34 = .ok (.iload_n 2, 1) := by decide +kernel
theorem dX6_meanVoltage_35 : decode cX6_meanVoltage 35 = .ok (.ifCond .ne 5, 3) := by decide +kernel
theorem dX6_meanVoltage_38 : decode cX6_meanVoltage 38 = .ok (.dconst 0, 1) := by decide +kernel
theorem dX6_meanVoltage_39 : decode cX6_meanVoltage 39 = .ok (.dreturn, 1) := by decide +kernel
theorem dX6_meanVoltage_40 : decode cX6_meanVoltage 40 = .ok (.dconst 0, 1) := by decide +kernel
theorem dX6_meanVoltage_41 : decode cX6_meanVoltage 41 = .ok (.dstore_n 3, 1) := by decide +kernel
theorem dX6_meanVoltage_42 : decode cX6_meanVoltage 42 = .ok (.iconst 1, 1) := by decide +kernel
theorem dX6_meanVoltage_43 : decode cX6_meanVoltage 43 = .ok (.istore 5, 2) := by decide +kernel
theorem dX6_meanVoltage_45 : decode cX6_meanVoltage 45 = .ok (.iload 5, 2) := by decide +kernel
theorem dX6_meanVoltage_47 : decode cX6_meanVoltage 47 = .ok (.bipush 7, 2) := by decide +kernel
theorem dX6_meanVoltage_49 : decode cX6_meanVoltage 49 = .ok (.if_icmp .ge 38, 3) := by decide +kernel
theorem dX6_meanVoltage_52 : decode cX6_meanVoltage 52 = .ok (.iload_n 1, 1) := by decide +kernel
theorem dX6_meanVoltage_53 : decode cX6_meanVoltage 53 = .ok (.iload 5, 2) := by decide +kernel
theorem dX6_meanVoltage_55 : decode cX6_meanVoltage 55 = .ok (.invokestatic 155, 3) := by decide +kernel
theorem dX6_meanVoltage_58 : decode cX6_meanVoltage 58 = .ok (.ifCond .eq 23, 3) := by decide +kernel
theorem dX6_meanVoltage_61 : decode cX6_meanVoltage 61 = .ok (.dload_n 3, 1) := by decide +kernel
theorem dX6_meanVoltage_62 : decode cX6_meanVoltage 62 = .ok (.aload_n 0, 1) := by decide +kernel
theorem dX6_meanVoltage_63 : decode cX6_meanVoltage 63 = .ok (.iload 5, 2) := by decide +kernel
theorem dX6_meanVoltage_65 : decode cX6_meanVoltage 65 = .ok (.iconst 0, 1) := by decide +kernel
theorem dX6_meanVoltage_66 : decode cX6_meanVoltage 66 = .ok (.invokevirtual 263, 3) := by decide +kernel
theorem dX6_meanVoltage_69 : decode cX6_meanVoltage 69 = .ok (.l2d, 1) := by decide +kernel
theorem dX6_meanVoltage_70 : decode cX6_meanVoltage 70 = .ok (.aload_n 0, 1) := by decide +kernel
theorem dX6_meanVoltage_71 : decode cX6_meanVoltage 71 = .ok (.iload 5, 2) := by decide +kernel
theorem dX6_meanVoltage_73 : decode cX6_meanVoltage 73 = .ok (.iconst 1, 1) := by decide +kernel
theorem dX6_meanVoltage_74 : decode cX6_meanVoltage 74 = .ok (.invokevirtual 263, 3) := by decide +kernel
theorem dX6_meanVoltage_77 : decode cX6_meanVoltage 77 = .ok (.l2d, 1) := by decide +kernel
theorem dX6_meanVoltage_78 : decode cX6_meanVoltage 78 = .ok (.ddiv, 1) := by decide +kernel
theorem dX6_meanVoltage_79 : decode cX6_meanVoltage 79 = .ok (.dadd, 1) := by decide +kernel
theorem dX6_meanVoltage_80 : decode cX6_meanVoltage 80 = .ok (.dstore_n 3, 1) := by decide +kernel
theorem dX6_meanVoltage_81 : decode cX6_meanVoltage 81 = .ok (.iinc 5 1, 3) := by decide +kernel
theorem dX6_meanVoltage_84 : decode cX6_meanVoltage 84 = .ok (.goto (-39), 3) := by decide +kernel
theorem dX6_meanVoltage_87 : decode cX6_meanVoltage 87 = .ok (.dload_n 3, 1) := by decide +kernel
theorem dX6_meanVoltage_88 : decode cX6_meanVoltage 88 = .ok (.iload_n 2, 1) := by decide +kernel
theorem dX6_meanVoltage_89 : decode cX6_meanVoltage 89 = .ok (.i2d, 1) := by decide +kernel
theorem dX6_meanVoltage_90 : decode cX6_meanVoltage 90 = .ok (.ddiv, 1) := by decide +kernel
theorem dX6_meanVoltage_91 : decode cX6_meanVoltage 91 = .ok (.dreturn, 1) := by decide +kernel
theorem dX6_digest_0 : decode cX6_digest 0 = .ok (.ldc2_w 267, 3) := by decide +kernel
theorem dX6_digest_3 : decode cX6_digest 3 = .ok (.lstore_n 1, 1) := by decide +kernel
theorem dX6_digest_4 : decode cX6_digest 4 = .ok (.iconst 0, 1) := by decide +kernel
theorem dX6_digest_5 : decode cX6_digest 5 = .ok (.istore_n 3, 1) := by decide +kernel
theorem dX6_digest_6 : decode cX6_digest 6 = .ok (.iload_n 3, 1) := by decide +kernel
theorem dX6_digest_7 : decode cX6_digest 7 = .ok (.bipush 9, 2) := by decide +kernel
theorem dX6_digest_9 : decode cX6_digest 9 = .ok (.if_icmp .gt 20, 3) := by decide +kernel
theorem dX6_digest_12 : decode cX6_digest 12 = .ok (.lload_n 1, 1) := by decide +kernel
theorem dX6_digest_13 : decode cX6_digest 13 = .ok (.aload_n 0, 1) := by decide +kernel
theorem dX6_digest_14 : decode cX6_digest 14 = .ok (.iload_n 3, 1) := by decide +kernel
theorem dX6_digest_15 : decode cX6_digest 15 = .ok (.invokevirtual 269, 3) := by decide +kernel
theorem dX6_digest_18 : decode cX6_digest 18 = .ok (.i2l, 1) := by decide +kernel
theorem dX6_digest_19 : decode cX6_digest 19 = .ok (.invokestatic 272, 3) := by decide +kernel
theorem dX6_digest_22 : decode cX6_digest 22 = .ok (.lstore_n 1, 1) := by decide +kernel
theorem dX6_digest_23 : decode cX6_digest 23 = .ok (.iinc 3 1, 3) := by decide +kernel
theorem dX6_digest_26 : decode cX6_digest 26 = .ok (.goto (-20), 3) := by decide +kernel
theorem dX6_digest_29 : decode cX6_digest 29 = .ok (.aload_n 0, 1) := by decide +kernel
theorem dX6_digest_30 : decode cX6_digest 30 = .ok (.lload_n 1, 1) := by decide +kernel
theorem dX6_digest_31 : decode cX6_digest 31 = .ok (.invokevirtual 276, 3) := by decide +kernel
theorem dX6_digest_34 : decode cX6_digest 34 = .ok (.lstore_n 1, 1) := by decide +kernel
theorem dX6_digest_35 : decode cX6_digest 35 = .ok (.aload_n 0, 1) := by decide +kernel
theorem dX6_digest_36 : decode cX6_digest 36 = .ok (.lload_n 1, 1) := by decide +kernel
theorem dX6_digest_37 : decode cX6_digest 37 = .ok (.invokevirtual 280, 3) := by decide +kernel
theorem dX6_digest_40 : decode cX6_digest 40 = .ok (.lstore_n 1, 1) := by decide +kernel
theorem dX6_digest_41 : decode cX6_digest 41 = .ok (.aload_n 0, 1) := by decide +kernel
theorem dX6_digest_42 : decode cX6_digest 42 = .ok (.lload_n 1, 1) := by decide +kernel
theorem dX6_digest_43 : decode cX6_digest 43 = .ok (.invokevirtual 283, 3) := by decide +kernel
theorem dX6_digest_46 : decode cX6_digest 46 = .ok (.lstore_n 1, 1) := by decide +kernel
theorem dX6_digest_47 : decode cX6_digest 47 = .ok (.iconst 0, 1) := by decide +kernel
theorem dX6_digest_48 : decode cX6_digest 48 = .ok (.istore_n 3, 1) := by decide +kernel
theorem dX6_digest_49 : decode cX6_digest 49 = .ok (.iload_n 3, 1) := by decide +kernel
theorem dX6_digest_50 : decode cX6_digest 50 = .ok (.aload_n 0, 1) := by decide +kernel
theorem dX6_digest_51 : decode cX6_digest 51 = .ok (.getfield 10, 3) := by decide +kernel
theorem dX6_digest_54 : decode cX6_digest 54 = .ok (.invokevirtual 286, 3) := by decide +kernel
theorem dX6_digest_57 : decode cX6_digest 57 = .ok (.if_icmp .ge 31, 3) := by decide +kernel
theorem dX6_digest_60 : decode cX6_digest 60 = .ok (.lload_n 1, 1) := by decide +kernel
theorem dX6_digest_61 : decode cX6_digest 61 = .ok (.aload_n 0, 1) := by decide +kernel
theorem dX6_digest_62 : decode cX6_digest 62 = .ok (.iload_n 3, 1) := by decide +kernel
theorem dX6_digest_63 : decode cX6_digest 63 = .ok (.invokevirtual 289, 3) := by decide +kernel
theorem dX6_digest_66 : decode cX6_digest 66 = .ok (.i2l, 1) := by decide +kernel
theorem dX6_digest_67 : decode cX6_digest 67 = .ok (.invokestatic 272, 3) := by decide +kernel
theorem dX6_digest_70 : decode cX6_digest 70 = .ok (.lstore_n 1, 1) := by decide +kernel
theorem dX6_digest_71 : decode cX6_digest 71 = .ok (.lload_n 1, 1) := by decide +kernel
theorem dX6_digest_72 : decode cX6_digest 72 = .ok (.aload_n 0, 1) := by decide +kernel
theorem dX6_digest_73 : decode cX6_digest 73 = .ok (.iload_n 3, 1) := by decide +kernel
theorem dX6_digest_74 : decode cX6_digest 74 = .ok (.invokevirtual 292, 3) := by decide +kernel
theorem dX6_digest_77 : decode cX6_digest 77 = .ok (.i2l, 1) := by decide +kernel
theorem dX6_digest_78 : decode cX6_digest 78 = .ok (.invokestatic 272, 3) := by decide +kernel
theorem dX6_digest_81 : decode cX6_digest 81 = .ok (.lstore_n 1, 1) := by decide +kernel
theorem dX6_digest_82 : decode cX6_digest 82 = .ok (.iinc 3 1, 3) := by decide +kernel
theorem dX6_digest_85 : decode cX6_digest 85 = .ok (.goto (-36), 3) := by decide +kernel
theorem dX6_digest_88 : decode cX6_digest 88 = .ok (.lload_n 1, 1) := by decide +kernel
theorem dX6_digest_89 : decode cX6_digest 89 = .ok (.aload_n 0, 1) := by decide +kernel
theorem dX6_digest_90 : decode cX6_digest 90 = .ok (.invokevirtual 295, 3) := by decide +kernel
theorem dX6_digest_93 : decode cX6_digest 93 = .ok (.invokestatic 299, 3) := by decide +kernel
theorem dX6_digest_96 : decode cX6_digest 96 = .ok (.invokestatic 272, 3) := by decide +kernel
theorem dX6_digest_99 : decode cX6_digest 99 = .ok (.lstore_n 1, 1) := by decide +kernel
theorem dX6_digest_100 : decode cX6_digest 100 = .ok (.lload_n 1, 1) := by decide +kernel
theorem dX6_digest_101 : decode cX6_digest 101 = .ok (.aload_n 0, 1) := by decide +kernel
theorem dX6_digest_102 : decode cX6_digest 102 = .ok (.getfield 22, 3) := by decide +kernel
theorem dX6_digest_105 : decode cX6_digest 105 = .ok (.getfield 95, 3) := by decide +kernel
theorem dX6_digest_108 : decode cX6_digest 108 = .ok (.i2l, 1) := by decide +kernel
theorem dX6_digest_109 : decode cX6_digest 109 = .ok (.invokestatic 272, 3) := by decide +kernel
theorem dX6_digest_112 : decode cX6_digest 112 = .ok (.lstore_n 1, 1) := by decide +kernel
theorem dX6_digest_113 : decode cX6_digest 113 = .ok (.iconst 0, 1) := by decide +kernel
theorem dX6_digest_114 : decode cX6_digest 114 = .ok (.istore_n 3, 1) := by decide +kernel
theorem dX6_digest_115 : decode cX6_digest 115 = .ok (.iload_n 3, 1) := by decide +kernel
theorem dX6_digest_116 : decode cX6_digest 116 = .ok (.aload_n 0, 1) := by decide +kernel
theorem dX6_digest_117 : decode cX6_digest 117 = .ok (.getfield 22, 3) := by decide +kernel
theorem dX6_digest_120 : decode cX6_digest 120 = .ok (.getfield 95, 3) := by decide +kernel
theorem dX6_digest_123 : decode cX6_digest 123 = .ok (.if_icmp .ge 24, 3) := by decide +kernel
theorem dX6_digest_126 : decode cX6_digest 126 = .ok (.lload_n 1, 1) := by decide +kernel
theorem dX6_digest_127 : decode cX6_digest 127 = .ok (.aload_n 0, 1) := by decide +kernel
theorem dX6_digest_128 : decode cX6_digest 128 = .ok (.getfield 22, 3) := by decide +kernel
theorem dX6_digest_131 : decode cX6_digest 131 = .ok (.getfield 165, 3) := by decide +kernel
theorem dX6_digest_134 : decode cX6_digest 134 = .ok (.iload_n 3, 1) := by decide +kernel
theorem dX6_digest_135 : decode cX6_digest 135 = .ok (.caload, 1) := by decide +kernel
theorem dX6_digest_136 : decode cX6_digest 136 = .ok (.i2l, 1) := by decide +kernel
theorem dX6_digest_137 : decode cX6_digest 137 = .ok (.invokestatic 272, 3) := by decide +kernel
theorem dX6_digest_140 : decode cX6_digest 140 = .ok (.lstore_n 1, 1) := by decide +kernel
theorem dX6_digest_141 : decode cX6_digest 141 = .ok (.iinc 3 1, 3) := by decide +kernel
theorem dX6_digest_144 : decode cX6_digest 144 = .ok (.goto (-29), 3) := by decide +kernel
theorem dX6_digest_147 : decode cX6_digest 147 = .ok (.lload_n 1, 1) := by decide +kernel
theorem dX6_digest_148 : decode cX6_digest 148 = .ok (.lreturn, 1) := by decide +kernel
theorem dX6_mixedParts_0 : decode cX6_mixedParts 0 = .ok (.lload_n 1, 1) := by decide +kernel
theorem dX6_mixedParts_1 : decode cX6_mixedParts 1 = .ok (.lstore_n 3, 1) := by decide +kernel
theorem dX6_mixedParts_2 : decode cX6_mixedParts 2 = .ok (.iconst 0, 1) := by decide +kernel
theorem dX6_mixedParts_3 : decode cX6_mixedParts 3 = .ok (.istore 5, 2) := by decide +kernel
theorem dX6_mixedParts_5 : decode cX6_mixedParts 5 = .ok (.iload 5, 2) := by decide +kernel
theorem dX6_mixedParts_7 : decode cX6_mixedParts 7 = .ok (.aload_n 0, 1) := by decide +kernel
theorem dX6_mixedParts_8 : decode cX6_mixedParts 8 = .ok (.getfield 10, 3) := by decide +kernel
theorem dX6_mixedParts_11 : decode cX6_mixedParts 11 = .ok (.getfield 43, 3) := by decide +kernel
theorem dX6_mixedParts_14 : decode cX6_mixedParts 14 = .ok (.getfield 47, 3) := by decide +kernel
theorem dX6_mixedParts_17 : decode cX6_mixedParts 17 = .ok (.getfield 51, 3) := by decide +kernel
theorem dX6_mixedParts_20 : decode cX6_mixedParts 20 = .ok (.if_icmp .ge 38, 3) := by decide +kernel
theorem dX6_mixedParts_23 : decode cX6_mixedParts 23 = .ok (.iconst 0, 1) := by decide +kernel
theorem dX6_mixedParts_24 : decode cX6_mixedParts 24 = .ok (.istore 6, 2) := by decide +kernel
theorem dX6_mixedParts_26 : decode cX6_mixedParts 26 = .ok (.iload 6, 2) := by decide +kernel
theorem dX6_mixedParts_28 : decode cX6_mixedParts 28 = .ok (.iconst 3, 1) := by decide +kernel
theorem dX6_mixedParts_29 : decode cX6_mixedParts 29 = .ok (.if_icmp .gt 23, 3) := by decide +kernel
theorem dX6_mixedParts_32 : decode cX6_mixedParts 32 = .ok (.lload_n 3, 1) := by decide +kernel
theorem dX6_mixedParts_33 : decode cX6_mixedParts 33 = .ok (.aload_n 0, 1) := by decide +kernel
theorem dX6_mixedParts_34 : decode cX6_mixedParts 34 = .ok (.iload 5, 2) := by decide +kernel
theorem dX6_mixedParts_36 : decode cX6_mixedParts 36 = .ok (.iload 6, 2) := by decide +kernel
theorem dX6_mixedParts_38 : decode cX6_mixedParts 38 = .ok (.invokevirtual 303, 3) := by decide +kernel
theorem dX6_mixedParts_41 : decode cX6_mixedParts 41 = .ok (.i2l, 1) := by decide +kernel
theorem dX6_mixedParts_42 : decode cX6_mixedParts 42 = .ok (.invokestatic 272, 3) := by decide +kernel
theorem dX6_mixedParts_45 : decode cX6_mixedParts 45 = .ok (.lstore_n 3, 1) := by decide +kernel
theorem dX6_mixedParts_46 : decode cX6_mixedParts 46 = .ok (.iinc 6 1, 3) := by decide +kernel
theorem dX6_mixedParts_49 : decode cX6_mixedParts 49 = .ok (.goto (-23), 3) := by decide +kernel
theorem dX6_mixedParts_52 : decode cX6_mixedParts 52 = .ok (.iinc 5 1, 3) := by decide +kernel
theorem dX6_mixedParts_55 : decode cX6_mixedParts 55 = .ok (.goto (-50), 3) := by decide +kernel
theorem dX6_mixedParts_58 : decode cX6_mixedParts 58 = .ok (.lload_n 3, 1) := by decide +kernel
theorem dX6_mixedParts_59 : decode cX6_mixedParts 59 = .ok (.lreturn, 1) := by decide +kernel
theorem dX6_mixedVoltages_0 : decode cX6_mixedVoltages 0 = .ok (.lload_n 1, 1) := by decide +kernel
theorem dX6_mixedVoltages_1 : decode cX6_mixedVoltages 1 = .ok (.lstore_n 3, 1) := by decide +kernel
theorem dX6_mixedVoltages_2 : decode cX6_mixedVoltages 2 = .ok (.iconst 0, 1) := by decide +kernel
theorem dX6_mixedVoltages_3 : decode cX6_mixedVoltages 3 = .ok (.istore 5, 2) := by decide +kernel
theorem dX6_mixedVoltages_5 : decode cX6_mixedVoltages 5 = .ok (.iload 5, 2) := by decide +kernel
theorem dX6_mixedVoltages_7 : decode cX6_mixedVoltages 7 = .ok (.bipush 7, 2) := by decide +kernel
theorem dX6_mixedVoltages_9 : decode cX6_mixedVoltages 9 = .ok (.if_icmp .ge 33, 3) := by decide +kernel
theorem dX6_mixedVoltages_12 : decode cX6_mixedVoltages 12 = .ok (.lload_n 3, 1) := by decide +kernel
theorem dX6_mixedVoltages_13 : decode cX6_mixedVoltages 13 = .ok (.aload_n 0, 1) := by decide +kernel
theorem dX6_mixedVoltages_14 : decode cX6_mixedVoltages 14 = .ok (.iload 5, 2) := by decide +kernel
theorem dX6_mixedVoltages_16 : decode cX6_mixedVoltages 16 = .ok (.iconst 0, 1) := by decide +kernel
theorem dX6_mixedVoltages_17 : decode cX6_mixedVoltages 17 = .ok (.invokevirtual 263, 3) := by decide +kernel
theorem dX6_mixedVoltages_20 : decode cX6_mixedVoltages 20 = .ok (.invokestatic 272, 3) := by decide +kernel
theorem dX6_mixedVoltages_23 : decode cX6_mixedVoltages 23 = .ok (.lstore_n 3, 1) := by decide +kernel
theorem dX6_mixedVoltages_24 : decode cX6_mixedVoltages 24 = .ok (.lload_n 3, 1) := by decide +kernel
theorem dX6_mixedVoltages_25 : decode cX6_mixedVoltages 25 = .ok (.aload_n 0, 1) := by decide +kernel
theorem dX6_mixedVoltages_26 : decode cX6_mixedVoltages 26 = .ok (.iload 5, 2) := by decide +kernel
theorem dX6_mixedVoltages_28 : decode cX6_mixedVoltages 28 = .ok (.iconst 1, 1) := by decide +kernel
theorem dX6_mixedVoltages_29 : decode cX6_mixedVoltages 29 = .ok (.invokevirtual 263, 3) := by decide +kernel
theorem dX6_mixedVoltages_32 : decode cX6_mixedVoltages 32 = .ok (.invokestatic 272, 3) := by decide +kernel
theorem dX6_mixedVoltages_35 : decode cX6_mixedVoltages 35 = .ok (.lstore_n 3, 1) := by decide +kernel
theorem dX6_mixedVoltages_36 : decode cX6_mixedVoltages 36 = .ok (.iinc 5 1, 3) := by decide +kernel
theorem dX6_mixedVoltages_39 : decode cX6_mixedVoltages 39 = .ok (.goto (-34), 3) := by decide +kernel
theorem dX6_mixedVoltages_42 : decode cX6_mixedVoltages 42 = .ok (.lload_n 3, 1) := by decide +kernel
theorem dX6_mixedVoltages_43 : decode cX6_mixedVoltages 43 = .ok (.lreturn, 1) := by decide +kernel
theorem dX6_mixedAmplifiers_0 : decode cX6_mixedAmplifiers 0 = .ok (.lload_n 1, 1) := by decide +kernel
theorem dX6_mixedAmplifiers_1 : decode cX6_mixedAmplifiers 1 = .ok (.lstore_n 3, 1) := by decide +kernel
theorem dX6_mixedAmplifiers_2 : decode cX6_mixedAmplifiers 2 = .ok (.iconst 0, 1) := by decide +kernel
theorem dX6_mixedAmplifiers_3 : decode cX6_mixedAmplifiers 3 = .ok (.istore 5, 2) := by decide +kernel
theorem dX6_mixedAmplifiers_5 : decode cX6_mixedAmplifiers 5 = .ok (.iload 5, 2) := by decide +kernel
theorem dX6_mixedAmplifiers_7 : decode cX6_mixedAmplifiers 7 = .ok (.aload_n 0, 1) := by decide +kernel
theorem dX6_mixedAmplifiers_8 : decode cX6_mixedAmplifiers 8 = .ok (.getfield 10, 3) := by decide +kernel
theorem dX6_mixedAmplifiers_11 : decode cX6_mixedAmplifiers 11 = .ok (.getfield 213, 3) := by decide +kernel
theorem dX6_mixedAmplifiers_14 : decode cX6_mixedAmplifiers 14 = .ok (.if_icmp .ge 38, 3) := by decide +kernel
theorem dX6_mixedAmplifiers_17 : decode cX6_mixedAmplifiers 17 = .ok (.iconst 0, 1) := by decide +kernel
theorem dX6_mixedAmplifiers_18 : decode cX6_mixedAmplifiers 18 = .ok (.istore 6, 2) := by decide +kernel
theorem dX6_mixedAmplifiers_20 : decode cX6_mixedAmplifiers 20 = .ok (.iload 6, 2) := by decide +kernel
theorem dX6_mixedAmplifiers_22 : decode cX6_mixedAmplifiers 22 = .ok (.iconst 2, 1) := by decide +kernel
theorem dX6_mixedAmplifiers_23 : decode cX6_mixedAmplifiers 23 = .ok (.if_icmp .gt 23, 3) := by decide +kernel
theorem dX6_mixedAmplifiers_26 : decode cX6_mixedAmplifiers 26 = .ok (.lload_n 3, 1) := by decide +kernel
theorem dX6_mixedAmplifiers_27 : decode cX6_mixedAmplifiers 27 = .ok (.aload_n 0, 1) := by decide +kernel
theorem dX6_mixedAmplifiers_28 : decode cX6_mixedAmplifiers 28 = .ok (.iload 5, 2) := by decide +kernel
theorem dX6_mixedAmplifiers_30 : decode cX6_mixedAmplifiers 30 = .ok (.iload 6, 2) := by decide +kernel
theorem dX6_mixedAmplifiers_32 : decode cX6_mixedAmplifiers 32 = .ok (.invokevirtual 306, 3) := by decide +kernel
theorem dX6_mixedAmplifiers_35 : decode cX6_mixedAmplifiers 35 = .ok (.i2l, 1) := by decide +kernel
theorem dX6_mixedAmplifiers_36 : decode cX6_mixedAmplifiers 36 = .ok (.invokestatic 272, 3) := by decide +kernel
theorem dX6_mixedAmplifiers_39 : decode cX6_mixedAmplifiers 39 = .ok (.lstore_n 3, 1) := by decide +kernel
theorem dX6_mixedAmplifiers_40 : decode cX6_mixedAmplifiers 40 = .ok (.iinc 6 1, 3) := by decide +kernel
theorem dX6_mixedAmplifiers_43 : decode cX6_mixedAmplifiers 43 = .ok (.goto (-23), 3) := by decide +kernel
theorem dX6_mixedAmplifiers_46 : decode cX6_mixedAmplifiers 46 = .ok (.iinc 5 1, 3) := by decide +kernel
theorem dX6_mixedAmplifiers_49 : decode cX6_mixedAmplifiers 49 = .ok (.goto (-44), 3) := by decide +kernel
theorem dX6_mixedAmplifiers_52 : decode cX6_mixedAmplifiers 52 = .ok (.lload_n 3, 1) := by decide +kernel
theorem dX6_mixedAmplifiers_53 : decode cX6_mixedAmplifiers 53 = .ok (.lreturn, 1) := by decide +kernel
theorem dX6_holdingCases_0 : decode cX6_holdingCases 0 = .ok (.iconst 0, 1) := by decide +kernel
theorem dX6_holdingCases_1 : decode cX6_holdingCases 1 = .ok (.istore_n 1, 1) := by decide +kernel
theorem dX6_holdingCases_2 : decode cX6_holdingCases 2 = .ok (.iconst 0, 1) := by decide +kernel
theorem dX6_holdingCases_3 : decode cX6_holdingCases 3 = .ok (.istore_n 2, 1) := by decide +kernel
theorem dX6_holdingCases_4 : decode cX6_holdingCases 4 = .ok (.iload_n 2, 1) := by decide +kernel
theorem dX6_holdingCases_5 : decode cX6_holdingCases 5 = .ok (.aload_n 0, 1) := by decide +kernel
theorem dX6_holdingCases_6 : decode cX6_holdingCases 6 = .ok (.getfield 10, 3) := by decide +kernel
theorem dX6_holdingCases_9 : decode cX6_holdingCases 9 = .ok (.invokevirtual 286, 3) := by decide +kernel
theorem dX6_holdingCases_12 : decode cX6_holdingCases 12 = .ok (.if_icmp .ge 30, 3) := by decide +kernel
theorem dX6_holdingCases_15 : decode cX6_holdingCases 15 = .ok (.aload_n 0, 1) := by decide +kernel
theorem dX6_holdingCases_16 : decode cX6_holdingCases 16 = .ok (.getfield 10, 3) := by decide +kernel
theorem dX6_holdingCases_19 : decode cX6_holdingCases 19 = .ok (.iload_n 2, 1) := by decide +kernel
theorem dX6_holdingCases_20 : decode cX6_holdingCases 20 = .ok (.invokevirtual 236, 3) := by decide +kernel
theorem dX6_holdingCases_23 : decode cX6_holdingCases 23 = .ok (.aload_n 0, 1) := by decide +kernel
theorem dX6_holdingCases_24 : decode cX6_holdingCases 24 = .ok (.getfield 10, 3) := by decide +kernel
theorem dX6_holdingCases_27 : decode cX6_holdingCases 27 = .ok (.getfield 239, 3) := by decide +kernel
theorem dX6_holdingCases_30 : decode cX6_holdingCases 30 = .ok (.ifCond .ne 6, 3) := by decide +kernel
theorem dX6_holdingCases_33 : decode cX6_holdingCases 33 = .ok (.iinc 1 1, 3) := by decide +kernel
theorem dX6_holdingCases_36 : decode cX6_holdingCases 36 = .ok (.iinc 2 1, 3) := by decide +kernel
theorem dX6_holdingCases_39 : decode cX6_holdingCases 39 = .ok (.goto (-35), 3) := by decide +kernel
theorem dX6_holdingCases_42 : decode cX6_holdingCases 42 = .ok (.iload_n 1, 1) := by decide +kernel
theorem dX6_holdingCases_43 : decode cX6_holdingCases 43 = .ok (.ireturn, 1) := by decide +kernel
theorem dX6_determinedCases_0 : decode cX6_determinedCases 0 = .ok (.iconst 0, 1) := by decide +kernel
theorem dX6_determinedCases_1 : decode cX6_determinedCases 1 = .ok (.istore_n 1, 1) := by decide +kernel
theorem dX6_determinedCases_2 : decode cX6_determinedCases 2 = .ok (.iconst 0, 1) := by decide +kernel
theorem dX6_determinedCases_3 : decode cX6_determinedCases 3 = .ok (.istore_n 2, 1) := by decide +kernel
theorem dX6_determinedCases_4 : decode cX6_determinedCases 4 = .ok (.iload_n 2, 1) := by decide +kernel
theorem dX6_determinedCases_5 : decode cX6_determinedCases 5 = .ok (.aload_n 0, 1) := by decide +kernel
theorem dX6_determinedCases_6 : decode cX6_determinedCases 6 = .ok (.getfield 10, 3) := by decide +kernel
theorem dX6_determinedCases_9 : decode cX6_determinedCases 9 = .ok (.invokevirtual 286, 3) := by decide +kernel
theorem dX6_determinedCases_12 : decode cX6_determinedCases 12 = .ok (.if_icmp .ge 23, 3) := by decide +kernel
theorem dX6_determinedCases_15 : decode cX6_determinedCases 15 = .ok (.aload_n 0, 1) := by decide +kernel
theorem dX6_determinedCases_16 : decode cX6_determinedCases 16 = .ok (.getfield 10, 3) := by decide +kernel
theorem dX6_determinedCases_19 : decode cX6_determinedCases 19 = .ok (.iload_n 2, 1) := by decide +kernel
theorem dX6_determinedCases_20 : decode cX6_determinedCases 20 = .ok (.invokevirtual 309, 3) := by decide +kernel
theorem dX6_determinedCases_23 : decode cX6_determinedCases 23 = .ok (.ifCond .eq 6, 3) := by decide +kernel
theorem dX6_determinedCases_26 : decode cX6_determinedCases 26 = .ok (.iinc 1 1, 3) := by decide +kernel
theorem dX6_determinedCases_29 : decode cX6_determinedCases 29 = .ok (.iinc 2 1, 3) := by decide +kernel
theorem dX6_determinedCases_32 : decode cX6_determinedCases 32 = .ok (.goto (-28), 3) := by decide +kernel
theorem dX6_determinedCases_35 : decode cX6_determinedCases 35 = .ok (.iload_n 1, 1) := by decide +kernel
theorem dX6_determinedCases_36 : decode cX6_determinedCases 36 = .ok (.ireturn, 1) := by decide +kernel
theorem dX6_requirePart_0 : decode cX6_requirePart 0 = .ok (.iload_n 1, 1) := by decide +kernel
theorem dX6_requirePart_1 : decode cX6_requirePart 1 = .ok (.ifCond .lt 20, 3) := by decide +kernel
theorem dX6_requirePart_4 : decode cX6_requirePart 4 = .ok (.iload_n 1, 1) := by decide +kernel
theorem dX6_requirePart_5 : decode cX6_requirePart 5 = .ok (.aload_n 0, 1) := by decide +kernel
theorem dX6_requirePart_6 : decode cX6_requirePart 6 = .ok (.getfield 10, 3) := by decide +kernel
theorem dX6_requirePart_9 : decode cX6_requirePart 9 = .ok (.getfield 43, 3) := by decide +kernel
theorem dX6_requirePart_12 : decode cX6_requirePart 12 = .ok (.getfield 47, 3) := by decide +kernel
theorem dX6_requirePart_15 : decode cX6_requirePart 15 = .ok (.getfield 51, 3) := by decide +kernel
theorem dX6_requirePart_18 : decode cX6_requirePart 18 = .ok (.if_icmp .lt 14, 3) := by decide +kernel
theorem dX6_requirePart_21 : decode cX6_requirePart 21 = .ok (.new 216, 3) := by decide +kernel
theorem dX6_requirePart_24 : decode cX6_requirePart 24 = .ok (.dup, 1) := by decide +kernel
theorem dX6_requirePart_25 : decode cX6_requirePart 25 = .ok (.ldc_w 312, 3) := by decide +kernel
theorem dX6_requirePart_28 : decode cX6_requirePart 28 = .ok (.invokespecial 220, 3) := by decide +kernel
theorem dX6_requirePart_31 : decode cX6_requirePart 31 = .ok (.athrow, 1) := by decide +kernel
theorem dX6_requirePart_32 : decode cX6_requirePart 32 = .ok (.return_, 1) := by decide +kernel
theorem dX6_requireSource_0 : decode cX6_requireSource 0 = .ok (.aload_n 0, 1) := by decide +kernel
theorem dX6_requireSource_1 : decode cX6_requireSource 1 = .ok (.iload_n 1, 1) := by decide +kernel
theorem dX6_requireSource_2 : decode cX6_requireSource 2 = .ok (.invokevirtual 111, 3) := by decide +kernel
theorem dX6_requireSource_5 : decode cX6_requireSource 5 = .ok (.aload_n 0, 1) := by decide +kernel
theorem dX6_requireSource_6 : decode cX6_requireSource 6 = .ok (.getfield 10, 3) := by decide +kernel
theorem dX6_requireSource_9 : decode cX6_requireSource 9 = .ok (.getfield 43, 3) := by decide +kernel
theorem dX6_requireSource_12 : decode cX6_requireSource 12 = .ok (.getfield 47, 3) := by decide +kernel
theorem dX6_requireSource_15 : decode cX6_requireSource 15 = .ok (.getfield 187, 3) := by decide +kernel
theorem dX6_requireSource_18 : decode cX6_requireSource 18 = .ok (.iload_n 1, 1) := by decide +kernel
theorem dX6_requireSource_19 : decode cX6_requireSource 19 = .ok (.iaload, 1) := by decide +kernel
theorem dX6_requireSource_20 : decode cX6_requireSource 20 = .ok (.iconst 1, 1) := by decide +kernel
theorem dX6_requireSource_21 : decode cX6_requireSource 21 = .ok (.if_icmp .eq 14, 3) := by decide +kernel
theorem dX6_requireSource_24 : decode cX6_requireSource 24 = .ok (.new 86, 3) := by decide +kernel
theorem dX6_requireSource_27 : decode cX6_requireSource 27 = .ok (.dup, 1) := by decide +kernel
theorem dX6_requireSource_28 : decode cX6_requireSource 28 = .ok (.ldc_w 314, 3) := by decide +kernel
theorem dX6_requireSource_31 : decode cX6_requireSource 31 = .ok (.invokespecial 90, 3) := by decide +kernel
theorem dX6_requireSource_34 : decode cX6_requireSource 34 = .ok (.athrow, 1) := by decide +kernel
theorem dX6_requireSource_35 : decode cX6_requireSource 35 = .ok (.return_, 1) := by decide +kernel
theorem dX6_requireSettable_0 : decode cX6_requireSettable 0 = .ok (.aload_n 0, 1) := by decide +kernel
theorem dX6_requireSettable_1 : decode cX6_requireSettable 1 = .ok (.iload_n 1, 1) := by decide +kernel
theorem dX6_requireSettable_2 : decode cX6_requireSettable 2 = .ok (.invokevirtual 111, 3) := by decide +kernel
theorem dX6_requireSettable_5 : decode cX6_requireSettable 5 = .ok (.aload_n 0, 1) := by decide +kernel
theorem dX6_requireSettable_6 : decode cX6_requireSettable 6 = .ok (.getfield 10, 3) := by decide +kernel
theorem dX6_requireSettable_9 : decode cX6_requireSettable 9 = .ok (.getfield 43, 3) := by decide +kernel
theorem dX6_requireSettable_12 : decode cX6_requireSettable 12 = .ok (.getfield 47, 3) := by decide +kernel
theorem dX6_requireSettable_15 : decode cX6_requireSettable 15 = .ok (.getfield 187, 3) := by decide +kernel
theorem dX6_requireSettable_18 : decode cX6_requireSettable 18 = .ok (.iload_n 1, 1) := by decide +kernel
theorem dX6_requireSettable_19 : decode cX6_requireSettable 19 = .ok (.iaload, 1) := by decide +kernel
theorem dX6_requireSettable_20 : decode cX6_requireSettable 20 = .ok (.istore_n 3, 1) := by decide +kernel
theorem dX6_requireSettable_21 : decode cX6_requireSettable 21 = .ok (.iload_n 3, 1) := by decide +kernel
theorem dX6_requireSettable_22 : decode cX6_requireSettable 22 = .ok (.iconst 2, 1) := by decide +kernel
theorem dX6_requireSettable_23 : decode cX6_requireSettable 23 = .ok (.if_icmp .ne 14, 3) := by decide +kernel
theorem dX6_requireSettable_26 : decode cX6_requireSettable 26 = .ok (.new 86, 3) := by decide +kernel
theorem dX6_requireSettable_29 : decode cX6_requireSettable 29 = .ok (.dup, 1) := by decide +kernel
theorem dX6_requireSettable_30 : decode cX6_requireSettable 30 = .ok (.ldc_w 316, 3) := by decide +kernel
theorem dX6_requireSettable_33 : decode cX6_requireSettable 33 = .ok (.invokespecial 90, 3) := by decide +kernel
theorem dX6_requireSettable_36 : decode cX6_requireSettable 36 = .ok (.athrow, 1) := by decide +kernel
theorem dX6_requireSettable_37 : decode cX6_requireSettable 37 = .ok (.iload_n 3, 1) := by decide +kernel
theorem dX6_requireSettable_38 : decode cX6_requireSettable 38 = .ok (.ifCond .ne 21, 3) := by decide +kernel
theorem dX6_requireSettable_41 : decode cX6_requireSettable 41 = .ok (.iload_n 2, 1) := by decide +kernel
theorem dX6_requireSettable_42 : decode cX6_requireSettable 42 = .ok (.iconst 1, 1) := by decide +kernel
theorem dX6_requireSettable_43 : decode cX6_requireSettable 43 = .ok (.if_icmp .lt 12, 3) := by decide +kernel
theorem dX6_requireSettable_46 : decode cX6_requireSettable 46 = .ok (.iload_n 2, 1) := by decide +kernel
theorem dX6_requireSettable_47 : decode cX6_requireSettable 47 = .ok (.iconst 4, 1) := by decide +kernel
theorem dX6_requireSettable_48 : decode cX6_requireSettable 48 = .ok (.if_icmp .gt 7, 3) := by decide +kernel
theorem dX6_requireSettable_51 : decode cX6_requireSettable 51 = .ok (.iconst 1, 1) := by decide +kernel
theorem dX6_requireSettable_52 : decode cX6_requireSettable 52 = .ok (.goto 11, 3) := by decide +kernel
theorem dX6_requireSettable_55 : decode cX6_requireSettable 55 = .ok (.iconst 0, 1) := by decide +kernel
theorem dX6_requireSettable_56 : decode cX6_requireSettable 56 = .ok (.goto 7, 3) := by decide +kernel
theorem dX6_requireSettable_59 : decode cX6_requireSettable 59 = .ok (.iload_n 2, 1) := by decide +kernel
theorem dX6_requireSettable_60 : decode cX6_requireSettable 60 = .ok (.invokestatic 121, 3) := by decide +kernel
theorem dX6_requireSettable_63 : decode cX6_requireSettable 63 = .ok (.istore 4, 2) := by decide +kernel
theorem dX6_requireSettable_65 : decode cX6_requireSettable 65 = .ok (.iload 4, 2) := by decide +kernel
theorem dX6_requireSettable_67 : decode cX6_requireSettable 67 = .ok (.ifCond .ne 14, 3) := by decide +kernel
theorem dX6_requireSettable_70 : decode cX6_requireSettable 70 = .ok (.new 75, 3) := by decide +kernel
theorem dX6_requireSettable_73 : decode cX6_requireSettable 73 = .ok (.dup, 1) := by decide +kernel
theorem dX6_requireSettable_74 : decode cX6_requireSettable 74 = .ok (.ldc_w 318, 3) := by decide +kernel
theorem dX6_requireSettable_77 : decode cX6_requireSettable 77 = .ok (.invokespecial 79, 3) := by decide +kernel
theorem dX6_requireSettable_80 : decode cX6_requireSettable 80 = .ok (.athrow, 1) := by decide +kernel
theorem dX6_requireSettable_81 : decode cX6_requireSettable 81 = .ok (.return_, 1) := by decide +kernel
theorem dX6_requireImage_0 : decode cX6_requireImage 0 = .ok (.iload_n 1, 1) := by decide +kernel
theorem dX6_requireImage_1 : decode cX6_requireImage 1 = .ok (.ifCond .lt 8, 3) := by decide +kernel
theorem dX6_requireImage_4 : decode cX6_requireImage 4 = .ok (.iload_n 1, 1) := by decide +kernel
theorem dX6_requireImage_5 : decode cX6_requireImage 5 = .ok (.iconst 2, 1) := by decide +kernel
theorem dX6_requireImage_6 : decode cX6_requireImage 6 = .ok (.if_icmp .lt 14, 3) := by decide +kernel
theorem dX6_requireImage_9 : decode cX6_requireImage 9 = .ok (.new 216, 3) := by decide +kernel
theorem dX6_requireImage_12 : decode cX6_requireImage 12 = .ok (.dup, 1) := by decide +kernel
theorem dX6_requireImage_13 : decode cX6_requireImage 13 = .ok (.ldc_w 320, 3) := by decide +kernel
theorem dX6_requireImage_16 : decode cX6_requireImage 16 = .ok (.invokespecial 220, 3) := by decide +kernel
theorem dX6_requireImage_19 : decode cX6_requireImage 19 = .ok (.athrow, 1) := by decide +kernel
theorem dX6_requireImage_20 : decode cX6_requireImage 20 = .ok (.return_, 1) := by decide +kernel
theorem dX6_requireCase_0 : decode cX6_requireCase 0 = .ok (.iload_n 1, 1) := by decide +kernel
theorem dX6_requireCase_1 : decode cX6_requireCase 1 = .ok (.ifCond .lt 14, 3) := by decide +kernel
theorem dX6_requireCase_4 : decode cX6_requireCase 4 = .ok (.iload_n 1, 1) := by decide +kernel
theorem dX6_requireCase_5 : decode cX6_requireCase 5 = .ok (.aload_n 0, 1) := by decide +kernel
theorem dX6_requireCase_6 : decode cX6_requireCase 6 = .ok (.getfield 10, 3) := by decide +kernel
theorem dX6_requireCase_9 : decode cX6_requireCase 9 = .ok (.invokevirtual 286, 3) := by decide +kernel
theorem dX6_requireCase_12 : decode cX6_requireCase 12 = .ok (.if_icmp .lt 14, 3) := by decide +kernel
theorem dX6_requireCase_15 : decode cX6_requireCase 15 = .ok (.new 216, 3) := by decide +kernel
theorem dX6_requireCase_18 : decode cX6_requireCase 18 = .ok (.dup, 1) := by decide +kernel
theorem dX6_requireCase_19 : decode cX6_requireCase 19 = .ok (.ldc_w 322, 3) := by decide +kernel
theorem dX6_requireCase_22 : decode cX6_requireCase 22 = .ok (.invokespecial 220, 3) := by decide +kernel
theorem dX6_requireCase_25 : decode cX6_requireCase 25 = .ok (.athrow, 1) := by decide +kernel
theorem dX6_requireCase_26 : decode cX6_requireCase 26 = .ok (.return_, 1) := by decide +kernel
theorem dX6_requireNode_0 : decode cX6_requireNode 0 = .ok (.iload_n 0, 1) := by decide +kernel
theorem dX6_requireNode_1 : decode cX6_requireNode 1 = .ok (.ifCond .lt 9, 3) := by decide +kernel
theorem dX6_requireNode_4 : decode cX6_requireNode 4 = .ok (.iload_n 0, 1) := by decide +kernel
theorem dX6_requireNode_5 : decode cX6_requireNode 5 = .ok (.bipush 7, 2) := by decide +kernel
theorem dX6_requireNode_7 : decode cX6_requireNode 7 = .ok (.if_icmp .lt 14, 3) := by decide +kernel
theorem dX6_requireNode_10 : decode cX6_requireNode 10 = .ok (.new 216, 3) := by decide +kernel
theorem dX6_requireNode_13 : decode cX6_requireNode 13 = .ok (.dup, 1) := by decide +kernel
theorem dX6_requireNode_14 : decode cX6_requireNode 14 = .ok (.ldc_w 324, 3) := by decide +kernel
theorem dX6_requireNode_17 : decode cX6_requireNode 17 = .ok (.invokespecial 220, 3) := by decide +kernel
theorem dX6_requireNode_20 : decode cX6_requireNode 20 = .ok (.athrow, 1) := by decide +kernel
theorem dX6_requireNode_21 : decode cX6_requireNode 21 = .ok (.return_, 1) := by decide +kernel
theorem dX6_requireFractionSide_0 : decode cX6_requireFractionSide 0 = .ok (.iload_n 0, 1) := by decide +kernel
theorem dX6_requireFractionSide_1 : decode cX6_requireFractionSide 1 = .ok (.ifCond .eq 19, 3) := by decide +kernel
theorem dX6_requireFractionSide_4 : decode cX6_requireFractionSide 4 = .ok (.iload_n 0, 1) := by decide +kernel
theorem dX6_requireFractionSide_5 : decode cX6_requireFractionSide 5 = .ok (.iconst 1, 1) := by decide +kernel
theorem dX6_requireFractionSide_6 : decode cX6_requireFractionSide 6 = .ok (.if_icmp .eq 14, 3) := by decide +kernel
theorem dX6_requireFractionSide_9 : decode cX6_requireFractionSide 9 = .ok (.new 75, 3) := by decide +kernel
theorem dX6_requireFractionSide_12 : decode cX6_requireFractionSide 12 = .ok (.dup, 1) := by decide +kernel
theorem dX6_requireFractionSide_13 : decode cX6_requireFractionSide 13 = .ok (.ldc_w 326, 3) := by decide +kernel
theorem dX6_requireFractionSide_16 : decode cX6_requireFractionSide 16 = .ok (.invokespecial 79, 3) := by decide +kernel
theorem dX6_requireFractionSide_19 : decode cX6_requireFractionSide 19 = .ok (.athrow, 1) := by decide +kernel
theorem dX6_requireFractionSide_20 : decode cX6_requireFractionSide 20 = .ok (.return_, 1) := by decide +kernel
theorem dX6_isSourceValue_0 : decode cX6_isSourceValue 0 = .ok (.iload_n 0, 1) := by decide +kernel
theorem dX6_isSourceValue_1 : decode cX6_isSourceValue 1 = .ok (.sipush (-200), 3) := by decide +kernel
theorem dX6_isSourceValue_4 : decode cX6_isSourceValue 4 = .ok (.if_icmp .lt 14, 3) := by decide +kernel
theorem dX6_isSourceValue_7 : decode cX6_isSourceValue 7 = .ok (.iload_n 0, 1) := by decide +kernel
theorem dX6_isSourceValue_8 : decode cX6_isSourceValue 8 = .ok (.sipush 200, 3) := by decide +kernel
theorem dX6_isSourceValue_11 : decode cX6_isSourceValue 11 = .ok (.if_icmp .gt 7, 3) := by decide +kernel
theorem dX6_isSourceValue_14 : decode cX6_isSourceValue 14 = .ok (.iconst 1, 1) := by decide +kernel
theorem dX6_isSourceValue_15 : decode cX6_isSourceValue 15 = .ok (.goto 4, 3) := by decide +kernel
theorem dX6_isSourceValue_18 : decode cX6_isSourceValue 18 = .ok (.iconst 0, 1) := by decide +kernel
theorem dX6_isSourceValue_19 : decode cX6_isSourceValue 19 = .ok (.ireturn, 1) := by decide +kernel
theorem dX6_contains_0 : decode cX6_contains 0 = .ok (.iload_n 0, 1) := by decide +kernel
theorem dX6_contains_1 : decode cX6_contains 1 = .ok (.iload_n 1, 1) := by decide +kernel
theorem dX6_contains_2 : decode cX6_contains 2 = .ok (.ishr, 1) := by decide +kernel
theorem dX6_contains_3 : decode cX6_contains 3 = .ok (.iconst 1, 1) := by decide +kernel
theorem dX6_contains_4 : decode cX6_contains 4 = .ok (.iand, 1) := by decide +kernel
theorem dX6_contains_5 : decode cX6_contains 5 = .ok (.ifCond .eq 7, 3) := by decide +kernel
theorem dX6_contains_8 : decode cX6_contains 8 = .ok (.iconst 1, 1) := by decide +kernel
theorem dX6_contains_9 : decode cX6_contains 9 = .ok (.goto 4, 3) := by decide +kernel
theorem dX6_contains_12 : decode cX6_contains 12 = .ok (.iconst 0, 1) := by decide +kernel
theorem dX6_contains_13 : decode cX6_contains 13 = .ok (.ireturn, 1) := by decide +kernel
theorem dX6_stateIn_0 : decode cX6_stateIn 0 = .ok (.iload_n 0, 1) := by decide +kernel
theorem dX6_stateIn_1 : decode cX6_stateIn 1 = .ok (.getstatic 328, 3) := by decide +kernel
theorem dX6_stateIn_4 : decode cX6_stateIn 4 = .ok (.iload_n 1, 1) := by decide +kernel
theorem dX6_stateIn_5 : decode cX6_stateIn 5 = .ok (.iaload, 1) := by decide +kernel
theorem dX6_stateIn_6 : decode cX6_stateIn 6 = .ok (.idiv, 1) := by decide +kernel
theorem dX6_stateIn_7 : decode cX6_stateIn 7 = .ok (.iconst 3, 1) := by decide +kernel
theorem dX6_stateIn_8 : decode cX6_stateIn 8 = .ok (.irem, 1) := by decide +kernel
theorem dX6_stateIn_9 : decode cX6_stateIn 9 = .ok (.ireturn, 1) := by decide +kernel
theorem dX6_mixed_0 : decode cX6_mixed 0 = .ok (.ldc2_w 331, 3) := by decide +kernel
theorem dX6_mixed_3 : decode cX6_mixed 3 = .ok (.lload_n 0, 1) := by decide +kernel
theorem dX6_mixed_4 : decode cX6_mixed 4 = .ok (.lmul, 1) := by decide +kernel
theorem dX6_mixed_5 : decode cX6_mixed 5 = .ok (.lload_n 2, 1) := by decide +kernel
theorem dX6_mixed_6 : decode cX6_mixed 6 = .ok (.ladd, 1) := by decide +kernel
theorem dX6_mixed_7 : decode cX6_mixed 7 = .ok (.lreturn, 1) := by decide +kernel
theorem dX6_lowestTerms_0 : decode cX6_lowestTerms 0 = .ok (.lload_n 0, 1) := by decide +kernel
theorem dX6_lowestTerms_1 : decode cX6_lowestTerms 1 = .ok (.invokestatic 333, 3) := by decide +kernel
theorem dX6_lowestTerms_4 : decode cX6_lowestTerms 4 = .ok (.lload_n 2, 1) := by decide +kernel
theorem dX6_lowestTerms_5 : decode cX6_lowestTerms 5 = .ok (.invokestatic 335, 3) := by decide +kernel
theorem dX6_lowestTerms_8 : decode cX6_lowestTerms 8 = .ok (.lstore 5, 2) := by decide +kernel
theorem dX6_lowestTerms_10 : decode cX6_lowestTerms 10 = .ok (.lload 5, 2) := by decide +kernel
theorem dX6_lowestTerms_12 : decode cX6_lowestTerms 12 = .ok (.lconst 0, 1) := by decide +kernel
theorem dX6_lowestTerms_13 : decode cX6_lowestTerms 13 = .ok (.lcmp, 1) := by decide +kernel
theorem dX6_lowestTerms_14 : decode cX6_lowestTerms 14 = .ok (.ifCond .ne 5, 3) := by decide +kernel
theorem dX6_lowestTerms_17 : decode cX6_lowestTerms 17 = .ok (.lconst 0, 1) := by decide +kernel
theorem dX6_lowestTerms_18 : decode cX6_lowestTerms 18 = .ok (.lreturn, 1) := by decide +kernel
theorem dX6_lowestTerms_19 : decode cX6_lowestTerms 19 = .ok (.iload 4, 2) := by decide +kernel
theorem dX6_lowestTerms_21 : decode cX6_lowestTerms 21 = .ok (.ifCond .ne 10, 3) := by decide +kernel
theorem dX6_lowestTerms_24 : decode cX6_lowestTerms 24 = .ok (.lload_n 0, 1) := by decide +kernel
theorem dX6_lowestTerms_25 : decode cX6_lowestTerms 25 = .ok (.lload 5, 2) := by decide +kernel
theorem dX6_lowestTerms_27 : decode cX6_lowestTerms 27 = .ok (.ldiv, 1) := by decide +kernel
theorem dX6_lowestTerms_28 : decode cX6_lowestTerms 28 = .ok (.goto 7, 3) := by decide +kernel
theorem dX6_lowestTerms_31 : decode cX6_lowestTerms 31 = .ok (.lload_n 2, 1) := by decide +kernel
theorem dX6_lowestTerms_32 : decode cX6_lowestTerms 32 = .ok (.lload 5, 2) := by decide +kernel
theorem dX6_lowestTerms_34 : decode cX6_lowestTerms 34 = .ok (.ldiv, 1) := by decide +kernel
theorem dX6_lowestTerms_35 : decode cX6_lowestTerms 35 = .ok (.lreturn, 1) := by decide +kernel
theorem dX6_greatestDivisor_0 : decode cX6_greatestDivisor 0 = .ok (.lload_n 0, 1) := by decide +kernel
theorem dX6_greatestDivisor_1 : decode cX6_greatestDivisor 1 = .ok (.lstore 4, 2) := by decide +kernel
theorem dX6_greatestDivisor_3 : decode cX6_greatestDivisor 3 = .ok (.lload_n 2, 1) := by decide +kernel
theorem dX6_greatestDivisor_4 : decode cX6_greatestDivisor 4 = .ok (.lstore 6, 2) := by decide +kernel
theorem dX6_greatestDivisor_6 : decode cX6_greatestDivisor 6 = .ok (.iconst 0, 1) := by decide +kernel
theorem dX6_greatestDivisor_7 : decode cX6_greatestDivisor 7 = .ok (.istore 8, 2) := by decide +kernel
theorem dX6_greatestDivisor_9 : decode cX6_greatestDivisor 9 = .ok (.iload 8, 2) := by decide +kernel
theorem dX6_greatestDivisor_11 : decode cX6_greatestDivisor 11 = .ok (.bipush 100, 2) := by decide +kernel
theorem dX6_greatestDivisor_13 : decode cX6_greatestDivisor 13 = .ok (.if_icmp .ge 31, 3) := by decide +kernel
theorem dX6_greatestDivisor_16 : decode cX6_greatestDivisor 16 = .ok (.lload 6, 2) := by decide +kernel
theorem dX6_greatestDivisor_18 : decode cX6_greatestDivisor 18 = .ok (.lconst 0, 1) := by decide +kernel
theorem dX6_greatestDivisor_19 : decode cX6_greatestDivisor 19 = .ok (.lcmp, 1) := by decide +kernel
theorem dX6_greatestDivisor_20 : decode cX6_greatestDivisor 20 = .ok (.ifCond .eq 24, 3) := by decide +kernel
theorem dX6_greatestDivisor_23 : decode cX6_greatestDivisor 23 = .ok (.lload 4, 2) := by decide +kernel
theorem dX6_greatestDivisor_25 : decode cX6_greatestDivisor 25 = .ok (.lload 6, 2) := by decide +kernel
theorem dX6_greatestDivisor_27 : decode cX6_greatestDivisor 27 = .ok (.lrem, 1) := by decide +kernel
theorem dX6_greatestDivisor_28 : decode cX6_greatestDivisor 28 = .ok (.lstore 9, 2) := by decide +kernel
theorem dX6_greatestDivisor_30 : decode cX6_greatestDivisor 30 = .ok (.lload 6, 2) := by decide +kernel
theorem dX6_greatestDivisor_32 : decode cX6_greatestDivisor 32 = .ok (.lstore 4, 2) := by decide +kernel
theorem dX6_greatestDivisor_34 : decode cX6_greatestDivisor 34 = .ok (.lload 9, 2) := by decide +kernel
theorem dX6_greatestDivisor_36 : decode cX6_greatestDivisor 36 = .ok (.lstore 6, 2) := by decide +kernel
theorem dX6_greatestDivisor_38 : decode cX6_greatestDivisor 38 = .ok (.iinc 8 1, 3) := by decide +kernel
theorem dX6_greatestDivisor_41 : decode cX6_greatestDivisor 41 = .ok (.goto (-32), 3) := by decide +kernel
theorem dX6_greatestDivisor_44 : decode cX6_greatestDivisor 44 = .ok (.lload 4, 2) := by decide +kernel
theorem dX6_greatestDivisor_46 : decode cX6_greatestDivisor 46 = .ok (.lreturn, 1) := by decide +kernel
theorem dX6_bitsOf_0 : decode cX6_bitsOf 0 = .ok (.dload_n 0, 1) := by decide +kernel
theorem dX6_bitsOf_1 : decode cX6_bitsOf 1 = .ok (.dconst 0, 1) := by decide +kernel
theorem dX6_bitsOf_2 : decode cX6_bitsOf 2 = .ok (.dcmp .l, 1) := by decide +kernel
theorem dX6_bitsOf_3 : decode cX6_bitsOf 3 = .ok (.ifCond .ne 5, 3) := by decide +kernel
theorem dX6_bitsOf_6 : decode cX6_bitsOf 6 = .ok (.lconst 0, 1) := by decide +kernel
theorem dX6_bitsOf_7 : decode cX6_bitsOf 7 = .ok (.lreturn, 1) := by decide +kernel
theorem dX6_bitsOf_8 : decode cX6_bitsOf 8 = .ok (.dload_n 0, 1) := by decide +kernel
theorem dX6_bitsOf_9 : decode cX6_bitsOf 9 = .ok (.dconst 0, 1) := by decide +kernel
theorem dX6_bitsOf_10 : decode cX6_bitsOf 10 = .ok (.dcmp .g, 1) := by decide +kernel
theorem dX6_bitsOf_11 : decode cX6_bitsOf 11 = .ok (.ifCond .ge 8, 3) := by decide +kernel
theorem dX6_bitsOf_14 : decode cX6_bitsOf 14 = .ok (.dload_n 0, 1) := by decide +kernel
theorem dX6_bitsOf_15 : decode cX6_bitsOf 15 = .ok (.dneg, 1) := by decide +kernel
theorem dX6_bitsOf_16 : decode cX6_bitsOf 16 = .ok (.goto 4, 3) := by decide +kernel
theorem dX6_bitsOf_19 : decode cX6_bitsOf 19 = .ok (.dload_n 0, 1) := by decide +kernel
theorem dX6_bitsOf_20 : decode cX6_bitsOf 20 = .ok (.dstore_n 2, 1) := by decide +kernel
theorem dX6_bitsOf_21 : decode cX6_bitsOf 21 = .ok (.ldc2_w 338, 3) := by decide +kernel
theorem dX6_bitsOf_24 : decode cX6_bitsOf 24 = .ok (.lstore 4, 2) := by decide +kernel
theorem dX6_bitsOf_26 : decode cX6_bitsOf 26 = .ok (.iconst 0, 1) := by decide +kernel
theorem dX6_bitsOf_27 : decode cX6_bitsOf 27 = .ok (.istore 6, 2) := by decide +kernel
theorem dX6_bitsOf_29 : decode cX6_bitsOf 29 = .ok (.iload 6, 2) := by decide +kernel
theorem dX6_bitsOf_31 : decode cX6_bitsOf 31 = .ok (.sipush 1100, 3) := by decide +kernel
theorem dX6_bitsOf_34 : decode cX6_bitsOf 34 = .ok (.if_icmp .ge 29, 3) := by decide +kernel
theorem dX6_bitsOf_37 : decode cX6_bitsOf 37 = .ok (.dload_n 2, 1) := by decide +kernel
theorem dX6_bitsOf_38 : decode cX6_bitsOf 38 = .ok (.ldc2_w 340, 3) := by decide +kernel
theorem dX6_bitsOf_41 : decode cX6_bitsOf 41 = .ok (.dcmp .l, 1) := by decide +kernel
theorem dX6_bitsOf_42 : decode cX6_bitsOf 42 = .ok (.ifCond .lt 21, 3) := by decide +kernel
theorem dX6_bitsOf_45 : decode cX6_bitsOf 45 = .ok (.dload_n 2, 1) := by decide +kernel
theorem dX6_bitsOf_46 : decode cX6_bitsOf 46 = .ok (.ldc2_w 340, 3) := by decide +kernel
theorem dX6_bitsOf_49 : decode cX6_bitsOf 49 = .ok (.ddiv, 1) := by decide +kernel
theorem dX6_bitsOf_50 : decode cX6_bitsOf 50 = .ok (.dstore_n 2, 1) := by decide +kernel
theorem dX6_bitsOf_51 : decode cX6_bitsOf 51 = .ok (.lload 4, 2) := by decide +kernel
theorem dX6_bitsOf_53 : decode cX6_bitsOf 53 = .ok (.lconst 1, 1) := by decide +kernel
theorem dX6_bitsOf_54 : decode cX6_bitsOf 54 = .ok (.ladd, 1) := by decide +kernel
theorem dX6_bitsOf_55 : decode cX6_bitsOf 55 = .ok (.lstore 4, 2) := by decide +kernel
theorem dX6_bitsOf_57 : decode cX6_bitsOf 57 = .ok (.iinc 6 1, 3) := by decide +kernel
theorem dX6_bitsOf_60 : decode cX6_bitsOf 60 = .ok (.goto (-31), 3) := by decide +kernel
theorem dX6_bitsOf_63 : decode cX6_bitsOf 63 = .ok (.iconst 0, 1) := by decide +kernel
theorem dX6_bitsOf_64 : decode cX6_bitsOf 64 = .ok (.istore 6, 2) := by decide +kernel
theorem dX6_bitsOf_66 : decode cX6_bitsOf 66 = .ok (.iload 6, 2) := by decide +kernel
theorem dX6_bitsOf_68 : decode cX6_bitsOf 68 = .ok (.sipush 1100, 3) := by decide +kernel
theorem dX6_bitsOf_71 : decode cX6_bitsOf 71 = .ok (.if_icmp .ge 27, 3) := by decide +kernel
theorem dX6_bitsOf_74 : decode cX6_bitsOf 74 = .ok (.dload_n 2, 1) := by decide +kernel
theorem dX6_bitsOf_75 : decode cX6_bitsOf 75 = .ok (.dconst 1, 1) := by decide +kernel
theorem dX6_bitsOf_76 : decode cX6_bitsOf 76 = .ok (.dcmp .g, 1) := by decide +kernel
theorem dX6_bitsOf_77 : decode cX6_bitsOf 77 = .ok (.ifCond .ge 21, 3) := by decide +kernel
theorem dX6_bitsOf_80 : decode cX6_bitsOf 80 = .ok (.dload_n 2, 1) := by decide +kernel
theorem dX6_bitsOf_81 : decode cX6_bitsOf 81 = .ok (.ldc2_w 340, 3) := by decide +kernel
theorem dX6_bitsOf_84 : decode cX6_bitsOf 84 = .ok (.dmul, 1) := by decide +kernel
theorem dX6_bitsOf_85 : decode cX6_bitsOf 85 = .ok (.dstore_n 2, 1) := by decide +kernel
theorem dX6_bitsOf_86 : decode cX6_bitsOf 86 = .ok (.lload 4, 2) := by decide +kernel
theorem dX6_bitsOf_88 : decode cX6_bitsOf 88 = .ok (.lconst 1, 1) := by decide +kernel
theorem dX6_bitsOf_89 : decode cX6_bitsOf 89 = .ok (.lsub, 1) := by decide +kernel
theorem dX6_bitsOf_90 : decode cX6_bitsOf 90 = .ok (.lstore 4, 2) := by decide +kernel
theorem dX6_bitsOf_92 : decode cX6_bitsOf 92 = .ok (.iinc 6 1, 3) := by decide +kernel
theorem dX6_bitsOf_95 : decode cX6_bitsOf 95 = .ok (.goto (-29), 3) := by decide +kernel
theorem dX6_bitsOf_98 : decode cX6_bitsOf 98 = .ok (.dload_n 2, 1) := by decide +kernel
theorem dX6_bitsOf_99 : decode cX6_bitsOf 99 = .ok (.dconst 1, 1) := by decide +kernel
theorem dX6_bitsOf_100 : decode cX6_bitsOf 100 = .ok (.dsub, 1) := by decide +kernel
theorem dX6_bitsOf_101 : decode cX6_bitsOf 101 = .ok (.ldc2_w 342, 3) := by decide +kernel
theorem dX6_bitsOf_104 : decode cX6_bitsOf 104 = .ok (.dmul, 1) := by decide +kernel
theorem dX6_bitsOf_105 : decode cX6_bitsOf 105 = .ok (.d2l, 1) := by decide +kernel
theorem dX6_bitsOf_106 : decode cX6_bitsOf 106 = .ok (.lstore 6, 2) := by decide +kernel
theorem dX6_bitsOf_108 : decode cX6_bitsOf 108 = .ok (.dload_n 0, 1) := by decide +kernel
theorem dX6_bitsOf_109 : decode cX6_bitsOf 109 = .ok (.dconst 0, 1) := by decide +kernel
theorem dX6_bitsOf_110 : decode cX6_bitsOf 110 = .ok (.dcmp .g, 1) := by decide +kernel
theorem dX6_bitsOf_111 : decode cX6_bitsOf 111 = .ok (.ifCond .ge 9, 3) := by decide +kernel
theorem dX6_bitsOf_114 : decode cX6_bitsOf 114 = .ok (.ldc2_w 344, 3) := by decide +kernel
theorem dX6_bitsOf_117 : decode cX6_bitsOf 117 = .ok (.goto 4, 3) := by decide +kernel
theorem dX6_bitsOf_120 : decode cX6_bitsOf 120 = .ok (.lconst 0, 1) := by decide +kernel
theorem dX6_bitsOf_121 : decode cX6_bitsOf 121 = .ok (.lstore 8, 2) := by decide +kernel
theorem dX6_bitsOf_123 : decode cX6_bitsOf 123 = .ok (.lload 8, 2) := by decide +kernel
theorem dX6_bitsOf_125 : decode cX6_bitsOf 125 = .ok (.lload 4, 2) := by decide +kernel
theorem dX6_bitsOf_127 : decode cX6_bitsOf 127 = .ok (.bipush 52, 2) := by decide +kernel
theorem dX6_bitsOf_129 : decode cX6_bitsOf 129 = .ok (.lshl, 1) := by decide +kernel
theorem dX6_bitsOf_130 : decode cX6_bitsOf 130 = .ok (.lor, 1) := by decide +kernel
theorem dX6_bitsOf_131 : decode cX6_bitsOf 131 = .ok (.lload 6, 2) := by decide +kernel
theorem dX6_bitsOf_133 : decode cX6_bitsOf 133 = .ok (.lor, 1) := by decide +kernel
theorem dX6_bitsOf_134 : decode cX6_bitsOf 134 = .ok (.lreturn, 1) := by decide +kernel
theorem dX7_init_0 : decode cX7_init 0 = .ok (.aload_n 0, 1) := by decide +kernel
theorem dX7_init_1 : decode cX7_init 1 = .ok (.invokespecial 1, 3) := by decide +kernel
theorem dX7_init_4 : decode cX7_init 4 = .ok (.aload_n 0, 1) := by decide +kernel
theorem dX7_init_5 : decode cX7_init 5 = .ok (.bipush 52, 2) := by decide +kernel
theorem dX7_init_7 : decode cX7_init 7 = .ok (.newarray .int, 2) := by decide +kernel
theorem dX7_init_9 : decode cX7_init 9 = .ok (.putfield 7, 3) := by decide +kernel
theorem dX7_init_12 : decode cX7_init 12 = .ok (.aload_n 0, 1) := by decide +kernel
theorem dX7_init_13 : decode cX7_init 13 = .ok (.bipush 52, 2) := by decide +kernel
theorem dX7_init_15 : decode cX7_init 15 = .ok (.newarray .int, 2) := by decide +kernel
theorem dX7_init_17 : decode cX7_init 17 = .ok (.putfield 13, 3) := by decide +kernel
theorem dX7_init_20 : decode cX7_init 20 = .ok (.aload_n 0, 1) := by decide +kernel
theorem dX7_init_21 : decode cX7_init 21 = .ok (.sipush 416, 3) := by decide +kernel
theorem dX7_init_24 : decode cX7_init 24 = .ok (.newarray .int, 2) := by decide +kernel
theorem dX7_init_26 : decode cX7_init 26 = .ok (.putfield 16, 3) := by decide +kernel
theorem dX7_init_29 : decode cX7_init 29 = .ok (.aload_n 0, 1) := by decide +kernel
theorem dX7_init_30 : decode cX7_init 30 = .ok (.bipush 104, 2) := by decide +kernel
theorem dX7_init_32 : decode cX7_init 32 = .ok (.newarray .int, 2) := by decide +kernel
theorem dX7_init_34 : decode cX7_init 34 = .ok (.putfield 19, 3) := by decide +kernel
theorem dX7_init_37 : decode cX7_init 37 = .ok (.aload_n 0, 1) := by decide +kernel
theorem dX7_init_38 : decode cX7_init 38 = .ok (.bipush 60, 2) := by decide +kernel
theorem dX7_init_40 : decode cX7_init 40 = .ok (.newarray .int, 2) := by decide +kernel
theorem dX7_init_42 : decode cX7_init 42 = .ok (.putfield 22, 3) := by decide +kernel
theorem dX7_init_45 : decode cX7_init 45 = .ok (.aload_n 0, 1) := by decide +kernel
theorem dX7_init_46 : decode cX7_init 46 = .ok (.bipush 7, 2) := by decide +kernel
theorem dX7_init_48 : decode cX7_init 48 = .ok (.newarray .int, 2) := by decide +kernel
theorem dX7_init_50 : decode cX7_init 50 = .ok (.putfield 25, 3) := by decide +kernel
theorem dX7_init_53 : decode cX7_init 53 = .ok (.aload_n 0, 1) := by decide +kernel
theorem dX7_init_54 : decode cX7_init 54 = .ok (.bipush 42, 2) := by decide +kernel
theorem dX7_init_56 : decode cX7_init 56 = .ok (.newarray .long, 2) := by decide +kernel
theorem dX7_init_58 : decode cX7_init 58 = .ok (.putfield 28, 3) := by decide +kernel
theorem dX7_init_61 : decode cX7_init 61 = .ok (.aload_n 0, 1) := by decide +kernel
theorem dX7_init_62 : decode cX7_init 62 = .ok (.bipush 36, 2) := by decide +kernel
theorem dX7_init_64 : decode cX7_init 64 = .ok (.newarray .long, 2) := by decide +kernel
theorem dX7_init_66 : decode cX7_init 66 = .ok (.putfield 32, 3) := by decide +kernel
theorem dX7_init_69 : decode cX7_init 69 = .ok (.aload_n 0, 1) := by decide +kernel
theorem dX7_init_70 : decode cX7_init 70 = .ok (.bipush 7, 2) := by decide +kernel
theorem dX7_init_72 : decode cX7_init 72 = .ok (.newarray .long, 2) := by decide +kernel
theorem dX7_init_74 : decode cX7_init 74 = .ok (.putfield 35, 3) := by decide +kernel
theorem dX7_init_77 : decode cX7_init 77 = .ok (.aload_n 0, 1) := by decide +kernel
theorem dX7_init_78 : decode cX7_init 78 = .ok (.bipush 80, 2) := by decide +kernel
theorem dX7_init_80 : decode cX7_init 80 = .ok (.newarray .int, 2) := by decide +kernel
theorem dX7_init_82 : decode cX7_init 82 = .ok (.putfield 38, 3) := by decide +kernel
theorem dX7_init_85 : decode cX7_init 85 = .ok (.aload_n 0, 1) := by decide +kernel
theorem dX7_init_86 : decode cX7_init 86 = .ok (.getfield 7, 3) := by decide +kernel
theorem dX7_init_89 : decode cX7_init 89 = .ok (.bipush 49, 2) := by decide +kernel
theorem dX7_init_91 : decode cX7_init 91 = .ok (.sipush 150, 3) := by decide +kernel
theorem dX7_init_94 : decode cX7_init 94 = .ok (.iastore, 1) := by decide +kernel
theorem dX7_init_95 : decode cX7_init 95 = .ok (.aload_n 0, 1) := by decide +kernel
theorem dX7_init_96 : decode cX7_init 96 = .ok (.getfield 7, 3) := by decide +kernel
theorem dX7_init_99 : decode cX7_init 99 = .ok (.bipush 51, 2) := by decide +kernel
theorem dX7_init_101 : decode cX7_init 101 = .ok (.iconst 1, 1) := by decide +kernel
theorem dX7_init_102 : decode cX7_init 102 = .ok (.iastore, 1) := by decide +kernel
theorem dX7_init_103 : decode cX7_init 103 = .ok (.return_, 1) := by decide +kernel
theorem dX7_thrown_0 : decode cX7_thrown 0 = .ok (.aload_n 0, 1) := by decide +kernel
theorem dX7_thrown_1 : decode cX7_thrown 1 = .ok (.getfield 41, 3) := by decide +kernel
theorem dX7_thrown_4 : decode cX7_thrown 4 = .ok (.ireturn, 1) := by decide +kernel
theorem dX7_within_0 : decode cX7_within 0 = .ok (.iload_n 0, 1) := by decide +kernel
theorem dX7_within_1 : decode cX7_within 1 = .ok (.iload_n 1, 1) := by decide +kernel
theorem dX7_within_2 : decode cX7_within 2 = .ok (.if_icmp .lt 12, 3) := by decide +kernel
theorem dX7_within_5 : decode cX7_within 5 = .ok (.iload_n 0, 1) := by decide +kernel
theorem dX7_within_6 : decode cX7_within 6 = .ok (.iload_n 2, 1) := by decide +kernel
theorem dX7_within_7 : decode cX7_within 7 = .ok (.if_icmp .gt 7, 3) := by decide +kernel
theorem dX7_within_10 : decode cX7_within 10 = .ok (.iconst 1, 1) := by decide +kernel
theorem dX7_within_11 : decode cX7_within 11 = .ok (.goto 4, 3) := by decide +kernel
theorem dX7_within_14 : decode cX7_within 14 = .ok (.iconst 0, 1) := by decide +kernel
theorem dX7_within_15 : decode cX7_within 15 = .ok (.ireturn, 1) := by decide +kernel
theorem dX7_of_0 : decode cX7_of 0 = .ok (.aload_n 0, 1) := by decide +kernel
theorem dX7_of_1 : decode cX7_of 1 = .ok (.getfield 7, 3) := by decide +kernel
theorem dX7_of_4 : decode cX7_of 4 = .ok (.iconst 4, 1) := by decide +kernel
theorem dX7_of_5 : decode cX7_of 5 = .ok (.iload_n 1, 1) := by decide +kernel
theorem dX7_of_6 : decode cX7_of 6 = .ok (.imul, 1) := by decide +kernel
theorem dX7_of_7 : decode cX7_of 7 = .ok (.iload_n 2, 1) := by decide +kernel
theorem dX7_of_8 : decode cX7_of 8 = .ok (.iadd, 1) := by decide +kernel
theorem dX7_of_9 : decode cX7_of 9 = .ok (.iaload, 1) := by decide +kernel
theorem dX7_of_10 : decode cX7_of 10 = .ok (.ireturn, 1) := by decide +kernel
theorem dX7_isPart_0 : decode cX7_isPart 0 = .ok (.iload_n 1, 1) := by decide +kernel
theorem dX7_isPart_1 : decode cX7_isPart 1 = .ok (.iconst 0, 1) := by decide +kernel
theorem dX7_isPart_2 : decode cX7_isPart 2 = .ok (.aload_n 0, 1) := by decide +kernel
theorem dX7_isPart_3 : decode cX7_isPart 3 = .ok (.getfield 7, 3) := by decide +kernel
theorem dX7_isPart_6 : decode cX7_isPart 6 = .ok (.bipush 48, 2) := by decide +kernel
theorem dX7_isPart_8 : decode cX7_isPart 8 = .ok (.iaload, 1) := by decide +kernel
theorem dX7_isPart_9 : decode cX7_isPart 9 = .ok (.iconst 1, 1) := by decide +kernel
theorem dX7_isPart_10 : decode cX7_isPart 10 = .ok (.isub, 1) := by decide +kernel
theorem dX7_isPart_11 : decode cX7_isPart 11 = .ok (.invokestatic 45, 3) := by decide +kernel
theorem dX7_isPart_14 : decode cX7_isPart 14 = .ok (.ireturn, 1) := by decide +kernel
theorem dX7_is_0 : decode cX7_is 0 = .ok (.aload_n 0, 1) := by decide +kernel
theorem dX7_is_1 : decode cX7_is 1 = .ok (.iload_n 1, 1) := by decide +kernel
theorem dX7_is_2 : decode cX7_is 2 = .ok (.iconst 0, 1) := by decide +kernel
theorem dX7_is_3 : decode cX7_is 3 = .ok (.invokevirtual 49, 3) := by decide +kernel
theorem dX7_is_6 : decode cX7_is 6 = .ok (.iload_n 2, 1) := by decide +kernel
theorem dX7_is_7 : decode cX7_is 7 = .ok (.if_icmp .ne 7, 3) := by decide +kernel
theorem dX7_is_10 : decode cX7_is 10 = .ok (.iconst 1, 1) := by decide +kernel
theorem dX7_is_11 : decode cX7_is 11 = .ok (.goto 4, 3) := by decide +kernel
theorem dX7_is_14 : decode cX7_is 14 = .ok (.iconst 0, 1) := by decide +kernel
theorem dX7_is_15 : decode cX7_is 15 = .ok (.ireturn, 1) := by decide +kernel
theorem dX7_copy_0 : decode cX7_copy 0 = .ok (.iconst 0, 1) := by decide +kernel
theorem dX7_copy_1 : decode cX7_copy 1 = .ok (.istore 5, 2) := by decide +kernel
theorem dX7_copy_3 : decode cX7_copy 3 = .ok (.iload 5, 2) := by decide +kernel
theorem dX7_copy_5 : decode cX7_copy 5 = .ok (.bipush 52, 2) := by decide +kernel
theorem dX7_copy_7 : decode cX7_copy 7 = .ok (.if_icmp .ge 22, 3) := by decide +kernel
theorem dX7_copy_10 : decode cX7_copy 10 = .ok (.aload_n 3, 1) := by decide +kernel
theorem dX7_copy_11 : decode cX7_copy 11 = .ok (.iload 4, 2) := by decide +kernel
theorem dX7_copy_13 : decode cX7_copy 13 = .ok (.iload 5, 2) := by decide +kernel
theorem dX7_copy_15 : decode cX7_copy 15 = .ok (.iadd, 1) := by decide +kernel
theorem dX7_copy_16 : decode cX7_copy 16 = .ok (.aload_n 1, 1) := by decide +kernel
theorem dX7_copy_17 : decode cX7_copy 17 = .ok (.iload_n 2, 1) := by decide +kernel
theorem dX7_copy_18 : decode cX7_copy 18 = .ok (.iload 5, 2) := by decide +kernel
theorem dX7_copy_20 : decode cX7_copy 20 = .ok (.iadd, 1) := by decide +kernel
theorem dX7_copy_21 : decode cX7_copy 21 = .ok (.iaload, 1) := by decide +kernel
theorem dX7_copy_22 : decode cX7_copy 22 = .ok (.iastore, 1) := by decide +kernel
theorem dX7_copy_23 : decode cX7_copy 23 = .ok (.iinc 5 1, 3) := by decide +kernel
theorem dX7_copy_26 : decode cX7_copy 26 = .ok (.goto (-23), 3) := by decide +kernel
theorem dX7_copy_29 : decode cX7_copy 29 = .ok (.return_, 1) := by decide +kernel
theorem dX7_record_0 : decode cX7_record 0 = .ok (.aload_n 0, 1) := by decide +kernel
theorem dX7_record_1 : decode cX7_record 1 = .ok (.getfield 53, 3) := by decide +kernel
theorem dX7_record_4 : decode cX7_record 4 = .ok (.bipush 8, 2) := by decide +kernel
theorem dX7_record_6 : decode cX7_record 6 = .ok (.if_icmp .ne 44, 3) := by decide +kernel
theorem dX7_record_9 : decode cX7_record 9 = .ok (.bipush 52, 2) := by decide +kernel
theorem dX7_record_11 : decode cX7_record 11 = .ok (.istore_n 1, 1) := by decide +kernel
theorem dX7_record_12 : decode cX7_record 12 = .ok (.iload_n 1, 1) := by decide +kernel
theorem dX7_record_13 : decode cX7_record 13 = .ok (.sipush 416, 3) := by decide +kernel
theorem dX7_record_16 : decode cX7_record 16 = .ok (.if_icmp .ge 24, 3) := by decide +kernel
theorem dX7_record_19 : decode cX7_record 19 = .ok (.aload_n 0, 1) := by decide +kernel
theorem dX7_record_20 : decode cX7_record 20 = .ok (.getfield 16, 3) := by decide +kernel
theorem dX7_record_23 : decode cX7_record 23 = .ok (.iload_n 1, 1) := by decide +kernel
theorem dX7_record_24 : decode cX7_record 24 = .ok (.bipush 52, 2) := by decide +kernel
theorem dX7_record_26 : decode cX7_record 26 = .ok (.isub, 1) := by decide +kernel
theorem dX7_record_27 : decode cX7_record 27 = .ok (.aload_n 0, 1) := by decide +kernel
theorem dX7_record_28 : decode cX7_record 28 = .ok (.getfield 16, 3) := by decide +kernel
theorem dX7_record_31 : decode cX7_record 31 = .ok (.iload_n 1, 1) := by decide +kernel
theorem dX7_record_32 : decode cX7_record 32 = .ok (.iaload, 1) := by decide +kernel
theorem dX7_record_33 : decode cX7_record 33 = .ok (.iastore, 1) := by decide +kernel
theorem dX7_record_34 : decode cX7_record 34 = .ok (.iinc 1 1, 3) := by decide +kernel
theorem dX7_record_37 : decode cX7_record 37 = .ok (.goto (-25), 3) := by decide +kernel
theorem dX7_record_40 : decode cX7_record 40 = .ok (.aload_n 0, 1) := by decide +kernel
theorem dX7_record_41 : decode cX7_record 41 = .ok (.dup, 1) := by decide +kernel
theorem dX7_record_42 : decode cX7_record 42 = .ok (.getfield 53, 3) := by decide +kernel
theorem dX7_record_45 : decode cX7_record 45 = .ok (.iconst 1, 1) := by decide +kernel
theorem dX7_record_46 : decode cX7_record 46 = .ok (.isub, 1) := by decide +kernel
theorem dX7_record_47 : decode cX7_record 47 = .ok (.putfield 53, 3) := by decide +kernel
theorem dX7_record_50 : decode cX7_record 50 = .ok (.aload_n 0, 1) := by decide +kernel
theorem dX7_record_51 : decode cX7_record 51 = .ok (.aload_n 0, 1) := by decide +kernel
theorem dX7_record_52 : decode cX7_record 52 = .ok (.getfield 7, 3) := by decide +kernel
theorem dX7_record_55 : decode cX7_record 55 = .ok (.iconst 0, 1) := by decide +kernel
theorem dX7_record_56 : decode cX7_record 56 = .ok (.aload_n 0, 1) := by decide +kernel
theorem dX7_record_57 : decode cX7_record 57 = .ok (.getfield 16, 3) := by decide +kernel
theorem dX7_record_60 : decode cX7_record 60 = .ok (.bipush 52, 2) := by decide +kernel
theorem dX7_record_62 : decode cX7_record 62 = .ok (.aload_n 0, 1) := by decide +kernel
theorem dX7_record_63 : decode cX7_record 63 = .ok (.getfield 53, 3) := by decide +kernel
theorem dX7_record_66 : decode cX7_record 66 = .ok (.imul, 1) := by decide +kernel
theorem dX7_record_67 : decode cX7_record 67 = .ok (.invokevirtual 56, 3) := by decide +kernel
theorem dX7_record_70 : decode cX7_record 70 = .ok (.aload_n 0, 1) := by decide +kernel
theorem dX7_record_71 : decode cX7_record 71 = .ok (.dup, 1) := by decide +kernel
theorem dX7_record_72 : decode cX7_record 72 = .ok (.getfield 53, 3) := by decide +kernel
theorem dX7_record_75 : decode cX7_record 75 = .ok (.iconst 1, 1) := by decide +kernel
theorem dX7_record_76 : decode cX7_record 76 = .ok (.iadd, 1) := by decide +kernel
theorem dX7_record_77 : decode cX7_record 77 = .ok (.putfield 53, 3) := by decide +kernel
theorem dX7_record_80 : decode cX7_record 80 = .ok (.return_, 1) := by decide +kernel
theorem dX7_amplifiers_0 : decode cX7_amplifiers 0 = .ok (.iconst 0, 1) := by decide +kernel
theorem dX7_amplifiers_1 : decode cX7_amplifiers 1 = .ok (.istore_n 1, 1) := by decide +kernel
theorem dX7_amplifiers_2 : decode cX7_amplifiers 2 = .ok (.iconst 0, 1) := by decide +kernel
theorem dX7_amplifiers_3 : decode cX7_amplifiers 3 = .ok (.istore_n 2, 1) := by decide +kernel
theorem dX7_amplifiers_4 : decode cX7_amplifiers 4 = .ok (.iload_n 2, 1) := by decide +kernel
theorem dX7_amplifiers_5 : decode cX7_amplifiers 5 = .ok (.aload_n 0, 1) := by decide +kernel
theorem dX7_amplifiers_6 : decode cX7_amplifiers 6 = .ok (.getfield 7, 3) := by decide +kernel
theorem dX7_amplifiers_9 : decode cX7_amplifiers 9 = .ok (.bipush 48, 2) := by decide +kernel
theorem dX7_amplifiers_11 : decode cX7_amplifiers 11 = .ok (.iaload, 1) := by decide +kernel
theorem dX7_amplifiers_12 : decode cX7_amplifiers 12 = .ok (.if_icmp .ge 26, 3) := by decide +kernel
theorem dX7_amplifiers_15 : decode cX7_amplifiers 15 = .ok (.iload_n 1, 1) := by decide +kernel
theorem dX7_amplifiers_16 : decode cX7_amplifiers 16 = .ok (.aload_n 0, 1) := by decide +kernel
theorem dX7_amplifiers_17 : decode cX7_amplifiers 17 = .ok (.iload_n 2, 1) := by decide +kernel
theorem dX7_amplifiers_18 : decode cX7_amplifiers 18 = .ok (.iconst 2, 1) := by decide +kernel
theorem dX7_amplifiers_19 : decode cX7_amplifiers 19 = .ok (.invokevirtual 60, 3) := by decide +kernel
theorem dX7_amplifiers_22 : decode cX7_amplifiers 22 = .ok (.ifCond .eq 7, 3) := by decide +kernel
theorem dX7_amplifiers_25 : decode cX7_amplifiers 25 = .ok (.iconst 1, 1) := by decide +kernel
theorem dX7_amplifiers_26 : decode cX7_amplifiers 26 = .ok (.goto 4, 3) := by decide +kernel
theorem dX7_amplifiers_29 : decode cX7_amplifiers 29 = .ok (.iconst 0, 1) := by decide +kernel
theorem dX7_amplifiers_30 : decode cX7_amplifiers 30 = .ok (.iadd, 1) := by decide +kernel
theorem dX7_amplifiers_31 : decode cX7_amplifiers 31 = .ok (.istore_n 1, 1) := by decide +kernel
theorem dX7_amplifiers_32 : decode cX7_amplifiers 32 = .ok (.iinc 2 1, 3) := by decide +kernel
theorem dX7_amplifiers_35 : decode cX7_amplifiers 35 = .ok (.goto (-31), 3) := by decide +kernel
theorem dX7_amplifiers_38 : decode cX7_amplifiers 38 = .ok (.iload_n 1, 1) := by decide +kernel
theorem dX7_amplifiers_39 : decode cX7_amplifiers 39 = .ok (.ireturn, 1) := by decide +kernel
theorem dX7_partOf_0 : decode cX7_partOf 0 = .ok (.iload_n 1, 1) := by decide +kernel
theorem dX7_partOf_1 : decode cX7_partOf 1 = .ok (.istore_n 2, 1) := by decide +kernel
theorem dX7_partOf_2 : decode cX7_partOf 2 = .ok (.iconst 0, 1) := by decide +kernel
theorem dX7_partOf_3 : decode cX7_partOf 3 = .ok (.istore_n 3, 1) := by decide +kernel
theorem dX7_partOf_4 : decode cX7_partOf 4 = .ok (.aload_n 0, 1) := by decide +kernel
theorem dX7_partOf_5 : decode cX7_partOf 5 = .ok (.iload_n 3, 1) := by decide +kernel
theorem dX7_partOf_6 : decode cX7_partOf 6 = .ok (.iconst 2, 1) := by decide +kernel
theorem dX7_partOf_7 : decode cX7_partOf 7 = .ok (.invokevirtual 60, 3) := by decide +kernel
theorem dX7_partOf_10 : decode cX7_partOf 10 = .ok (.ifCond .eq 7, 3) := by decide +kernel
theorem dX7_partOf_13 : decode cX7_partOf 13 = .ok (.iload_n 2, 1) := by decide +kernel
theorem dX7_partOf_14 : decode cX7_partOf 14 = .ok (.ifCond .le 26, 3) := by decide +kernel
theorem dX7_partOf_17 : decode cX7_partOf 17 = .ok (.iload_n 2, 1) := by decide +kernel
theorem dX7_partOf_18 : decode cX7_partOf 18 = .ok (.aload_n 0, 1) := by decide +kernel
theorem dX7_partOf_19 : decode cX7_partOf 19 = .ok (.iload_n 3, 1) := by decide +kernel
theorem dX7_partOf_20 : decode cX7_partOf 20 = .ok (.iconst 2, 1) := by decide +kernel
theorem dX7_partOf_21 : decode cX7_partOf 21 = .ok (.invokevirtual 60, 3) := by decide +kernel
theorem dX7_partOf_24 : decode cX7_partOf 24 = .ok (.ifCond .eq 7, 3) := by decide +kernel
theorem dX7_partOf_27 : decode cX7_partOf 27 = .ok (.iconst 1, 1) := by decide +kernel
theorem dX7_partOf_28 : decode cX7_partOf 28 = .ok (.goto 4, 3) := by decide +kernel
theorem dX7_partOf_31 : decode cX7_partOf 31 = .ok (.iconst 0, 1) := by decide +kernel
theorem dX7_partOf_32 : decode cX7_partOf 32 = .ok (.isub, 1) := by decide +kernel
theorem dX7_partOf_33 : decode cX7_partOf 33 = .ok (.istore_n 2, 1) := by decide +kernel
theorem dX7_partOf_34 : decode cX7_partOf 34 = .ok (.iinc 3 1, 3) := by decide +kernel
theorem dX7_partOf_37 : decode cX7_partOf 37 = .ok (.goto (-33), 3) := by decide +kernel
theorem dX7_partOf_40 : decode cX7_partOf 40 = .ok (.iload_n 3, 1) := by decide +kernel
theorem dX7_partOf_41 : decode cX7_partOf 41 = .ok (.ireturn, 1) := by decide +kernel
theorem dX7_cases_0 : decode cX7_cases 0 = .ok (.iconst 1, 1) := by decide +kernel
theorem dX7_cases_1 : decode cX7_cases 1 = .ok (.istore_n 1, 1) := by decide +kernel
theorem dX7_cases_2 : decode cX7_cases 2 = .ok (.iconst 0, 1) := by decide +kernel
theorem dX7_cases_3 : decode cX7_cases 3 = .ok (.istore_n 2, 1) := by decide +kernel
theorem dX7_cases_4 : decode cX7_cases 4 = .ok (.iload_n 2, 1) := by decide +kernel
theorem dX7_cases_5 : decode cX7_cases 5 = .ok (.aload_n 0, 1) := by decide +kernel
theorem dX7_cases_6 : decode cX7_cases 6 = .ok (.invokevirtual 64, 3) := by decide +kernel
theorem dX7_cases_9 : decode cX7_cases 9 = .ok (.if_icmp .ge 13, 3) := by decide +kernel
theorem dX7_cases_12 : decode cX7_cases 12 = .ok (.iload_n 1, 1) := by decide +kernel
theorem dX7_cases_13 : decode cX7_cases 13 = .ok (.iconst 3, 1) := by decide +kernel
theorem dX7_cases_14 : decode cX7_cases 14 = .ok (.imul, 1) := by decide +kernel
theorem dX7_cases_15 : decode cX7_cases 15 = .ok (.istore_n 1, 1) := by decide +kernel
theorem dX7_cases_16 : decode cX7_cases 16 = .ok (.iinc 2 1, 3) := by decide +kernel
theorem dX7_cases_19 : decode cX7_cases 19 = .ok (.goto (-15), 3) := by decide +kernel
theorem dX7_cases_22 : decode cX7_cases 22 = .ok (.iload_n 1, 1) := by decide +kernel
theorem dX7_cases_23 : decode cX7_cases 23 = .ok (.ireturn, 1) := by decide +kernel
theorem dX7_stateIn_0 : decode cX7_stateIn 0 = .ok (.iload_n 0, 1) := by decide +kernel
theorem dX7_stateIn_1 : decode cX7_stateIn 1 = .ok (.istore_n 2, 1) := by decide +kernel
theorem dX7_stateIn_2 : decode cX7_stateIn 2 = .ok (.iconst 0, 1) := by decide +kernel
theorem dX7_stateIn_3 : decode cX7_stateIn 3 = .ok (.istore_n 3, 1) := by decide +kernel
theorem dX7_stateIn_4 : decode cX7_stateIn 4 = .ok (.iload_n 3, 1) := by decide +kernel
theorem dX7_stateIn_5 : decode cX7_stateIn 5 = .ok (.iload_n 1, 1) := by decide +kernel
theorem dX7_stateIn_6 : decode cX7_stateIn 6 = .ok (.if_icmp .ge 13, 3) := by decide +kernel
theorem dX7_stateIn_9 : decode cX7_stateIn 9 = .ok (.iload_n 2, 1) := by decide +kernel
theorem dX7_stateIn_10 : decode cX7_stateIn 10 = .ok (.iconst 3, 1) := by decide +kernel
theorem dX7_stateIn_11 : decode cX7_stateIn 11 = .ok (.idiv, 1) := by decide +kernel
theorem dX7_stateIn_12 : decode cX7_stateIn 12 = .ok (.istore_n 2, 1) := by decide +kernel
theorem dX7_stateIn_13 : decode cX7_stateIn 13 = .ok (.iinc 3 1, 3) := by decide +kernel
theorem dX7_stateIn_16 : decode cX7_stateIn 16 = .ok (.goto (-12), 3) := by decide +kernel
theorem dX7_stateIn_19 : decode cX7_stateIn 19 = .ok (.iload_n 2, 1) := by decide +kernel
theorem dX7_stateIn_20 : decode cX7_stateIn 20 = .ok (.iconst 3, 1) := by decide +kernel
theorem dX7_stateIn_21 : decode cX7_stateIn 21 = .ok (.irem, 1) := by decide +kernel
theorem dX7_stateIn_22 : decode cX7_stateIn 22 = .ok (.ireturn, 1) := by decide +kernel
theorem dX7_isAt_0 : decode cX7_isAt 0 = .ok (.aload_n 0, 1) := by decide +kernel
theorem dX7_isAt_1 : decode cX7_isAt 1 = .ok (.iload_n 1, 1) := by decide +kernel
theorem dX7_isAt_2 : decode cX7_isAt 2 = .ok (.iconst 1, 1) := by decide +kernel
theorem dX7_isAt_3 : decode cX7_isAt 3 = .ok (.invokevirtual 49, 3) := by decide +kernel
theorem dX7_isAt_6 : decode cX7_isAt 6 = .ok (.iload_n 2, 1) := by decide +kernel
theorem dX7_isAt_7 : decode cX7_isAt 7 = .ok (.if_icmp .eq 41, 3) := by decide +kernel
theorem dX7_isAt_10 : decode cX7_isAt 10 = .ok (.aload_n 0, 1) := by decide +kernel
theorem dX7_isAt_11 : decode cX7_isAt 11 = .ok (.iload_n 1, 1) := by decide +kernel
theorem dX7_isAt_12 : decode cX7_isAt 12 = .ok (.iconst 1, 1) := by decide +kernel
theorem dX7_isAt_13 : decode cX7_isAt 13 = .ok (.invokevirtual 60, 3) := by decide +kernel
theorem dX7_isAt_16 : decode cX7_isAt 16 = .ok (.ifCond .ne 13, 3) := by decide +kernel
theorem dX7_isAt_19 : decode cX7_isAt 19 = .ok (.aload_n 0, 1) := by decide +kernel
theorem dX7_isAt_20 : decode cX7_isAt 20 = .ok (.iload_n 1, 1) := by decide +kernel
theorem dX7_isAt_21 : decode cX7_isAt 21 = .ok (.iconst 2, 1) := by decide +kernel
theorem dX7_isAt_22 : decode cX7_isAt 22 = .ok (.invokevirtual 49, 3) := by decide +kernel
theorem dX7_isAt_25 : decode cX7_isAt 25 = .ok (.iload_n 2, 1) := by decide +kernel
theorem dX7_isAt_26 : decode cX7_isAt 26 = .ok (.if_icmp .eq 22, 3) := by decide +kernel
theorem dX7_isAt_29 : decode cX7_isAt 29 = .ok (.aload_n 0, 1) := by decide +kernel
theorem dX7_isAt_30 : decode cX7_isAt 30 = .ok (.iload_n 1, 1) := by decide +kernel
theorem dX7_isAt_31 : decode cX7_isAt 31 = .ok (.iconst 2, 1) := by decide +kernel
theorem dX7_isAt_32 : decode cX7_isAt 32 = .ok (.invokevirtual 60, 3) := by decide +kernel
theorem dX7_isAt_35 : decode cX7_isAt 35 = .ok (.ifCond .eq 17, 3) := by decide +kernel
theorem dX7_isAt_38 : decode cX7_isAt 38 = .ok (.aload_n 0, 1) := by decide +kernel
theorem dX7_isAt_39 : decode cX7_isAt 39 = .ok (.iload_n 1, 1) := by decide +kernel
theorem dX7_isAt_40 : decode cX7_isAt 40 = .ok (.iconst 3, 1) := by decide +kernel
theorem dX7_isAt_41 : decode cX7_isAt 41 = .ok (.invokevirtual 49, 3) := by decide +kernel
theorem dX7_isAt_44 : decode cX7_isAt 44 = .ok (.iload_n 2, 1) := by decide +kernel
theorem dX7_isAt_45 : decode cX7_isAt 45 = .ok (.if_icmp .ne 7, 3) := by decide +kernel
theorem dX7_isAt_48 : decode cX7_isAt 48 = .ok (.iconst 1, 1) := by decide +kernel
theorem dX7_isAt_49 : decode cX7_isAt 49 = .ok (.goto 4, 3) := by decide +kernel
theorem dX7_isAt_52 : decode cX7_isAt 52 = .ok (.iconst 0, 1) := by decide +kernel
theorem dX7_isAt_53 : decode cX7_isAt 53 = .ok (.ireturn, 1) := by decide +kernel
theorem dX7_isUsed_0 : decode cX7_isUsed 0 = .ok (.iconst 0, 1) := by decide +kernel
theorem dX7_isUsed_1 : decode cX7_isUsed 1 = .ok (.istore_n 2, 1) := by decide +kernel
theorem dX7_isUsed_2 : decode cX7_isUsed 2 = .ok (.iconst 0, 1) := by decide +kernel
