theorem dX7_isUsed_3 : decode cX7_isUsed 3 = .ok (.istore_n 3, 1) := by decide +kernel
theorem dX7_isUsed_4 : decode cX7_isUsed 4 = .ok (.iload_n 3, 1) := by decide +kernel
theorem dX7_isUsed_5 : decode cX7_isUsed 5 = .ok (.aload_n 0, 1) := by decide +kernel
theorem dX7_isUsed_6 : decode cX7_isUsed 6 = .ok (.getfield 7, 3) := by decide +kernel
theorem dX7_isUsed_9 : decode cX7_isUsed 9 = .ok (.bipush 48, 2) := by decide +kernel
theorem dX7_isUsed_11 : decode cX7_isUsed 11 = .ok (.iaload, 1) := by decide +kernel
theorem dX7_isUsed_12 : decode cX7_isUsed 12 = .ok (.if_icmp .ge 28, 3) := by decide +kernel
theorem dX7_isUsed_15 : decode cX7_isUsed 15 = .ok (.iload_n 2, 1) := by decide +kernel
theorem dX7_isUsed_16 : decode cX7_isUsed 16 = .ok (.ifCond .ne 12, 3) := by decide +kernel
theorem dX7_isUsed_19 : decode cX7_isUsed 19 = .ok (.aload_n 0, 1) := by decide +kernel
theorem dX7_isUsed_20 : decode cX7_isUsed 20 = .ok (.iload_n 3, 1) := by decide +kernel
theorem dX7_isUsed_21 : decode cX7_isUsed 21 = .ok (.iload_n 1, 1) := by decide +kernel
theorem dX7_isUsed_22 : decode cX7_isUsed 22 = .ok (.invokevirtual 68, 3) := by decide +kernel
theorem dX7_isUsed_25 : decode cX7_isUsed 25 = .ok (.ifCond .eq 7, 3) := by decide +kernel
theorem dX7_isUsed_28 : decode cX7_isUsed 28 = .ok (.iconst 1, 1) := by decide +kernel
theorem dX7_isUsed_29 : decode cX7_isUsed 29 = .ok (.goto 4, 3) := by decide +kernel
theorem dX7_isUsed_32 : decode cX7_isUsed 32 = .ok (.iconst 0, 1) := by decide +kernel
theorem dX7_isUsed_33 : decode cX7_isUsed 33 = .ok (.istore_n 2, 1) := by decide +kernel
theorem dX7_isUsed_34 : decode cX7_isUsed 34 = .ok (.iinc 3 1, 3) := by decide +kernel
theorem dX7_isUsed_37 : decode cX7_isUsed 37 = .ok (.goto (-33), 3) := by decide +kernel
theorem dX7_isUsed_40 : decode cX7_isUsed 40 = .ok (.iload_n 2, 1) := by decide +kernel
theorem dX7_isUsed_41 : decode cX7_isUsed 41 = .ok (.ireturn, 1) := by decide +kernel
theorem dX7_sourceAt_0 : decode cX7_sourceAt 0 = .ok (.iconst (-1), 1) := by decide +kernel
theorem dX7_sourceAt_1 : decode cX7_sourceAt 1 = .ok (.istore_n 2, 1) := by decide +kernel
theorem dX7_sourceAt_2 : decode cX7_sourceAt 2 = .ok (.iconst 0, 1) := by decide +kernel
theorem dX7_sourceAt_3 : decode cX7_sourceAt 3 = .ok (.istore_n 3, 1) := by decide +kernel
theorem dX7_sourceAt_4 : decode cX7_sourceAt 4 = .ok (.iload_n 3, 1) := by decide +kernel
theorem dX7_sourceAt_5 : decode cX7_sourceAt 5 = .ok (.aload_n 0, 1) := by decide +kernel
theorem dX7_sourceAt_6 : decode cX7_sourceAt 6 = .ok (.getfield 7, 3) := by decide +kernel
theorem dX7_sourceAt_9 : decode cX7_sourceAt 9 = .ok (.bipush 48, 2) := by decide +kernel
theorem dX7_sourceAt_11 : decode cX7_sourceAt 11 = .ok (.iaload, 1) := by decide +kernel
theorem dX7_sourceAt_12 : decode cX7_sourceAt 12 = .ok (.if_icmp .ge 34, 3) := by decide +kernel
theorem dX7_sourceAt_15 : decode cX7_sourceAt 15 = .ok (.aload_n 0, 1) := by decide +kernel
theorem dX7_sourceAt_16 : decode cX7_sourceAt 16 = .ok (.iload_n 3, 1) := by decide +kernel
theorem dX7_sourceAt_17 : decode cX7_sourceAt 17 = .ok (.iconst 1, 1) := by decide +kernel
theorem dX7_sourceAt_18 : decode cX7_sourceAt 18 = .ok (.invokevirtual 60, 3) := by decide +kernel
theorem dX7_sourceAt_21 : decode cX7_sourceAt 21 = .ok (.ifCond .eq 17, 3) := by decide +kernel
theorem dX7_sourceAt_24 : decode cX7_sourceAt 24 = .ok (.aload_n 0, 1) := by decide +kernel
theorem dX7_sourceAt_25 : decode cX7_sourceAt 25 = .ok (.iload_n 3, 1) := by decide +kernel
theorem dX7_sourceAt_26 : decode cX7_sourceAt 26 = .ok (.iconst 1, 1) := by decide +kernel
theorem dX7_sourceAt_27 : decode cX7_sourceAt 27 = .ok (.invokevirtual 49, 3) := by decide +kernel
theorem dX7_sourceAt_30 : decode cX7_sourceAt 30 = .ok (.iload_n 1, 1) := by decide +kernel
theorem dX7_sourceAt_31 : decode cX7_sourceAt 31 = .ok (.if_icmp .ne 7, 3) := by decide +kernel
theorem dX7_sourceAt_34 : decode cX7_sourceAt 34 = .ok (.iload_n 3, 1) := by decide +kernel
theorem dX7_sourceAt_35 : decode cX7_sourceAt 35 = .ok (.goto 4, 3) := by decide +kernel
theorem dX7_sourceAt_38 : decode cX7_sourceAt 38 = .ok (.iload_n 2, 1) := by decide +kernel
theorem dX7_sourceAt_39 : decode cX7_sourceAt 39 = .ok (.istore_n 2, 1) := by decide +kernel
theorem dX7_sourceAt_40 : decode cX7_sourceAt 40 = .ok (.iinc 3 1, 3) := by decide +kernel
theorem dX7_sourceAt_43 : decode cX7_sourceAt 43 = .ok (.goto (-39), 3) := by decide +kernel
theorem dX7_sourceAt_46 : decode cX7_sourceAt 46 = .ok (.iload_n 2, 1) := by decide +kernel
theorem dX7_sourceAt_47 : decode cX7_sourceAt 47 = .ok (.ireturn, 1) := by decide +kernel
theorem dX7_isOutput_0 : decode cX7_isOutput 0 = .ok (.iconst 0, 1) := by decide +kernel
theorem dX7_isOutput_1 : decode cX7_isOutput 1 = .ok (.istore_n 2, 1) := by decide +kernel
theorem dX7_isOutput_2 : decode cX7_isOutput 2 = .ok (.iconst 0, 1) := by decide +kernel
theorem dX7_isOutput_3 : decode cX7_isOutput 3 = .ok (.istore_n 3, 1) := by decide +kernel
theorem dX7_isOutput_4 : decode cX7_isOutput 4 = .ok (.iload_n 3, 1) := by decide +kernel
theorem dX7_isOutput_5 : decode cX7_isOutput 5 = .ok (.aload_n 0, 1) := by decide +kernel
theorem dX7_isOutput_6 : decode cX7_isOutput 6 = .ok (.getfield 7, 3) := by decide +kernel
theorem dX7_isOutput_9 : decode cX7_isOutput 9 = .ok (.bipush 48, 2) := by decide +kernel
theorem dX7_isOutput_11 : decode cX7_isOutput 11 = .ok (.iaload, 1) := by decide +kernel
theorem dX7_isOutput_12 : decode cX7_isOutput 12 = .ok (.if_icmp .ge 38, 3) := by decide +kernel
theorem dX7_isOutput_15 : decode cX7_isOutput 15 = .ok (.iload_n 2, 1) := by decide +kernel
theorem dX7_isOutput_16 : decode cX7_isOutput 16 = .ok (.ifCond .ne 22, 3) := by decide +kernel
theorem dX7_isOutput_19 : decode cX7_isOutput 19 = .ok (.aload_n 0, 1) := by decide +kernel
theorem dX7_isOutput_20 : decode cX7_isOutput 20 = .ok (.iload_n 3, 1) := by decide +kernel
theorem dX7_isOutput_21 : decode cX7_isOutput 21 = .ok (.iconst 2, 1) := by decide +kernel
theorem dX7_isOutput_22 : decode cX7_isOutput 22 = .ok (.invokevirtual 60, 3) := by decide +kernel
theorem dX7_isOutput_25 : decode cX7_isOutput 25 = .ok (.ifCond .eq 17, 3) := by decide +kernel
theorem dX7_isOutput_28 : decode cX7_isOutput 28 = .ok (.aload_n 0, 1) := by decide +kernel
theorem dX7_isOutput_29 : decode cX7_isOutput 29 = .ok (.iload_n 3, 1) := by decide +kernel
theorem dX7_isOutput_30 : decode cX7_isOutput 30 = .ok (.iconst 3, 1) := by decide +kernel
theorem dX7_isOutput_31 : decode cX7_isOutput 31 = .ok (.invokevirtual 49, 3) := by decide +kernel
theorem dX7_isOutput_34 : decode cX7_isOutput 34 = .ok (.iload_n 1, 1) := by decide +kernel
theorem dX7_isOutput_35 : decode cX7_isOutput 35 = .ok (.if_icmp .ne 7, 3) := by decide +kernel
theorem dX7_isOutput_38 : decode cX7_isOutput 38 = .ok (.iconst 1, 1) := by decide +kernel
theorem dX7_isOutput_39 : decode cX7_isOutput 39 = .ok (.goto 4, 3) := by decide +kernel
theorem dX7_isOutput_42 : decode cX7_isOutput 42 = .ok (.iconst 0, 1) := by decide +kernel
theorem dX7_isOutput_43 : decode cX7_isOutput 43 = .ok (.istore_n 2, 1) := by decide +kernel
theorem dX7_isOutput_44 : decode cX7_isOutput 44 = .ok (.iinc 3 1, 3) := by decide +kernel
theorem dX7_isOutput_47 : decode cX7_isOutput 47 = .ok (.goto (-43), 3) := by decide +kernel
theorem dX7_isOutput_50 : decode cX7_isOutput 50 = .ok (.iload_n 2, 1) := by decide +kernel
theorem dX7_isOutput_51 : decode cX7_isOutput 51 = .ok (.ireturn, 1) := by decide +kernel
theorem dX7_isFree_0 : decode cX7_isFree 0 = .ok (.iload_n 1, 1) := by decide +kernel
theorem dX7_isFree_1 : decode cX7_isFree 1 = .ok (.ifCond .le 24, 3) := by decide +kernel
theorem dX7_isFree_4 : decode cX7_isFree 4 = .ok (.aload_n 0, 1) := by decide +kernel
theorem dX7_isFree_5 : decode cX7_isFree 5 = .ok (.iload_n 1, 1) := by decide +kernel
theorem dX7_isFree_6 : decode cX7_isFree 6 = .ok (.invokevirtual 71, 3) := by decide +kernel
theorem dX7_isFree_9 : decode cX7_isFree 9 = .ok (.ifCond .eq 16, 3) := by decide +kernel
theorem dX7_isFree_12 : decode cX7_isFree 12 = .ok (.aload_n 0, 1) := by decide +kernel
theorem dX7_isFree_13 : decode cX7_isFree 13 = .ok (.iload_n 1, 1) := by decide +kernel
theorem dX7_isFree_14 : decode cX7_isFree 14 = .ok (.invokevirtual 75, 3) := by decide +kernel
theorem dX7_isFree_17 : decode cX7_isFree 17 = .ok (.iconst (-1), 1) := by decide +kernel
theorem dX7_isFree_18 : decode cX7_isFree 18 = .ok (.if_icmp .ne 7, 3) := by decide +kernel
theorem dX7_isFree_21 : decode cX7_isFree 21 = .ok (.iconst 1, 1) := by decide +kernel
theorem dX7_isFree_22 : decode cX7_isFree 22 = .ok (.goto 4, 3) := by decide +kernel
theorem dX7_isFree_25 : decode cX7_isFree 25 = .ok (.iconst 0, 1) := by decide +kernel
theorem dX7_isFree_26 : decode cX7_isFree 26 = .ok (.ireturn, 1) := by decide +kernel
theorem dX7_layUnknowns_0 : decode cX7_layUnknowns 0 = .ok (.aload_n 0, 1) := by decide +kernel
theorem dX7_layUnknowns_1 : decode cX7_layUnknowns 1 = .ok (.iconst 0, 1) := by decide +kernel
theorem dX7_layUnknowns_2 : decode cX7_layUnknowns 2 = .ok (.putfield 79, 3) := by decide +kernel
theorem dX7_layUnknowns_5 : decode cX7_layUnknowns 5 = .ok (.iconst 0, 1) := by decide +kernel
theorem dX7_layUnknowns_6 : decode cX7_layUnknowns 6 = .ok (.istore_n 1, 1) := by decide +kernel
theorem dX7_layUnknowns_7 : decode cX7_layUnknowns 7 = .ok (.iload_n 1, 1) := by decide +kernel
theorem dX7_layUnknowns_8 : decode cX7_layUnknowns 8 = .ok (.bipush 7, 2) := by decide +kernel
theorem dX7_layUnknowns_10 : decode cX7_layUnknowns 10 = .ok (.if_icmp .ge 53, 3) := by decide +kernel
theorem dX7_layUnknowns_13 : decode cX7_layUnknowns 13 = .ok (.aload_n 0, 1) := by decide +kernel
theorem dX7_layUnknowns_14 : decode cX7_layUnknowns 14 = .ok (.getfield 25, 3) := by decide +kernel
theorem dX7_layUnknowns_17 : decode cX7_layUnknowns 17 = .ok (.iload_n 1, 1) := by decide +kernel
theorem dX7_layUnknowns_18 : decode cX7_layUnknowns 18 = .ok (.aload_n 0, 1) := by decide +kernel
theorem dX7_layUnknowns_19 : decode cX7_layUnknowns 19 = .ok (.iload_n 1, 1) := by decide +kernel
theorem dX7_layUnknowns_20 : decode cX7_layUnknowns 20 = .ok (.invokevirtual 82, 3) := by decide +kernel
theorem dX7_layUnknowns_23 : decode cX7_layUnknowns 23 = .ok (.ifCond .eq 10, 3) := by decide +kernel
theorem dX7_layUnknowns_26 : decode cX7_layUnknowns 26 = .ok (.aload_n 0, 1) := by decide +kernel
theorem dX7_layUnknowns_27 : decode cX7_layUnknowns 27 = .ok (.getfield 79, 3) := by decide +kernel
theorem dX7_layUnknowns_30 : decode cX7_layUnknowns 30 = .ok (.goto 4, 3) := by decide +kernel
theorem dX7_layUnknowns_33 : decode cX7_layUnknowns 33 = .ok (.iconst (-1), 1) := by decide +kernel
theorem dX7_layUnknowns_34 : decode cX7_layUnknowns 34 = .ok (.iastore, 1) := by decide +kernel
theorem dX7_layUnknowns_35 : decode cX7_layUnknowns 35 = .ok (.aload_n 0, 1) := by decide +kernel
theorem dX7_layUnknowns_36 : decode cX7_layUnknowns 36 = .ok (.dup, 1) := by decide +kernel
theorem dX7_layUnknowns_37 : decode cX7_layUnknowns 37 = .ok (.getfield 79, 3) := by decide +kernel
theorem dX7_layUnknowns_40 : decode cX7_layUnknowns 40 = .ok (.aload_n 0, 1) := by decide +kernel
theorem dX7_layUnknowns_41 : decode cX7_layUnknowns 41 = .ok (.iload_n 1, 1) := by decide +kernel
theorem dX7_layUnknowns_42 : decode cX7_layUnknowns 42 = .ok (.invokevirtual 82, 3) := by decide +kernel
theorem dX7_layUnknowns_45 : decode cX7_layUnknowns 45 = .ok (.ifCond .eq 7, 3) := by decide +kernel
theorem dX7_layUnknowns_48 : decode cX7_layUnknowns 48 = .ok (.iconst 1, 1) := by decide +kernel
theorem dX7_layUnknowns_49 : decode cX7_layUnknowns 49 = .ok (.goto 4, 3) := by decide +kernel
theorem dX7_layUnknowns_52 : decode cX7_layUnknowns 52 = .ok (.iconst 0, 1) := by decide +kernel
theorem dX7_layUnknowns_53 : decode cX7_layUnknowns 53 = .ok (.iadd, 1) := by decide +kernel
theorem dX7_layUnknowns_54 : decode cX7_layUnknowns 54 = .ok (.putfield 79, 3) := by decide +kernel
theorem dX7_layUnknowns_57 : decode cX7_layUnknowns 57 = .ok (.iinc 1 1, 3) := by decide +kernel
theorem dX7_layUnknowns_60 : decode cX7_layUnknowns 60 = .ok (.goto (-53), 3) := by decide +kernel
theorem dX7_layUnknowns_63 : decode cX7_layUnknowns 63 = .ok (.return_, 1) := by decide +kernel
theorem dX7_addTo_0 : decode cX7_addTo 0 = .ok (.aload_n 0, 1) := by decide +kernel
theorem dX7_addTo_1 : decode cX7_addTo 1 = .ok (.getfield 25, 3) := by decide +kernel
theorem dX7_addTo_4 : decode cX7_addTo 4 = .ok (.iload_n 1, 1) := by decide +kernel
theorem dX7_addTo_5 : decode cX7_addTo 5 = .ok (.iaload, 1) := by decide +kernel
theorem dX7_addTo_6 : decode cX7_addTo 6 = .ok (.iconst (-1), 1) := by decide +kernel
theorem dX7_addTo_7 : decode cX7_addTo 7 = .ok (.if_icmp .eq 29, 3) := by decide +kernel
theorem dX7_addTo_10 : decode cX7_addTo 10 = .ok (.aload_n 0, 1) := by decide +kernel
theorem dX7_addTo_11 : decode cX7_addTo 11 = .ok (.getfield 28, 3) := by decide +kernel
theorem dX7_addTo_14 : decode cX7_addTo 14 = .ok (.bipush 7, 2) := by decide +kernel
theorem dX7_addTo_16 : decode cX7_addTo 16 = .ok (.aload_n 0, 1) := by decide +kernel
theorem dX7_addTo_17 : decode cX7_addTo 17 = .ok (.getfield 85, 3) := by decide +kernel
theorem dX7_addTo_20 : decode cX7_addTo 20 = .ok (.imul, 1) := by decide +kernel
theorem dX7_addTo_21 : decode cX7_addTo 21 = .ok (.aload_n 0, 1) := by decide +kernel
theorem dX7_addTo_22 : decode cX7_addTo 22 = .ok (.getfield 25, 3) := by decide +kernel
theorem dX7_addTo_25 : decode cX7_addTo 25 = .ok (.iload_n 1, 1) := by decide +kernel
theorem dX7_addTo_26 : decode cX7_addTo 26 = .ok (.iaload, 1) := by decide +kernel
theorem dX7_addTo_27 : decode cX7_addTo 27 = .ok (.iadd, 1) := by decide +kernel
theorem dX7_addTo_28 : decode cX7_addTo 28 = .ok (.dup2, 1) := by decide +kernel
theorem dX7_addTo_29 : decode cX7_addTo 29 = .ok (.laload, 1) := by decide +kernel
theorem dX7_addTo_30 : decode cX7_addTo 30 = .ok (.lload_n 2, 1) := by decide +kernel
theorem dX7_addTo_31 : decode cX7_addTo 31 = .ok (.ladd, 1) := by decide +kernel
theorem dX7_addTo_32 : decode cX7_addTo 32 = .ok (.lastore, 1) := by decide +kernel
theorem dX7_addTo_33 : decode cX7_addTo 33 = .ok (.goto 43, 3) := by decide +kernel
theorem dX7_addTo_36 : decode cX7_addTo 36 = .ok (.iload_n 1, 1) := by decide +kernel
theorem dX7_addTo_37 : decode cX7_addTo 37 = .ok (.ifCond .le 39, 3) := by decide +kernel
theorem dX7_addTo_40 : decode cX7_addTo 40 = .ok (.iload 4, 2) := by decide +kernel
theorem dX7_addTo_42 : decode cX7_addTo 42 = .ok (.ifCond .ne 34, 3) := by decide +kernel
theorem dX7_addTo_45 : decode cX7_addTo 45 = .ok (.aload_n 0, 1) := by decide +kernel
theorem dX7_addTo_46 : decode cX7_addTo 46 = .ok (.getfield 28, 3) := by decide +kernel
theorem dX7_addTo_49 : decode cX7_addTo 49 = .ok (.bipush 7, 2) := by decide +kernel
theorem dX7_addTo_51 : decode cX7_addTo 51 = .ok (.aload_n 0, 1) := by decide +kernel
theorem dX7_addTo_52 : decode cX7_addTo 52 = .ok (.getfield 85, 3) := by decide +kernel
theorem dX7_addTo_55 : decode cX7_addTo 55 = .ok (.imul, 1) := by decide +kernel
theorem dX7_addTo_56 : decode cX7_addTo 56 = .ok (.bipush 6, 2) := by decide +kernel
theorem dX7_addTo_58 : decode cX7_addTo 58 = .ok (.iadd, 1) := by decide +kernel
theorem dX7_addTo_59 : decode cX7_addTo 59 = .ok (.dup2, 1) := by decide +kernel
theorem dX7_addTo_60 : decode cX7_addTo 60 = .ok (.laload, 1) := by decide +kernel
theorem dX7_addTo_61 : decode cX7_addTo 61 = .ok (.lload_n 2, 1) := by decide +kernel
theorem dX7_addTo_62 : decode cX7_addTo 62 = .ok (.aload_n 0, 1) := by decide +kernel
theorem dX7_addTo_63 : decode cX7_addTo 63 = .ok (.aload_n 0, 1) := by decide +kernel
theorem dX7_addTo_64 : decode cX7_addTo 64 = .ok (.iload_n 1, 1) := by decide +kernel
theorem dX7_addTo_65 : decode cX7_addTo 65 = .ok (.invokevirtual 75, 3) := by decide +kernel
theorem dX7_addTo_68 : decode cX7_addTo 68 = .ok (.iconst 3, 1) := by decide +kernel
theorem dX7_addTo_69 : decode cX7_addTo 69 = .ok (.invokevirtual 49, 3) := by decide +kernel
theorem dX7_addTo_72 : decode cX7_addTo 72 = .ok (.i2l, 1) := by decide +kernel
theorem dX7_addTo_73 : decode cX7_addTo 73 = .ok (.lmul, 1) := by decide +kernel
theorem dX7_addTo_74 : decode cX7_addTo 74 = .ok (.lsub, 1) := by decide +kernel
theorem dX7_addTo_75 : decode cX7_addTo 75 = .ok (.lastore, 1) := by decide +kernel
theorem dX7_addTo_76 : decode cX7_addTo 76 = .ok (.return_, 1) := by decide +kernel
theorem dX7_currents_0 : decode cX7_currents 0 = .ok (.iconst 0, 1) := by decide +kernel
theorem dX7_currents_1 : decode cX7_currents 1 = .ok (.istore_n 3, 1) := by decide +kernel
theorem dX7_currents_2 : decode cX7_currents 2 = .ok (.iload_n 3, 1) := by decide +kernel
theorem dX7_currents_3 : decode cX7_currents 3 = .ok (.aload_n 0, 1) := by decide +kernel
theorem dX7_currents_4 : decode cX7_currents 4 = .ok (.getfield 7, 3) := by decide +kernel
theorem dX7_currents_7 : decode cX7_currents 7 = .ok (.bipush 48, 2) := by decide +kernel
theorem dX7_currents_9 : decode cX7_currents 9 = .ok (.iaload, 1) := by decide +kernel
theorem dX7_currents_10 : decode cX7_currents 10 = .ok (.if_icmp .ge 82, 3) := by decide +kernel
theorem dX7_currents_13 : decode cX7_currents 13 = .ok (.aload_n 0, 1) := by decide +kernel
theorem dX7_currents_14 : decode cX7_currents 14 = .ok (.iload_n 3, 1) := by decide +kernel
theorem dX7_currents_15 : decode cX7_currents 15 = .ok (.iconst 0, 1) := by decide +kernel
theorem dX7_currents_16 : decode cX7_currents 16 = .ok (.invokevirtual 60, 3) := by decide +kernel
theorem dX7_currents_19 : decode cX7_currents 19 = .ok (.ifCond .eq 67, 3) := by decide +kernel
theorem dX7_currents_22 : decode cX7_currents 22 = .ok (.aload_n 0, 1) := by decide +kernel
theorem dX7_currents_23 : decode cX7_currents 23 = .ok (.iload_n 3, 1) := by decide +kernel
theorem dX7_currents_24 : decode cX7_currents 24 = .ok (.iload_n 1, 1) := by decide +kernel
theorem dX7_currents_25 : decode cX7_currents 25 = .ok (.invokevirtual 68, 3) := by decide +kernel
theorem dX7_currents_28 : decode cX7_currents 28 = .ok (.ifCond .eq 58, 3) := by decide +kernel
theorem dX7_currents_31 : decode cX7_currents 31 = .ok (.aload_n 0, 1) := by decide +kernel
theorem dX7_currents_32 : decode cX7_currents 32 = .ok (.iload_n 3, 1) := by decide +kernel
theorem dX7_currents_33 : decode cX7_currents 33 = .ok (.iconst 1, 1) := by decide +kernel
theorem dX7_currents_34 : decode cX7_currents 34 = .ok (.invokevirtual 49, 3) := by decide +kernel
theorem dX7_currents_37 : decode cX7_currents 37 = .ok (.iload_n 1, 1) := by decide +kernel
theorem dX7_currents_38 : decode cX7_currents 38 = .ok (.if_icmp .ne 12, 3) := by decide +kernel
theorem dX7_currents_41 : decode cX7_currents 41 = .ok (.aload_n 0, 1) := by decide +kernel
theorem dX7_currents_42 : decode cX7_currents 42 = .ok (.iload_n 3, 1) := by decide +kernel
theorem dX7_currents_43 : decode cX7_currents 43 = .ok (.iconst 2, 1) := by decide +kernel
theorem dX7_currents_44 : decode cX7_currents 44 = .ok (.invokevirtual 49, 3) := by decide +kernel
theorem dX7_currents_47 : decode cX7_currents 47 = .ok (.goto 9, 3) := by decide +kernel
theorem dX7_currents_50 : decode cX7_currents 50 = .ok (.aload_n 0, 1) := by decide +kernel
theorem dX7_currents_51 : decode cX7_currents 51 = .ok (.iload_n 3, 1) := by decide +kernel
theorem dX7_currents_52 : decode cX7_currents 52 = .ok (.iconst 1, 1) := by decide +kernel
theorem dX7_currents_53 : decode cX7_currents 53 = .ok (.invokevirtual 49, 3) := by decide +kernel
theorem dX7_currents_56 : decode cX7_currents 56 = .ok (.istore 4, 2) := by decide +kernel
theorem dX7_currents_58 : decode cX7_currents 58 = .ok (.aload_n 0, 1) := by decide +kernel
theorem dX7_currents_59 : decode cX7_currents 59 = .ok (.iload_n 1, 1) := by decide +kernel
theorem dX7_currents_60 : decode cX7_currents 60 = .ok (.aload_n 0, 1) := by decide +kernel
theorem dX7_currents_61 : decode cX7_currents 61 = .ok (.iload_n 3, 1) := by decide +kernel
theorem dX7_currents_62 : decode cX7_currents 62 = .ok (.iconst 3, 1) := by decide +kernel
theorem dX7_currents_63 : decode cX7_currents 63 = .ok (.invokevirtual 49, 3) := by decide +kernel
theorem dX7_currents_66 : decode cX7_currents 66 = .ok (.i2l, 1) := by decide +kernel
theorem dX7_currents_67 : decode cX7_currents 67 = .ok (.iload_n 2, 1) := by decide +kernel
theorem dX7_currents_68 : decode cX7_currents 68 = .ok (.invokevirtual 88, 3) := by decide +kernel
theorem dX7_currents_71 : decode cX7_currents 71 = .ok (.aload_n 0, 1) := by decide +kernel
theorem dX7_currents_72 : decode cX7_currents 72 = .ok (.iload 4, 2) := by decide +kernel
theorem dX7_currents_74 : decode cX7_currents 74 = .ok (.aload_n 0, 1) := by decide +kernel
theorem dX7_currents_75 : decode cX7_currents 75 = .ok (.iload_n 3, 1) := by decide +kernel
theorem dX7_currents_76 : decode cX7_currents 76 = .ok (.iconst 3, 1) := by decide +kernel
theorem dX7_currents_77 : decode cX7_currents 77 = .ok (.invokevirtual 49, 3) := by decide +kernel
theorem dX7_currents_80 : decode cX7_currents 80 = .ok (.ineg, 1) := by decide +kernel
theorem dX7_currents_81 : decode cX7_currents 81 = .ok (.i2l, 1) := by decide +kernel
theorem dX7_currents_82 : decode cX7_currents 82 = .ok (.iload_n 2, 1) := by decide +kernel
theorem dX7_currents_83 : decode cX7_currents 83 = .ok (.invokevirtual 88, 3) := by decide +kernel
theorem dX7_currents_86 : decode cX7_currents 86 = .ok (.iinc 3 1, 3) := by decide +kernel
theorem dX7_currents_89 : decode cX7_currents 89 = .ok (.goto (-87), 3) := by decide +kernel
theorem dX7_currents_92 : decode cX7_currents 92 = .ok (.aload_n 0, 1) := by decide +kernel
theorem dX7_currents_93 : decode cX7_currents 93 = .ok (.dup, 1) := by decide +kernel
theorem dX7_currents_94 : decode cX7_currents 94 = .ok (.getfield 85, 3) := by decide +kernel
theorem dX7_currents_97 : decode cX7_currents 97 = .ok (.iconst 1, 1) := by decide +kernel
theorem dX7_currents_98 : decode cX7_currents 98 = .ok (.iadd, 1) := by decide +kernel
theorem dX7_currents_99 : decode cX7_currents 99 = .ok (.putfield 85, 3) := by decide +kernel
theorem dX7_currents_102 : decode cX7_currents 102 = .ok (.return_, 1) := by decide +kernel
theorem dX7_amplifierRule_0 : decode cX7_amplifierRule 0 = .ok (.aload_n 0, 1) := by decide +kernel
theorem dX7_amplifierRule_1 : decode cX7_amplifierRule 1 = .ok (.iload_n 1, 1) := by decide +kernel
theorem dX7_amplifierRule_2 : decode cX7_amplifierRule 2 = .ok (.invokevirtual 92, 3) := by decide +kernel
theorem dX7_amplifierRule_5 : decode cX7_amplifierRule 5 = .ok (.istore 4, 2) := by decide +kernel
theorem dX7_amplifierRule_7 : decode cX7_amplifierRule 7 = .ok (.iload_n 2, 1) := by decide +kernel
theorem dX7_amplifierRule_8 : decode cX7_amplifierRule 8 = .ok (.iload_n 1, 1) := by decide +kernel
theorem dX7_amplifierRule_9 : decode cX7_amplifierRule 9 = .ok (.invokestatic 95, 3) := by decide +kernel
theorem dX7_amplifierRule_12 : decode cX7_amplifierRule 12 = .ok (.istore 5, 2) := by decide +kernel
theorem dX7_amplifierRule_14 : decode cX7_amplifierRule 14 = .ok (.iload_n 3, 1) := by decide +kernel
theorem dX7_amplifierRule_15 : decode cX7_amplifierRule 15 = .ok (.iconst (-1), 1) := by decide +kernel
theorem dX7_amplifierRule_16 : decode cX7_amplifierRule 16 = .ok (.if_icmp .eq 7, 3) := by decide +kernel
theorem dX7_amplifierRule_19 : decode cX7_amplifierRule 19 = .ok (.iconst 1, 1) := by decide +kernel
theorem dX7_amplifierRule_20 : decode cX7_amplifierRule 20 = .ok (.goto 4, 3) := by decide +kernel
theorem dX7_amplifierRule_23 : decode cX7_amplifierRule 23 = .ok (.iconst 0, 1) := by decide +kernel
theorem dX7_amplifierRule_24 : decode cX7_amplifierRule 24 = .ok (.istore 6, 2) := by decide +kernel
theorem dX7_amplifierRule_26 : decode cX7_amplifierRule 26 = .ok (.iload 5, 2) := by decide +kernel
theorem dX7_amplifierRule_28 : decode cX7_amplifierRule 28 = .ok (.ifCond .ne 41, 3) := by decide +kernel
theorem dX7_amplifierRule_31 : decode cX7_amplifierRule 31 = .ok (.iload_n 1, 1) := by decide +kernel
theorem dX7_amplifierRule_32 : decode cX7_amplifierRule 32 = .ok (.iload_n 3, 1) := by decide +kernel
theorem dX7_amplifierRule_33 : decode cX7_amplifierRule 33 = .ok (.if_icmp .eq 36, 3) := by decide +kernel
theorem dX7_amplifierRule_36 : decode cX7_amplifierRule 36 = .ok (.aload_n 0, 1) := by decide +kernel
theorem dX7_amplifierRule_37 : decode cX7_amplifierRule 37 = .ok (.aload_n 0, 1) := by decide +kernel
theorem dX7_amplifierRule_38 : decode cX7_amplifierRule 38 = .ok (.iload 4, 2) := by decide +kernel
theorem dX7_amplifierRule_40 : decode cX7_amplifierRule 40 = .ok (.iconst 1, 1) := by decide +kernel
theorem dX7_amplifierRule_41 : decode cX7_amplifierRule 41 = .ok (.invokevirtual 49, 3) := by decide +kernel
theorem dX7_amplifierRule_44 : decode cX7_amplifierRule 44 = .ok (.lconst 1, 1) := by decide +kernel
theorem dX7_amplifierRule_45 : decode cX7_amplifierRule 45 = .ok (.iload 6, 2) := by decide +kernel
theorem dX7_amplifierRule_47 : decode cX7_amplifierRule 47 = .ok (.invokevirtual 88, 3) := by decide +kernel
theorem dX7_amplifierRule_50 : decode cX7_amplifierRule 50 = .ok (.aload_n 0, 1) := by decide +kernel
theorem dX7_amplifierRule_51 : decode cX7_amplifierRule 51 = .ok (.aload_n 0, 1) := by decide +kernel
theorem dX7_amplifierRule_52 : decode cX7_amplifierRule 52 = .ok (.iload 4, 2) := by decide +kernel
theorem dX7_amplifierRule_54 : decode cX7_amplifierRule 54 = .ok (.iconst 2, 1) := by decide +kernel
theorem dX7_amplifierRule_55 : decode cX7_amplifierRule 55 = .ok (.invokevirtual 49, 3) := by decide +kernel
theorem dX7_amplifierRule_58 : decode cX7_amplifierRule 58 = .ok (.ldc2_w 98, 3) := by decide +kernel
theorem dX7_amplifierRule_61 : decode cX7_amplifierRule 61 = .ok (.iload 6, 2) := by decide +kernel
theorem dX7_amplifierRule_63 : decode cX7_amplifierRule 63 = .ok (.invokevirtual 88, 3) := by decide +kernel
theorem dX7_amplifierRule_66 : decode cX7_amplifierRule 66 = .ok (.goto 82, 3) := by decide +kernel
theorem dX7_amplifierRule_69 : decode cX7_amplifierRule 69 = .ok (.iload 5, 2) := by decide +kernel
theorem dX7_amplifierRule_71 : decode cX7_amplifierRule 71 = .ok (.iconst 1, 1) := by decide +kernel
theorem dX7_amplifierRule_72 : decode cX7_amplifierRule 72 = .ok (.if_icmp .ne 13, 3) := by decide +kernel
theorem dX7_amplifierRule_75 : decode cX7_amplifierRule 75 = .ok (.aload_n 0, 1) := by decide +kernel
theorem dX7_amplifierRule_76 : decode cX7_amplifierRule 76 = .ok (.getfield 7, 3) := by decide +kernel
theorem dX7_amplifierRule_79 : decode cX7_amplifierRule 79 = .ok (.bipush 49, 2) := by decide +kernel
theorem dX7_amplifierRule_81 : decode cX7_amplifierRule 81 = .ok (.iaload, 1) := by decide +kernel
theorem dX7_amplifierRule_82 : decode cX7_amplifierRule 82 = .ok (.goto 11, 3) := by decide +kernel
theorem dX7_amplifierRule_85 : decode cX7_amplifierRule 85 = .ok (.aload_n 0, 1) := by decide +kernel
theorem dX7_amplifierRule_86 : decode cX7_amplifierRule 86 = .ok (.getfield 7, 3) := by decide +kernel
theorem dX7_amplifierRule_89 : decode cX7_amplifierRule 89 = .ok (.bipush 49, 2) := by decide +kernel
theorem dX7_amplifierRule_91 : decode cX7_amplifierRule 91 = .ok (.iaload, 1) := by decide +kernel
theorem dX7_amplifierRule_92 : decode cX7_amplifierRule 92 = .ok (.ineg, 1) := by decide +kernel
theorem dX7_amplifierRule_93 : decode cX7_amplifierRule 93 = .ok (.istore 7, 2) := by decide +kernel
theorem dX7_amplifierRule_95 : decode cX7_amplifierRule 95 = .ok (.aload_n 0, 1) := by decide +kernel
theorem dX7_amplifierRule_96 : decode cX7_amplifierRule 96 = .ok (.aload_n 0, 1) := by decide +kernel
theorem dX7_amplifierRule_97 : decode cX7_amplifierRule 97 = .ok (.iload 4, 2) := by decide +kernel
theorem dX7_amplifierRule_99 : decode cX7_amplifierRule 99 = .ok (.iconst 3, 1) := by decide +kernel
theorem dX7_amplifierRule_100 : decode cX7_amplifierRule 100 = .ok (.invokevirtual 49, 3) := by decide +kernel
theorem dX7_amplifierRule_103 : decode cX7_amplifierRule 103 = .ok (.lconst 1, 1) := by decide +kernel
theorem dX7_amplifierRule_104 : decode cX7_amplifierRule 104 = .ok (.iload 6, 2) := by decide +kernel
theorem dX7_amplifierRule_106 : decode cX7_amplifierRule 106 = .ok (.invokevirtual 88, 3) := by decide +kernel
theorem dX7_amplifierRule_109 : decode cX7_amplifierRule 109 = .ok (.aload_n 0, 1) := by decide +kernel
theorem dX7_amplifierRule_110 : decode cX7_amplifierRule 110 = .ok (.getfield 28, 3) := by decide +kernel
theorem dX7_amplifierRule_113 : decode cX7_amplifierRule 113 = .ok (.bipush 7, 2) := by decide +kernel
theorem dX7_amplifierRule_115 : decode cX7_amplifierRule 115 = .ok (.aload_n 0, 1) := by decide +kernel
theorem dX7_amplifierRule_116 : decode cX7_amplifierRule 116 = .ok (.getfield 85, 3) := by decide +kernel
theorem dX7_amplifierRule_119 : decode cX7_amplifierRule 119 = .ok (.imul, 1) := by decide +kernel
theorem dX7_amplifierRule_120 : decode cX7_amplifierRule 120 = .ok (.bipush 6, 2) := by decide +kernel
theorem dX7_amplifierRule_122 : decode cX7_amplifierRule 122 = .ok (.iadd, 1) := by decide +kernel
theorem dX7_amplifierRule_123 : decode cX7_amplifierRule 123 = .ok (.dup2, 1) := by decide +kernel
theorem dX7_amplifierRule_124 : decode cX7_amplifierRule 124 = .ok (.laload, 1) := by decide +kernel
theorem dX7_amplifierRule_125 : decode cX7_amplifierRule 125 = .ok (.iload_n 1, 1) := by decide +kernel
theorem dX7_amplifierRule_126 : decode cX7_amplifierRule 126 = .ok (.iload_n 3, 1) := by decide +kernel
theorem dX7_amplifierRule_127 : decode cX7_amplifierRule 127 = .ok (.if_icmp .ne 7, 3) := by decide +kernel
theorem dX7_amplifierRule_130 : decode cX7_amplifierRule 130 = .ok (.lconst 1, 1) := by decide +kernel
theorem dX7_amplifierRule_131 : decode cX7_amplifierRule 131 = .ok (.goto 15, 3) := by decide +kernel
theorem dX7_amplifierRule_134 : decode cX7_amplifierRule 134 = .ok (.iload 6, 2) := by decide +kernel
theorem dX7_amplifierRule_136 : decode cX7_amplifierRule 136 = .ok (.ifCond .eq 7, 3) := by decide +kernel
theorem dX7_amplifierRule_139 : decode cX7_amplifierRule 139 = .ok (.lconst 0, 1) := by decide +kernel
theorem dX7_amplifierRule_140 : decode cX7_amplifierRule 140 = .ok (.goto 6, 3) := by decide +kernel
theorem dX7_amplifierRule_143 : decode cX7_amplifierRule 143 = .ok (.iload 7, 2) := by decide +kernel
theorem dX7_amplifierRule_145 : decode cX7_amplifierRule 145 = .ok (.i2l, 1) := by decide +kernel
theorem dX7_amplifierRule_146 : decode cX7_amplifierRule 146 = .ok (.ladd, 1) := by decide +kernel
theorem dX7_amplifierRule_147 : decode cX7_amplifierRule 147 = .ok (.lastore, 1) := by decide +kernel
theorem dX7_amplifierRule_148 : decode cX7_amplifierRule 148 = .ok (.aload_n 0, 1) := by decide +kernel
theorem dX7_amplifierRule_149 : decode cX7_amplifierRule 149 = .ok (.dup, 1) := by decide +kernel
theorem dX7_amplifierRule_150 : decode cX7_amplifierRule 150 = .ok (.getfield 85, 3) := by decide +kernel
theorem dX7_amplifierRule_153 : decode cX7_amplifierRule 153 = .ok (.iconst 1, 1) := by decide +kernel
theorem dX7_amplifierRule_154 : decode cX7_amplifierRule 154 = .ok (.iadd, 1) := by decide +kernel
theorem dX7_amplifierRule_155 : decode cX7_amplifierRule 155 = .ok (.putfield 85, 3) := by decide +kernel
theorem dX7_amplifierRule_158 : decode cX7_amplifierRule 158 = .ok (.return_, 1) := by decide +kernel
theorem dX7_layRules_0 : decode cX7_layRules 0 = .ok (.aload_n 0, 1) := by decide +kernel
theorem dX7_layRules_1 : decode cX7_layRules 1 = .ok (.invokevirtual 100, 3) := by decide +kernel
theorem dX7_layRules_4 : decode cX7_layRules 4 = .ok (.iconst 0, 1) := by decide +kernel
theorem dX7_layRules_5 : decode cX7_layRules 5 = .ok (.istore_n 3, 1) := by decide +kernel
theorem dX7_layRules_6 : decode cX7_layRules 6 = .ok (.iload_n 3, 1) := by decide +kernel
theorem dX7_layRules_7 : decode cX7_layRules 7 = .ok (.bipush 42, 2) := by decide +kernel
theorem dX7_layRules_9 : decode cX7_layRules 9 = .ok (.if_icmp .ge 16, 3) := by decide +kernel
theorem dX7_layRules_12 : decode cX7_layRules 12 = .ok (.aload_n 0, 1) := by decide +kernel
theorem dX7_layRules_13 : decode cX7_layRules 13 = .ok (.getfield 28, 3) := by decide +kernel
theorem dX7_layRules_16 : decode cX7_layRules 16 = .ok (.iload_n 3, 1) := by decide +kernel
theorem dX7_layRules_17 : decode cX7_layRules 17 = .ok (.lconst 0, 1) := by decide +kernel
theorem dX7_layRules_18 : decode cX7_layRules 18 = .ok (.lastore, 1) := by decide +kernel
theorem dX7_layRules_19 : decode cX7_layRules 19 = .ok (.iinc 3 1, 3) := by decide +kernel
theorem dX7_layRules_22 : decode cX7_layRules 22 = .ok (.goto (-16), 3) := by decide +kernel
theorem dX7_layRules_25 : decode cX7_layRules 25 = .ok (.aload_n 0, 1) := by decide +kernel
theorem dX7_layRules_26 : decode cX7_layRules 26 = .ok (.iconst 0, 1) := by decide +kernel
theorem dX7_layRules_27 : decode cX7_layRules 27 = .ok (.putfield 85, 3) := by decide +kernel
theorem dX7_layRules_30 : decode cX7_layRules 30 = .ok (.iconst 1, 1) := by decide +kernel
theorem dX7_layRules_31 : decode cX7_layRules 31 = .ok (.istore_n 3, 1) := by decide +kernel
theorem dX7_layRules_32 : decode cX7_layRules 32 = .ok (.iload_n 3, 1) := by decide +kernel
theorem dX7_layRules_33 : decode cX7_layRules 33 = .ok (.bipush 7, 2) := by decide +kernel
theorem dX7_layRules_35 : decode cX7_layRules 35 = .ok (.if_icmp .ge 40, 3) := by decide +kernel
theorem dX7_layRules_38 : decode cX7_layRules 38 = .ok (.aload_n 0, 1) := by decide +kernel
theorem dX7_layRules_39 : decode cX7_layRules 39 = .ok (.iload_n 3, 1) := by decide +kernel
theorem dX7_layRules_40 : decode cX7_layRules 40 = .ok (.invokevirtual 82, 3) := by decide +kernel
theorem dX7_layRules_43 : decode cX7_layRules 43 = .ok (.ifCond .eq 26, 3) := by decide +kernel
theorem dX7_layRules_46 : decode cX7_layRules 46 = .ok (.aload_n 0, 1) := by decide +kernel
theorem dX7_layRules_47 : decode cX7_layRules 47 = .ok (.iload_n 3, 1) := by decide +kernel
theorem dX7_layRules_48 : decode cX7_layRules 48 = .ok (.invokevirtual 103, 3) := by decide +kernel
theorem dX7_layRules_51 : decode cX7_layRules 51 = .ok (.ifCond .ne 18, 3) := by decide +kernel
theorem dX7_layRules_54 : decode cX7_layRules 54 = .ok (.aload_n 0, 1) := by decide +kernel
theorem dX7_layRules_55 : decode cX7_layRules 55 = .ok (.iload_n 3, 1) := by decide +kernel
theorem dX7_layRules_56 : decode cX7_layRules 56 = .ok (.iload_n 2, 1) := by decide +kernel
theorem dX7_layRules_57 : decode cX7_layRules 57 = .ok (.iconst (-1), 1) := by decide +kernel
theorem dX7_layRules_58 : decode cX7_layRules 58 = .ok (.if_icmp .eq 7, 3) := by decide +kernel
theorem dX7_layRules_61 : decode cX7_layRules 61 = .ok (.iconst 1, 1) := by decide +kernel
theorem dX7_layRules_62 : decode cX7_layRules 62 = .ok (.goto 4, 3) := by decide +kernel
theorem dX7_layRules_65 : decode cX7_layRules 65 = .ok (.iconst 0, 1) := by decide +kernel
theorem dX7_layRules_66 : decode cX7_layRules 66 = .ok (.invokevirtual 106, 3) := by decide +kernel
theorem dX7_layRules_69 : decode cX7_layRules 69 = .ok (.iinc 3 1, 3) := by decide +kernel
theorem dX7_layRules_72 : decode cX7_layRules 72 = .ok (.goto (-40), 3) := by decide +kernel
theorem dX7_layRules_75 : decode cX7_layRules 75 = .ok (.iconst 0, 1) := by decide +kernel
theorem dX7_layRules_76 : decode cX7_layRules 76 = .ok (.istore_n 3, 1) := by decide +kernel
theorem dX7_layRules_77 : decode cX7_layRules 77 = .ok (.iload_n 3, 1) := by decide +kernel
theorem dX7_layRules_78 : decode cX7_layRules 78 = .ok (.aload_n 0, 1) := by decide +kernel
theorem dX7_layRules_79 : decode cX7_layRules 79 = .ok (.invokevirtual 64, 3) := by decide +kernel
theorem dX7_layRules_82 : decode cX7_layRules 82 = .ok (.if_icmp .ge 16, 3) := by decide +kernel
theorem dX7_layRules_85 : decode cX7_layRules 85 = .ok (.aload_n 0, 1) := by decide +kernel
theorem dX7_layRules_86 : decode cX7_layRules 86 = .ok (.iload_n 3, 1) := by decide +kernel
theorem dX7_layRules_87 : decode cX7_layRules 87 = .ok (.iload_n 1, 1) := by decide +kernel
theorem dX7_layRules_88 : decode cX7_layRules 88 = .ok (.iload_n 2, 1) := by decide +kernel
theorem dX7_layRules_89 : decode cX7_layRules 89 = .ok (.invokevirtual 110, 3) := by decide +kernel
theorem dX7_layRules_92 : decode cX7_layRules 92 = .ok (.iinc 3 1, 3) := by decide +kernel
theorem dX7_layRules_95 : decode cX7_layRules 95 = .ok (.goto (-18), 3) := by decide +kernel
theorem dX7_layRules_98 : decode cX7_layRules 98 = .ok (.return_, 1) := by decide +kernel
theorem dX7_determinant_0 : decode cX7_determinant 0 = .ok (.aload_n 0, 1) := by decide +kernel
theorem dX7_determinant_1 : decode cX7_determinant 1 = .ok (.getfield 79, 3) := by decide +kernel
theorem dX7_determinant_4 : decode cX7_determinant 4 = .ok (.istore_n 2, 1) := by decide +kernel
theorem dX7_determinant_5 : decode cX7_determinant 5 = .ok (.iconst 0, 1) := by decide +kernel
theorem dX7_determinant_6 : decode cX7_determinant 6 = .ok (.istore_n 3, 1) := by decide +kernel
theorem dX7_determinant_7 : decode cX7_determinant 7 = .ok (.iload_n 3, 1) := by decide +kernel
theorem dX7_determinant_8 : decode cX7_determinant 8 = .ok (.iload_n 2, 1) := by decide +kernel
theorem dX7_determinant_9 : decode cX7_determinant 9 = .ok (.iload_n 2, 1) := by decide +kernel
theorem dX7_determinant_10 : decode cX7_determinant 10 = .ok (.imul, 1) := by decide +kernel
theorem dX7_determinant_11 : decode cX7_determinant 11 = .ok (.if_icmp .ge 42, 3) := by decide +kernel
theorem dX7_determinant_14 : decode cX7_determinant 14 = .ok (.aload_n 0, 1) := by decide +kernel
theorem dX7_determinant_15 : decode cX7_determinant 15 = .ok (.getfield 32, 3) := by decide +kernel
theorem dX7_determinant_18 : decode cX7_determinant 18 = .ok (.iload_n 3, 1) := by decide +kernel
theorem dX7_determinant_19 : decode cX7_determinant 19 = .ok (.aload_n 0, 1) := by decide +kernel
theorem dX7_determinant_20 : decode cX7_determinant 20 = .ok (.getfield 28, 3) := by decide +kernel
theorem dX7_determinant_23 : decode cX7_determinant 23 = .ok (.bipush 7, 2) := by decide +kernel
theorem dX7_determinant_25 : decode cX7_determinant 25 = .ok (.iload_n 3, 1) := by decide +kernel
theorem dX7_determinant_26 : decode cX7_determinant 26 = .ok (.iload_n 2, 1) := by decide +kernel
theorem dX7_determinant_27 : decode cX7_determinant 27 = .ok (.idiv, 1) := by decide +kernel
theorem dX7_determinant_28 : decode cX7_determinant 28 = .ok (.imul, 1) := by decide +kernel
theorem dX7_determinant_29 : decode cX7_determinant 29 = .ok (.iload_n 3, 1) := by decide +kernel
theorem dX7_determinant_30 : decode cX7_determinant 30 = .ok (.iload_n 2, 1) := by decide +kernel
theorem dX7_determinant_31 : decode cX7_determinant 31 = .ok (.irem, 1) := by decide +kernel
theorem dX7_determinant_32 : decode cX7_determinant 32 = .ok (.iload_n 1, 1) := by decide +kernel
theorem dX7_determinant_33 : decode cX7_determinant 33 = .ok (.if_icmp .ne 8, 3) := by decide +kernel
theorem dX7_determinant_36 : decode cX7_determinant 36 = .ok (.bipush 6, 2) := by decide +kernel
theorem dX7_determinant_38 : decode cX7_determinant 38 = .ok (.goto 6, 3) := by decide +kernel
theorem dX7_determinant_41 : decode cX7_determinant 41 = .ok (.iload_n 3, 1) := by decide +kernel
theorem dX7_determinant_42 : decode cX7_determinant 42 = .ok (.iload_n 2, 1) := by decide +kernel
theorem dX7_determinant_43 : decode cX7_determinant 43 = .ok (.irem, 1) := by decide +kernel
theorem dX7_determinant_44 : decode cX7_determinant 44 = .ok (.iadd, 1) := by decide +kernel
theorem dX7_determinant_45 : decode cX7_determinant 45 = .ok (.laload, 1) := by decide +kernel
theorem dX7_determinant_46 : decode cX7_determinant 46 = .ok (.lastore, 1) := by decide +kernel
theorem dX7_determinant_47 : decode cX7_determinant 47 = .ok (.iinc 3 1, 3) := by decide +kernel
theorem dX7_determinant_50 : decode cX7_determinant 50 = .ok (.goto (-43), 3) := by decide +kernel
theorem dX7_determinant_53 : decode cX7_determinant 53 = .ok (.lconst 1, 1) := by decide +kernel
theorem dX7_determinant_54 : decode cX7_determinant 54 = .ok (.lstore_n 3, 1) := by decide +kernel
theorem dX7_determinant_55 : decode cX7_determinant 55 = .ok (.iconst 1, 1) := by decide +kernel
theorem dX7_determinant_56 : decode cX7_determinant 56 = .ok (.istore 5, 2) := by decide +kernel
theorem dX7_determinant_58 : decode cX7_determinant 58 = .ok (.iconst 0, 1) := by decide +kernel
theorem dX7_determinant_59 : decode cX7_determinant 59 = .ok (.istore 6, 2) := by decide +kernel
theorem dX7_determinant_61 : decode cX7_determinant 61 = .ok (.iload 6, 2) := by decide +kernel
theorem dX7_determinant_63 : decode cX7_determinant 63 = .ok (.iload_n 2, 1) := by decide +kernel
theorem dX7_determinant_64 : decode cX7_determinant 64 = .ok (.if_icmp .ge 248, 3) := by decide +kernel
theorem dX7_determinant_67 : decode cX7_determinant 67 = .ok (.iload 6, 2) := by decide +kernel
theorem dX7_determinant_69 : decode cX7_determinant 69 = .ok (.istore 7, 2) := by decide +kernel
theorem dX7_determinant_71 : decode cX7_determinant 71 = .ok (.iload 7, 2) := by decide +kernel
theorem dX7_determinant_73 : decode cX7_determinant 73 = .ok (.iload_n 2, 1) := by decide +kernel
theorem dX7_determinant_74 : decode cX7_determinant 74 = .ok (.if_icmp .ge 26, 3) := by decide +kernel
theorem dX7_determinant_77 : decode cX7_determinant 77 = .ok (.aload_n 0, 1) := by decide +kernel
theorem dX7_determinant_78 : decode cX7_determinant 78 = .ok (.getfield 32, 3) := by decide +kernel
theorem dX7_determinant_81 : decode cX7_determinant 81 = .ok (.iload_n 2, 1) := by decide +kernel
theorem dX7_determinant_82 : decode cX7_determinant 82 = .ok (.iload 7, 2) := by decide +kernel
theorem dX7_determinant_84 : decode cX7_determinant 84 = .ok (.imul, 1) := by decide +kernel
theorem dX7_determinant_85 : decode cX7_determinant 85 = .ok (.iload 6, 2) := by decide +kernel
theorem dX7_determinant_87 : decode cX7_determinant 87 = .ok (.iadd, 1) := by decide +kernel
theorem dX7_determinant_88 : decode cX7_determinant 88 = .ok (.laload, 1) := by decide +kernel
theorem dX7_determinant_89 : decode cX7_determinant 89 = .ok (.lconst 0, 1) := by decide +kernel
theorem dX7_determinant_90 : decode cX7_determinant 90 = .ok (.lcmp, 1) := by decide +kernel
theorem dX7_determinant_91 : decode cX7_determinant 91 = .ok (.ifCond .ne 9, 3) := by decide +kernel
theorem dX7_determinant_94 : decode cX7_determinant 94 = .ok (.iinc 7 1, 3) := by decide +kernel
theorem dX7_determinant_97 : decode cX7_determinant 97 = .ok (.goto (-26), 3) := by decide +kernel
theorem dX7_determinant_100 : decode cX7_determinant 100 = .ok (.iload 7, 2) := by decide +kernel
theorem dX7_determinant_102 : decode cX7_determinant 102 = .ok (.iload_n 2, 1) := by decide +kernel
theorem dX7_determinant_103 : decode cX7_determinant 103 = .ok (.if_icmp .ne 5, 3) := by decide +kernel
theorem dX7_determinant_106 : decode cX7_determinant 106 = .ok (.lconst 0, 1) := by decide +kernel
theorem dX7_determinant_107 : decode cX7_determinant 107 = .ok (.lreturn, 1) := by decide +kernel
theorem dX7_determinant_108 : decode cX7_determinant 108 = .ok (.iload 7, 2) := by decide +kernel
theorem dX7_determinant_110 : decode cX7_determinant 110 = .ok (.iload 6, 2) := by decide +kernel
theorem dX7_determinant_112 : decode cX7_determinant 112 = .ok (.if_icmp .ne 8, 3) := by decide +kernel
theorem dX7_determinant_115 : decode cX7_determinant 115 = .ok (.iload 5, 2) := by decide +kernel
theorem dX7_determinant_117 : decode cX7_determinant 117 = .ok (.goto 6, 3) := by decide +kernel
theorem dX7_determinant_120 : decode cX7_determinant 120 = .ok (.iload 5, 2) := by decide +kernel
theorem dX7_determinant_122 : decode cX7_determinant 122 = .ok (.ineg, 1) := by decide +kernel
theorem dX7_determinant_123 : decode cX7_determinant 123 = .ok (.istore 5, 2) := by decide +kernel
theorem dX7_determinant_125 : decode cX7_determinant 125 = .ok (.iconst 0, 1) := by decide +kernel
theorem dX7_determinant_126 : decode cX7_determinant 126 = .ok (.istore 8, 2) := by decide +kernel
theorem dX7_determinant_128 : decode cX7_determinant 128 = .ok (.iload 8, 2) := by decide +kernel
theorem dX7_determinant_130 : decode cX7_determinant 130 = .ok (.iload_n 2, 1) := by decide +kernel
theorem dX7_determinant_131 : decode cX7_determinant 131 = .ok (.if_icmp .ge 61, 3) := by decide +kernel
theorem dX7_determinant_134 : decode cX7_determinant 134 = .ok (.aload_n 0, 1) := by decide +kernel
theorem dX7_determinant_135 : decode cX7_determinant 135 = .ok (.getfield 32, 3) := by decide +kernel
theorem dX7_determinant_138 : decode cX7_determinant 138 = .ok (.iload_n 2, 1) := by decide +kernel
theorem dX7_determinant_139 : decode cX7_determinant 139 = .ok (.iload 7, 2) := by decide +kernel
theorem dX7_determinant_141 : decode cX7_determinant 141 = .ok (.imul, 1) := by decide +kernel
theorem dX7_determinant_142 : decode cX7_determinant 142 = .ok (.iload 8, 2) := by decide +kernel
theorem dX7_determinant_144 : decode cX7_determinant 144 = .ok (.iadd, 1) := by decide +kernel
theorem dX7_determinant_145 : decode cX7_determinant 145 = .ok (.laload, 1) := by decide +kernel
theorem dX7_determinant_146 : decode cX7_determinant 146 = .ok (.lstore 9, 2) := by decide +kernel
theorem dX7_determinant_148 : decode cX7_determinant 148 = .ok (.aload_n 0, 1) := by decide +kernel
theorem dX7_determinant_149 : decode cX7_determinant 149 = .ok (.getfield 32, 3) := by decide +kernel
theorem dX7_determinant_152 : decode cX7_determinant 152 = .ok (.iload_n 2, 1) := by decide +kernel
theorem dX7_determinant_153 : decode cX7_determinant 153 = .ok (.iload 7, 2) := by decide +kernel
theorem dX7_determinant_155 : decode cX7_determinant 155 = .ok (.imul, 1) := by decide +kernel
theorem dX7_determinant_156 : decode cX7_determinant 156 = .ok (.iload 8, 2) := by decide +kernel
theorem dX7_determinant_158 : decode cX7_determinant 158 = .ok (.iadd, 1) := by decide +kernel
theorem dX7_determinant_159 : decode cX7_determinant 159 = .ok (.aload_n 0, 1) := by decide +kernel
theorem dX7_determinant_160 : decode cX7_determinant 160 = .ok (.getfield 32, 3) := by decide +kernel
theorem dX7_determinant_163 : decode cX7_determinant 163 = .ok (.iload_n 2, 1) := by decide +kernel
theorem dX7_determinant_164 : decode cX7_determinant 164 = .ok (.iload 6, 2) := by decide +kernel
theorem dX7_determinant_166 : decode cX7_determinant 166 = .ok (.imul, 1) := by decide +kernel
theorem dX7_determinant_167 : decode cX7_determinant 167 = .ok (.iload 8, 2) := by decide +kernel
theorem dX7_determinant_169 : decode cX7_determinant 169 = .ok (.iadd, 1) := by decide +kernel
theorem dX7_determinant_170 : decode cX7_determinant 170 = .ok (.laload, 1) := by decide +kernel
theorem dX7_determinant_171 : decode cX7_determinant 171 = .ok (.lastore, 1) := by decide +kernel
theorem dX7_determinant_172 : decode cX7_determinant 172 = .ok (.aload_n 0, 1) := by decide +kernel
theorem dX7_determinant_173 : decode cX7_determinant 173 = .ok (.getfield 32, 3) := by decide +kernel
theorem dX7_determinant_176 : decode cX7_determinant 176 = .ok (.iload_n 2, 1) := by decide +kernel
theorem dX7_determinant_177 : decode cX7_determinant 177 = .ok (.iload 6, 2) := by decide +kernel
theorem dX7_determinant_179 : decode cX7_determinant 179 = .ok (.imul, 1) := by decide +kernel
theorem dX7_determinant_180 : decode cX7_determinant 180 = .ok (.iload 8, 2) := by decide +kernel
theorem dX7_determinant_182 : decode cX7_determinant 182 = .ok (.iadd, 1) := by decide +kernel
theorem dX7_determinant_183 : decode cX7_determinant 183 = .ok (.lload 9, 2) := by decide +kernel
theorem dX7_determinant_185 : decode cX7_determinant 185 = .ok (.lastore, 1) := by decide +kernel
theorem dX7_determinant_186 : decode cX7_determinant 186 = .ok (.iinc 8 1, 3) := by decide +kernel
theorem dX7_determinant_189 : decode cX7_determinant 189 = .ok (.goto (-61), 3) := by decide +kernel
theorem dX7_determinant_192 : decode cX7_determinant 192 = .ok (.iload 6, 2) := by decide +kernel
theorem dX7_determinant_194 : decode cX7_determinant 194 = .ok (.iconst 1, 1) := by decide +kernel
theorem dX7_determinant_195 : decode cX7_determinant 195 = .ok (.iadd, 1) := by decide +kernel
theorem dX7_determinant_196 : decode cX7_determinant 196 = .ok (.istore 8, 2) := by decide +kernel
theorem dX7_determinant_198 : decode cX7_determinant 198 = .ok (.iload 8, 2) := by decide +kernel
theorem dX7_determinant_200 : decode cX7_determinant 200 = .ok (.iload_n 2, 1) := by decide +kernel
theorem dX7_determinant_201 : decode cX7_determinant 201 = .ok (.if_icmp .ge 92, 3) := by decide +kernel
theorem dX7_determinant_204 : decode cX7_determinant 204 = .ok (.iload 6, 2) := by decide +kernel
theorem dX7_determinant_206 : decode cX7_determinant 206 = .ok (.iconst 1, 1) := by decide +kernel
theorem dX7_determinant_207 : decode cX7_determinant 207 = .ok (.iadd, 1) := by decide +kernel
theorem dX7_determinant_208 : decode cX7_determinant 208 = .ok (.istore 9, 2) := by decide +kernel
theorem dX7_determinant_210 : decode cX7_determinant 210 = .ok (.iload 9, 2) := by decide +kernel
theorem dX7_determinant_212 : decode cX7_determinant 212 = .ok (.iload_n 2, 1) := by decide +kernel
theorem dX7_determinant_213 : decode cX7_determinant 213 = .ok (.if_icmp .ge 74, 3) := by decide +kernel
theorem dX7_determinant_216 : decode cX7_determinant 216 = .ok (.aload_n 0, 1) := by decide +kernel
theorem dX7_determinant_217 : decode cX7_determinant 217 = .ok (.getfield 32, 3) := by decide +kernel
theorem dX7_determinant_220 : decode cX7_determinant 220 = .ok (.iload_n 2, 1) := by decide +kernel
theorem dX7_determinant_221 : decode cX7_determinant 221 = .ok (.iload 8, 2) := by decide +kernel
theorem dX7_determinant_223 : decode cX7_determinant 223 = .ok (.imul, 1) := by decide +kernel
theorem dX7_determinant_224 : decode cX7_determinant 224 = .ok (.iload 9, 2) := by decide +kernel
theorem dX7_determinant_226 : decode cX7_determinant 226 = .ok (.iadd, 1) := by decide +kernel
theorem dX7_determinant_227 : decode cX7_determinant 227 = .ok (.aload_n 0, 1) := by decide +kernel
theorem dX7_determinant_228 : decode cX7_determinant 228 = .ok (.getfield 32, 3) := by decide +kernel
theorem dX7_determinant_231 : decode cX7_determinant 231 = .ok (.iload_n 2, 1) := by decide +kernel
theorem dX7_determinant_232 : decode cX7_determinant 232 = .ok (.iload 8, 2) := by decide +kernel
theorem dX7_determinant_234 : decode cX7_determinant 234 = .ok (.imul, 1) := by decide +kernel
theorem dX7_determinant_235 : decode cX7_determinant 235 = .ok (.iload 9, 2) := by decide +kernel
theorem dX7_determinant_237 : decode cX7_determinant 237 = .ok (.iadd, 1) := by decide +kernel
theorem dX7_determinant_238 : decode cX7_determinant 238 = .ok (.laload, 1) := by decide +kernel
theorem dX7_determinant_239 : decode cX7_determinant 239 = .ok (.aload_n 0, 1) := by decide +kernel
theorem dX7_determinant_240 : decode cX7_determinant 240 = .ok (.getfield 32, 3) := by decide +kernel
theorem dX7_determinant_243 : decode cX7_determinant 243 = .ok (.iload_n 2, 1) := by decide +kernel
theorem dX7_determinant_244 : decode cX7_determinant 244 = .ok (.iload 6, 2) := by decide +kernel
theorem dX7_determinant_246 : decode cX7_determinant 246 = .ok (.imul, 1) := by decide +kernel
theorem dX7_determinant_247 : decode cX7_determinant 247 = .ok (.iload 6, 2) := by decide +kernel
theorem dX7_determinant_249 : decode cX7_determinant 249 = .ok (.iadd, 1) := by decide +kernel
theorem dX7_determinant_250 : decode cX7_determinant 250 = .ok (.laload, 1) := by decide +kernel
theorem dX7_determinant_251 : decode cX7_determinant 251 = .ok (.lmul, 1) := by decide +kernel
theorem dX7_determinant_252 : decode cX7_determinant 252 = .ok (.aload_n 0, 1) := by decide +kernel
theorem dX7_determinant_253 : decode cX7_determinant 253 = .ok (.getfield 32, 3) := by decide +kernel
theorem dX7_determinant_256 : decode cX7_determinant 256 = .ok (.iload_n 2, 1) := by decide +kernel
theorem dX7_determinant_257 : decode cX7_determinant 257 = .ok (.iload 8, 2) := by decide +kernel
theorem dX7_determinant_259 : decode cX7_determinant 259 = .ok (.imul, 1) := by decide +kernel
theorem dX7_determinant_260 : decode cX7_determinant 260 = .ok (.iload 6, 2) := by decide +kernel
theorem dX7_determinant_262 : decode cX7_determinant 262 = .ok (.iadd, 1) := by decide +kernel
theorem dX7_determinant_263 : decode cX7_determinant 263 = .ok (.laload, 1) := by decide +kernel
theorem dX7_determinant_264 : decode cX7_determinant 264 = .ok (.aload_n 0, 1) := by decide +kernel
theorem dX7_determinant_265 : decode cX7_determinant 265 = .ok (.getfield 32, 3) := by decide +kernel
theorem dX7_determinant_268 : decode cX7_determinant 268 = .ok (.iload_n 2, 1) := by decide +kernel
theorem dX7_determinant_269 : decode cX7_determinant 269 = .ok (.iload 6, 2) := by decide +kernel
theorem dX7_determinant_271 : decode cX7_determinant 271 = .ok (.imul, 1) := by decide +kernel
theorem dX7_determinant_272 : decode cX7_determinant 272 = .ok (.iload 9, 2) := by decide +kernel
theorem dX7_determinant_274 : decode cX7_determinant 274 = .ok (.iadd, 1) := by decide +kernel
theorem dX7_determinant_275 : decode cX7_determinant 275 = .ok (.laload, 1) := by decide +kernel
theorem dX7_determinant_276 : decode cX7_determinant 276 = .ok (.lmul, 1) := by decide +kernel
theorem dX7_determinant_277 : decode cX7_determinant 277 = .ok (.lsub, 1) := by decide +kernel
theorem dX7_determinant_278 : decode cX7_determinant 278 = .ok (.lload_n 3, 1) := by decide +kernel
theorem dX7_determinant_279 : decode cX7_determinant 279 = .ok (.ldiv, 1) := by decide +kernel
theorem dX7_determinant_280 : decode cX7_determinant 280 = .ok (.lastore, 1) := by decide +kernel
theorem dX7_determinant_281 : decode cX7_determinant 281 = .ok (.iinc 9 1, 3) := by decide +kernel
theorem dX7_determinant_284 : decode cX7_determinant 284 = .ok (.goto (-74), 3) := by decide +kernel
theorem dX7_determinant_287 : decode cX7_determinant 287 = .ok (.iinc 8 1, 3) := by decide +kernel
theorem dX7_determinant_290 : decode cX7_determinant 290 = .ok (.goto (-92), 3) := by decide +kernel
theorem dX7_determinant_293 : decode cX7_determinant 293 = .ok (.aload_n 0, 1) := by decide +kernel
theorem dX7_determinant_294 : decode cX7_determinant 294 = .ok (.getfield 32, 3) := by decide +kernel
theorem dX7_determinant_297 : decode cX7_determinant 297 = .ok (.iload_n 2, 1) := by decide +kernel
theorem dX7_determinant_298 : decode cX7_determinant 298 = .ok (.iload 6, 2) := by decide +kernel
theorem dX7_determinant_300 : decode cX7_determinant 300 = .ok (.imul, 1) := by decide +kernel
theorem dX7_determinant_301 : decode cX7_determinant 301 = .ok (.iload 6, 2) := by decide +kernel
theorem dX7_determinant_303 : decode cX7_determinant 303 = .ok (.iadd, 1) := by decide +kernel
theorem dX7_determinant_304 : decode cX7_determinant 304 = .ok (.laload, 1) := by decide +kernel
theorem dX7_determinant_305 : decode cX7_determinant 305 = .ok (.lstore_n 3, 1) := by decide +kernel
theorem dX7_determinant_306 : decode cX7_determinant 306 = .ok (.iinc 6 1, 3) := by decide +kernel
theorem dX7_determinant_309 : decode cX7_determinant 309 = .ok (.goto (-248), 3) := by decide +kernel
theorem dX7_determinant_312 : decode cX7_determinant 312 = .ok (.iload 5, 2) := by decide +kernel
theorem dX7_determinant_314 : decode cX7_determinant 314 = .ok (.i2l, 1) := by decide +kernel
theorem dX7_determinant_315 : decode cX7_determinant 315 = .ok (.lload_n 3, 1) := by decide +kernel
theorem dX7_determinant_316 : decode cX7_determinant 316 = .ok (.lmul, 1) := by decide +kernel
theorem dX7_determinant_317 : decode cX7_determinant 317 = .ok (.lreturn, 1) := by decide +kernel
theorem dX7_solve_0 : decode cX7_solve 0 = .ok (.aload_n 0, 1) := by decide +kernel
theorem dX7_solve_1 : decode cX7_solve 1 = .ok (.iload_n 1, 1) := by decide +kernel
theorem dX7_solve_2 : decode cX7_solve 2 = .ok (.iload_n 2, 1) := by decide +kernel
theorem dX7_solve_3 : decode cX7_solve 3 = .ok (.invokevirtual 114, 3) := by decide +kernel
theorem dX7_solve_6 : decode cX7_solve 6 = .ok (.aload_n 0, 1) := by decide +kernel
theorem dX7_solve_7 : decode cX7_solve 7 = .ok (.aload_n 0, 1) := by decide +kernel
theorem dX7_solve_8 : decode cX7_solve 8 = .ok (.iconst (-1), 1) := by decide +kernel
theorem dX7_solve_9 : decode cX7_solve 9 = .ok (.invokevirtual 118, 3) := by decide +kernel
theorem dX7_solve_12 : decode cX7_solve 12 = .ok (.putfield 122, 3) := by decide +kernel
theorem dX7_solve_15 : decode cX7_solve 15 = .ok (.aload_n 0, 1) := by decide +kernel
theorem dX7_solve_16 : decode cX7_solve 16 = .ok (.getfield 122, 3) := by decide +kernel
theorem dX7_solve_19 : decode cX7_solve 19 = .ok (.lconst 0, 1) := by decide +kernel
theorem dX7_solve_20 : decode cX7_solve 20 = .ok (.lcmp, 1) := by decide +kernel
theorem dX7_solve_21 : decode cX7_solve 21 = .ok (.ifCond .ne 5, 3) := by decide +kernel
theorem dX7_solve_24 : decode cX7_solve 24 = .ok (.iconst 0, 1) := by decide +kernel
theorem dX7_solve_25 : decode cX7_solve 25 = .ok (.ireturn, 1) := by decide +kernel
theorem dX7_solve_26 : decode cX7_solve 26 = .ok (.aload_n 0, 1) := by decide +kernel
theorem dX7_solve_27 : decode cX7_solve 27 = .ok (.getfield 122, 3) := by decide +kernel
theorem dX7_solve_30 : decode cX7_solve 30 = .ok (.lconst 0, 1) := by decide +kernel
theorem dX7_solve_31 : decode cX7_solve 31 = .ok (.lcmp, 1) := by decide +kernel
theorem dX7_solve_32 : decode cX7_solve 32 = .ok (.ifCond .le 7, 3) := by decide +kernel
theorem dX7_solve_35 : decode cX7_solve 35 = .ok (.lconst 1, 1) := by decide +kernel
theorem dX7_solve_36 : decode cX7_solve 36 = .ok (.goto 6, 3) := by decide +kernel
theorem dX7_solve_39 : decode cX7_solve 39 = .ok (.ldc2_w 98, 3) := by decide +kernel
theorem dX7_solve_42 : decode cX7_solve 42 = .ok (.lstore_n 3, 1) := by decide +kernel
theorem dX7_solve_43 : decode cX7_solve 43 = .ok (.aload_n 0, 1) := by decide +kernel
theorem dX7_solve_44 : decode cX7_solve 44 = .ok (.dup, 1) := by decide +kernel
theorem dX7_solve_45 : decode cX7_solve 45 = .ok (.getfield 122, 3) := by decide +kernel
theorem dX7_solve_48 : decode cX7_solve 48 = .ok (.lload_n 3, 1) := by decide +kernel
theorem dX7_solve_49 : decode cX7_solve 49 = .ok (.lmul, 1) := by decide +kernel
theorem dX7_solve_50 : decode cX7_solve 50 = .ok (.putfield 122, 3) := by decide +kernel
theorem dX7_solve_53 : decode cX7_solve 53 = .ok (.iconst 0, 1) := by decide +kernel
theorem dX7_solve_54 : decode cX7_solve 54 = .ok (.istore 5, 2) := by decide +kernel
theorem dX7_solve_56 : decode cX7_solve 56 = .ok (.iload 5, 2) := by decide +kernel
theorem dX7_solve_58 : decode cX7_solve 58 = .ok (.bipush 7, 2) := by decide +kernel
theorem dX7_solve_60 : decode cX7_solve 60 = .ok (.if_icmp .ge 83, 3) := by decide +kernel
theorem dX7_solve_63 : decode cX7_solve 63 = .ok (.aload_n 0, 1) := by decide +kernel
theorem dX7_solve_64 : decode cX7_solve 64 = .ok (.iload 5, 2) := by decide +kernel
theorem dX7_solve_66 : decode cX7_solve 66 = .ok (.invokevirtual 75, 3) := by decide +kernel
theorem dX7_solve_69 : decode cX7_solve 69 = .ok (.istore 6, 2) := by decide +kernel
theorem dX7_solve_71 : decode cX7_solve 71 = .ok (.iload 6, 2) := by decide +kernel
theorem dX7_solve_73 : decode cX7_solve 73 = .ok (.iconst (-1), 1) := by decide +kernel
theorem dX7_solve_74 : decode cX7_solve 74 = .ok (.if_icmp .eq 8, 3) := by decide +kernel
theorem dX7_solve_77 : decode cX7_solve 77 = .ok (.iload_n 2, 1) := by decide +kernel
theorem dX7_solve_78 : decode cX7_solve 78 = .ok (.iconst (-1), 1) := by decide +kernel
theorem dX7_solve_79 : decode cX7_solve 79 = .ok (.if_icmp .eq 7, 3) := by decide +kernel
theorem dX7_solve_82 : decode cX7_solve 82 = .ok (.lconst 0, 1) := by decide +kernel
theorem dX7_solve_83 : decode cX7_solve 83 = .ok (.goto 16, 3) := by decide +kernel
theorem dX7_solve_86 : decode cX7_solve 86 = .ok (.aload_n 0, 1) := by decide +kernel
theorem dX7_solve_87 : decode cX7_solve 87 = .ok (.iload 6, 2) := by decide +kernel
theorem dX7_solve_89 : decode cX7_solve 89 = .ok (.iconst 3, 1) := by decide +kernel
theorem dX7_solve_90 : decode cX7_solve 90 = .ok (.invokevirtual 49, 3) := by decide +kernel
theorem dX7_solve_93 : decode cX7_solve 93 = .ok (.i2l, 1) := by decide +kernel
theorem dX7_solve_94 : decode cX7_solve 94 = .ok (.aload_n 0, 1) := by decide +kernel
theorem dX7_solve_95 : decode cX7_solve 95 = .ok (.getfield 122, 3) := by decide +kernel
theorem dX7_solve_98 : decode cX7_solve 98 = .ok (.lmul, 1) := by decide +kernel
theorem dX7_solve_99 : decode cX7_solve 99 = .ok (.lstore 7, 2) := by decide +kernel
theorem dX7_solve_101 : decode cX7_solve 101 = .ok (.aload_n 0, 1) := by decide +kernel
theorem dX7_solve_102 : decode cX7_solve 102 = .ok (.getfield 35, 3) := by decide +kernel
theorem dX7_solve_105 : decode cX7_solve 105 = .ok (.iload 5, 2) := by decide +kernel
theorem dX7_solve_107 : decode cX7_solve 107 = .ok (.aload_n 0, 1) := by decide +kernel
theorem dX7_solve_108 : decode cX7_solve 108 = .ok (.getfield 25, 3) := by decide +kernel
theorem dX7_solve_111 : decode cX7_solve 111 = .ok (.iload 5, 2) := by decide +kernel
theorem dX7_solve_113 : decode cX7_solve 113 = .ok (.iaload, 1) := by decide +kernel
theorem dX7_solve_114 : decode cX7_solve 114 = .ok (.iconst (-1), 1) := by decide +kernel
theorem dX7_solve_115 : decode cX7_solve 115 = .ok (.if_icmp .ne 8, 3) := by decide +kernel
theorem dX7_solve_118 : decode cX7_solve 118 = .ok (.lload 7, 2) := by decide +kernel
theorem dX7_solve_120 : decode cX7_solve 120 = .ok (.goto 16, 3) := by decide +kernel
theorem dX7_solve_123 : decode cX7_solve 123 = .ok (.lload_n 3, 1) := by decide +kernel
theorem dX7_solve_124 : decode cX7_solve 124 = .ok (.aload_n 0, 1) := by decide +kernel
theorem dX7_solve_125 : decode cX7_solve 125 = .ok (.aload_n 0, 1) := by decide +kernel
theorem dX7_solve_126 : decode cX7_solve 126 = .ok (.getfield 25, 3) := by decide +kernel
theorem dX7_solve_129 : decode cX7_solve 129 = .ok (.iload 5, 2) := by decide +kernel
theorem dX7_solve_131 : decode cX7_solve 131 = .ok (.iaload, 1) := by decide +kernel
theorem dX7_solve_132 : decode cX7_solve 132 = .ok (.invokevirtual 118, 3) := by decide +kernel
theorem dX7_solve_135 : decode cX7_solve 135 = .ok (.lmul, 1) := by decide +kernel
theorem dX7_solve_136 : decode cX7_solve 136 = .ok (.lastore, 1) := by decide +kernel
theorem dX7_solve_137 : decode cX7_solve 137 = .ok (.iinc 5 1, 3) := by decide +kernel
theorem dX7_solve_140 : decode cX7_solve 140 = .ok (.goto (-84), 3) := by decide +kernel
theorem dX7_solve_143 : decode cX7_solve 143 = .ok (.iconst 1, 1) := by decide +kernel
theorem dX7_solve_144 : decode cX7_solve 144 = .ok (.ireturn, 1) := by decide +kernel
theorem dX7_input_0 : decode cX7_input 0 = .ok (.aload_n 0, 1) := by decide +kernel
theorem dX7_input_1 : decode cX7_input 1 = .ok (.iload_n 1, 1) := by decide +kernel
theorem dX7_input_2 : decode cX7_input 2 = .ok (.invokevirtual 92, 3) := by decide +kernel
theorem dX7_input_5 : decode cX7_input 5 = .ok (.istore_n 2, 1) := by decide +kernel
theorem dX7_input_6 : decode cX7_input 6 = .ok (.aload_n 0, 1) := by decide +kernel
theorem dX7_input_7 : decode cX7_input 7 = .ok (.getfield 35, 3) := by decide +kernel
theorem dX7_input_10 : decode cX7_input 10 = .ok (.aload_n 0, 1) := by decide +kernel
theorem dX7_input_11 : decode cX7_input 11 = .ok (.iload_n 2, 1) := by decide +kernel
theorem dX7_input_12 : decode cX7_input 12 = .ok (.iconst 1, 1) := by decide +kernel
theorem dX7_input_13 : decode cX7_input 13 = .ok (.invokevirtual 49, 3) := by decide +kernel
theorem dX7_input_16 : decode cX7_input 16 = .ok (.laload, 1) := by decide +kernel
theorem dX7_input_17 : decode cX7_input 17 = .ok (.aload_n 0, 1) := by decide +kernel
theorem dX7_input_18 : decode cX7_input 18 = .ok (.getfield 35, 3) := by decide +kernel
theorem dX7_input_21 : decode cX7_input 21 = .ok (.aload_n 0, 1) := by decide +kernel
theorem dX7_input_22 : decode cX7_input 22 = .ok (.iload_n 2, 1) := by decide +kernel
theorem dX7_input_23 : decode cX7_input 23 = .ok (.iconst 2, 1) := by decide +kernel
theorem dX7_input_24 : decode cX7_input 24 = .ok (.invokevirtual 49, 3) := by decide +kernel
theorem dX7_input_27 : decode cX7_input 27 = .ok (.laload, 1) := by decide +kernel
theorem dX7_input_28 : decode cX7_input 28 = .ok (.lsub, 1) := by decide +kernel
theorem dX7_input_29 : decode cX7_input 29 = .ok (.lreturn, 1) := by decide +kernel
theorem dX7_fault_0 : decode cX7_fault 0 = .ok (.iload_n 2, 1) := by decide +kernel
theorem dX7_fault_1 : decode cX7_fault 1 = .ok (.iload_n 1, 1) := by decide +kernel
theorem dX7_fault_2 : decode cX7_fault 2 = .ok (.invokestatic 95, 3) := by decide +kernel
theorem dX7_fault_5 : decode cX7_fault 5 = .ok (.istore_n 3, 1) := by decide +kernel
theorem dX7_fault_6 : decode cX7_fault 6 = .ok (.aload_n 0, 1) := by decide +kernel
theorem dX7_fault_7 : decode cX7_fault 7 = .ok (.iload_n 2, 1) := by decide +kernel
theorem dX7_fault_8 : decode cX7_fault 8 = .ok (.iconst (-1), 1) := by decide +kernel
theorem dX7_fault_9 : decode cX7_fault 9 = .ok (.invokevirtual 126, 3) := by decide +kernel
theorem dX7_fault_12 : decode cX7_fault 12 = .ok (.pop, 1) := by decide +kernel
theorem dX7_fault_13 : decode cX7_fault 13 = .ok (.iload_n 3, 1) := by decide +kernel
theorem dX7_fault_14 : decode cX7_fault 14 = .ok (.ifCond .ne 81, 3) := by decide +kernel
theorem dX7_fault_17 : decode cX7_fault 17 = .ok (.aload_n 0, 1) := by decide +kernel
theorem dX7_fault_18 : decode cX7_fault 18 = .ok (.getfield 35, 3) := by decide +kernel
theorem dX7_fault_21 : decode cX7_fault 21 = .ok (.aload_n 0, 1) := by decide +kernel
theorem dX7_fault_22 : decode cX7_fault 22 = .ok (.aload_n 0, 1) := by decide +kernel
theorem dX7_fault_23 : decode cX7_fault 23 = .ok (.iload_n 1, 1) := by decide +kernel
theorem dX7_fault_24 : decode cX7_fault 24 = .ok (.invokevirtual 92, 3) := by decide +kernel
theorem dX7_fault_27 : decode cX7_fault 27 = .ok (.iconst 3, 1) := by decide +kernel
theorem dX7_fault_28 : decode cX7_fault 28 = .ok (.invokevirtual 49, 3) := by decide +kernel
theorem dX7_fault_31 : decode cX7_fault 31 = .ok (.laload, 1) := by decide +kernel
theorem dX7_fault_32 : decode cX7_fault 32 = .ok (.lstore 4, 2) := by decide +kernel
theorem dX7_fault_34 : decode cX7_fault 34 = .ok (.aload_n 0, 1) := by decide +kernel
theorem dX7_fault_35 : decode cX7_fault 35 = .ok (.getfield 7, 3) := by decide +kernel
theorem dX7_fault_38 : decode cX7_fault 38 = .ok (.bipush 49, 2) := by decide +kernel
theorem dX7_fault_40 : decode cX7_fault 40 = .ok (.iaload, 1) := by decide +kernel
theorem dX7_fault_41 : decode cX7_fault 41 = .ok (.i2l, 1) := by decide +kernel
theorem dX7_fault_42 : decode cX7_fault 42 = .ok (.aload_n 0, 1) := by decide +kernel
theorem dX7_fault_43 : decode cX7_fault 43 = .ok (.getfield 122, 3) := by decide +kernel
theorem dX7_fault_46 : decode cX7_fault 46 = .ok (.lmul, 1) := by decide +kernel
theorem dX7_fault_47 : decode cX7_fault 47 = .ok (.lstore 6, 2) := by decide +kernel
theorem dX7_fault_49 : decode cX7_fault 49 = .ok (.lload 4, 2) := by decide +kernel
theorem dX7_fault_51 : decode cX7_fault 51 = .ok (.lload 6, 2) := by decide +kernel
theorem dX7_fault_53 : decode cX7_fault 53 = .ok (.lcmp, 1) := by decide +kernel
theorem dX7_fault_54 : decode cX7_fault 54 = .ok (.ifCond .gt 12, 3) := by decide +kernel
theorem dX7_fault_57 : decode cX7_fault 57 = .ok (.lload 4, 2) := by decide +kernel
theorem dX7_fault_59 : decode cX7_fault 59 = .ok (.lload 6, 2) := by decide +kernel
theorem dX7_fault_61 : decode cX7_fault 61 = .ok (.lneg, 1) := by decide +kernel
theorem dX7_fault_62 : decode cX7_fault 62 = .ok (.lcmp, 1) := by decide +kernel
theorem dX7_fault_63 : decode cX7_fault 63 = .ok (.ifCond .ge 7, 3) := by decide +kernel
theorem dX7_fault_66 : decode cX7_fault 66 = .ok (.iconst 2, 1) := by decide +kernel
theorem dX7_fault_67 : decode cX7_fault 67 = .ok (.goto 27, 3) := by decide +kernel
theorem dX7_fault_70 : decode cX7_fault 70 = .ok (.aload_n 0, 1) := by decide +kernel
theorem dX7_fault_71 : decode cX7_fault 71 = .ok (.iload_n 2, 1) := by decide +kernel
theorem dX7_fault_72 : decode cX7_fault 72 = .ok (.iload_n 1, 1) := by decide +kernel
theorem dX7_fault_73 : decode cX7_fault 73 = .ok (.invokevirtual 126, 3) := by decide +kernel
theorem dX7_fault_76 : decode cX7_fault 76 = .ok (.ifCond .eq 17, 3) := by decide +kernel
theorem dX7_fault_79 : decode cX7_fault 79 = .ok (.aload_n 0, 1) := by decide +kernel
theorem dX7_fault_80 : decode cX7_fault 80 = .ok (.iload_n 1, 1) := by decide +kernel
theorem dX7_fault_81 : decode cX7_fault 81 = .ok (.invokevirtual 129, 3) := by decide +kernel
theorem dX7_fault_84 : decode cX7_fault 84 = .ok (.lconst 0, 1) := by decide +kernel
theorem dX7_fault_85 : decode cX7_fault 85 = .ok (.lcmp, 1) := by decide +kernel
theorem dX7_fault_86 : decode cX7_fault 86 = .ok (.ifCond .ge 7, 3) := by decide +kernel
theorem dX7_fault_89 : decode cX7_fault 89 = .ok (.iconst 0, 1) := by decide +kernel
theorem dX7_fault_90 : decode cX7_fault 90 = .ok (.goto 4, 3) := by decide +kernel
theorem dX7_fault_93 : decode cX7_fault 93 = .ok (.iconst 5, 1) := by decide +kernel
theorem dX7_fault_94 : decode cX7_fault 94 = .ok (.ireturn, 1) := by decide +kernel
theorem dX7_fault_95 : decode cX7_fault 95 = .ok (.iload_n 3, 1) := by decide +kernel
theorem dX7_fault_96 : decode cX7_fault 96 = .ok (.iconst 1, 1) := by decide +kernel
theorem dX7_fault_97 : decode cX7_fault 97 = .ok (.if_icmp .ne 21, 3) := by decide +kernel
theorem dX7_fault_100 : decode cX7_fault 100 = .ok (.aload_n 0, 1) := by decide +kernel
theorem dX7_fault_101 : decode cX7_fault 101 = .ok (.iload_n 1, 1) := by decide +kernel
theorem dX7_fault_102 : decode cX7_fault 102 = .ok (.invokevirtual 129, 3) := by decide +kernel
theorem dX7_fault_105 : decode cX7_fault 105 = .ok (.lconst 0, 1) := by decide +kernel
theorem dX7_fault_106 : decode cX7_fault 106 = .ok (.lcmp, 1) := by decide +kernel
theorem dX7_fault_107 : decode cX7_fault 107 = .ok (.ifCond .le 7, 3) := by decide +kernel
theorem dX7_fault_110 : decode cX7_fault 110 = .ok (.iconst 0, 1) := by decide +kernel
theorem dX7_fault_111 : decode cX7_fault 111 = .ok (.goto 22, 3) := by decide +kernel
theorem dX7_fault_114 : decode cX7_fault 114 = .ok (.iconst 3, 1) := by decide +kernel
theorem dX7_fault_115 : decode cX7_fault 115 = .ok (.goto 18, 3) := by decide +kernel
theorem dX7_fault_118 : decode cX7_fault 118 = .ok (.aload_n 0, 1) := by decide +kernel
theorem dX7_fault_119 : decode cX7_fault 119 = .ok (.iload_n 1, 1) := by decide +kernel
theorem dX7_fault_120 : decode cX7_fault 120 = .ok (.invokevirtual 129, 3) := by decide +kernel
theorem dX7_fault_123 : decode cX7_fault 123 = .ok (.lconst 0, 1) := by decide +kernel
theorem dX7_fault_124 : decode cX7_fault 124 = .ok (.lcmp, 1) := by decide +kernel
theorem dX7_fault_125 : decode cX7_fault 125 = .ok (.ifCond .ge 7, 3) := by decide +kernel
theorem dX7_fault_128 : decode cX7_fault 128 = .ok (.iconst 0, 1) := by decide +kernel
theorem dX7_fault_129 : decode cX7_fault 129 = .ok (.goto 4, 3) := by decide +kernel
theorem dX7_fault_132 : decode cX7_fault 132 = .ok (.iconst 4, 1) := by decide +kernel
theorem dX7_fault_133 : decode cX7_fault 133 = .ok (.ireturn, 1) := by decide +kernel
theorem dX7_reason_0 : decode cX7_reason 0 = .ok (.aload_n 0, 1) := by decide +kernel
theorem dX7_reason_1 : decode cX7_reason 1 = .ok (.iconst (-1), 1) := by decide +kernel
theorem dX7_reason_2 : decode cX7_reason 2 = .ok (.putfield 132, 3) := by decide +kernel
theorem dX7_reason_5 : decode cX7_reason 5 = .ok (.aload_n 0, 1) := by decide +kernel
theorem dX7_reason_6 : decode cX7_reason 6 = .ok (.iload_n 1, 1) := by decide +kernel
theorem dX7_reason_7 : decode cX7_reason 7 = .ok (.iconst (-1), 1) := by decide +kernel
theorem dX7_reason_8 : decode cX7_reason 8 = .ok (.invokevirtual 126, 3) := by decide +kernel
theorem dX7_reason_11 : decode cX7_reason 11 = .ok (.ifCond .ne 5, 3) := by decide +kernel
theorem dX7_reason_14 : decode cX7_reason 14 = .ok (.iconst 1, 1) := by decide +kernel
theorem dX7_reason_15 : decode cX7_reason 15 = .ok (.ireturn, 1) := by decide +kernel
theorem dX7_reason_16 : decode cX7_reason 16 = .ok (.iconst 0, 1) := by decide +kernel
theorem dX7_reason_17 : decode cX7_reason 17 = .ok (.istore_n 2, 1) := by decide +kernel
theorem dX7_reason_18 : decode cX7_reason 18 = .ok (.iconst 0, 1) := by decide +kernel
theorem dX7_reason_19 : decode cX7_reason 19 = .ok (.istore_n 3, 1) := by decide +kernel
theorem dX7_reason_20 : decode cX7_reason 20 = .ok (.iload_n 3, 1) := by decide +kernel
theorem dX7_reason_21 : decode cX7_reason 21 = .ok (.aload_n 0, 1) := by decide +kernel
theorem dX7_reason_22 : decode cX7_reason 22 = .ok (.invokevirtual 64, 3) := by decide +kernel
theorem dX7_reason_25 : decode cX7_reason 25 = .ok (.if_icmp .ge 33, 3) := by decide +kernel
theorem dX7_reason_28 : decode cX7_reason 28 = .ok (.iload_n 2, 1) := by decide +kernel
theorem dX7_reason_29 : decode cX7_reason 29 = .ok (.ifCond .ne 29, 3) := by decide +kernel
theorem dX7_reason_32 : decode cX7_reason 32 = .ok (.aload_n 0, 1) := by decide +kernel
theorem dX7_reason_33 : decode cX7_reason 33 = .ok (.iload_n 3, 1) := by decide +kernel
theorem dX7_reason_34 : decode cX7_reason 34 = .ok (.iload_n 1, 1) := by decide +kernel
theorem dX7_reason_35 : decode cX7_reason 35 = .ok (.invokevirtual 135, 3) := by decide +kernel
theorem dX7_reason_38 : decode cX7_reason 38 = .ok (.istore_n 2, 1) := by decide +kernel
theorem dX7_reason_39 : decode cX7_reason 39 = .ok (.aload_n 0, 1) := by decide +kernel
theorem dX7_reason_40 : decode cX7_reason 40 = .ok (.iload_n 2, 1) := by decide +kernel
theorem dX7_reason_41 : decode cX7_reason 41 = .ok (.ifCond .le 7, 3) := by decide +kernel
theorem dX7_reason_44 : decode cX7_reason 44 = .ok (.iload_n 3, 1) := by decide +kernel
theorem dX7_reason_45 : decode cX7_reason 45 = .ok (.goto 4, 3) := by decide +kernel
theorem dX7_reason_48 : decode cX7_reason 48 = .ok (.iconst (-1), 1) := by decide +kernel
theorem dX7_reason_49 : decode cX7_reason 49 = .ok (.putfield 132, 3) := by decide +kernel
theorem dX7_reason_52 : decode cX7_reason 52 = .ok (.iinc 3 1, 3) := by decide +kernel
theorem dX7_reason_55 : decode cX7_reason 55 = .ok (.goto (-35), 3) := by decide +kernel
theorem dX7_reason_58 : decode cX7_reason 58 = .ok (.iload_n 2, 1) := by decide +kernel
theorem dX7_reason_59 : decode cX7_reason 59 = .ok (.ireturn, 1) := by decide +kernel
theorem dX7_unlike_0 : decode cX7_unlike 0 = .ok (.iconst 0, 1) := by decide +kernel
theorem dX7_unlike_1 : decode cX7_unlike 1 = .ok (.istore_n 3, 1) := by decide +kernel
theorem dX7_unlike_2 : decode cX7_unlike 2 = .ok (.iconst 0, 1) := by decide +kernel
theorem dX7_unlike_3 : decode cX7_unlike 3 = .ok (.istore 4, 2) := by decide +kernel
theorem dX7_unlike_5 : decode cX7_unlike 5 = .ok (.iload 4, 2) := by decide +kernel
theorem dX7_unlike_7 : decode cX7_unlike 7 = .ok (.iconst 3, 1) := by decide +kernel
theorem dX7_unlike_8 : decode cX7_unlike 8 = .ok (.if_icmp .ge 32, 3) := by decide +kernel
theorem dX7_unlike_11 : decode cX7_unlike 11 = .ok (.iload_n 3, 1) := by decide +kernel
theorem dX7_unlike_12 : decode cX7_unlike 12 = .ok (.iload_n 1, 1) := by decide +kernel
theorem dX7_unlike_13 : decode cX7_unlike 13 = .ok (.iload 4, 2) := by decide +kernel
theorem dX7_unlike_15 : decode cX7_unlike 15 = .ok (.invokestatic 95, 3) := by decide +kernel
theorem dX7_unlike_18 : decode cX7_unlike 18 = .ok (.iload_n 2, 1) := by decide +kernel
theorem dX7_unlike_19 : decode cX7_unlike 19 = .ok (.iload 4, 2) := by decide +kernel
theorem dX7_unlike_21 : decode cX7_unlike 21 = .ok (.invokestatic 95, 3) := by decide +kernel
theorem dX7_unlike_24 : decode cX7_unlike 24 = .ok (.if_icmp .ne 7, 3) := by decide +kernel
theorem dX7_unlike_27 : decode cX7_unlike 27 = .ok (.iconst 0, 1) := by decide +kernel
theorem dX7_unlike_28 : decode cX7_unlike 28 = .ok (.goto 4, 3) := by decide +kernel
theorem dX7_unlike_31 : decode cX7_unlike 31 = .ok (.iconst 1, 1) := by decide +kernel
theorem dX7_unlike_32 : decode cX7_unlike 32 = .ok (.iadd, 1) := by decide +kernel
theorem dX7_unlike_33 : decode cX7_unlike 33 = .ok (.istore_n 3, 1) := by decide +kernel
theorem dX7_unlike_34 : decode cX7_unlike 34 = .ok (.iinc 4 1, 3) := by decide +kernel
theorem dX7_unlike_37 : decode cX7_unlike 37 = .ok (.goto (-32), 3) := by decide +kernel
theorem dX7_unlike_40 : decode cX7_unlike 40 = .ok (.iload_n 3, 1) := by decide +kernel
theorem dX7_unlike_41 : decode cX7_unlike 41 = .ok (.ireturn, 1) := by decide +kernel
theorem dX7_settle_0 : decode cX7_settle 0 = .ok (.iconst (-1), 1) := by decide +kernel
theorem dX7_settle_1 : decode cX7_settle 1 = .ok (.istore_n 1, 1) := by decide +kernel
theorem dX7_settle_2 : decode cX7_settle 2 = .ok (.aload_n 0, 1) := by decide +kernel
theorem dX7_settle_3 : decode cX7_settle 3 = .ok (.invokevirtual 138, 3) := by decide +kernel
theorem dX7_settle_6 : decode cX7_settle 6 = .ok (.istore_n 2, 1) := by decide +kernel
theorem dX7_settle_7 : decode cX7_settle 7 = .ok (.iconst 0, 1) := by decide +kernel
theorem dX7_settle_8 : decode cX7_settle 8 = .ok (.istore_n 3, 1) := by decide +kernel
theorem dX7_settle_9 : decode cX7_settle 9 = .ok (.iload_n 3, 1) := by decide +kernel
theorem dX7_settle_10 : decode cX7_settle 10 = .ok (.iload_n 2, 1) := by decide +kernel
theorem dX7_settle_11 : decode cX7_settle 11 = .ok (.if_icmp .ge 67, 3) := by decide +kernel
theorem dX7_settle_14 : decode cX7_settle 14 = .ok (.iload_n 1, 1) := by decide +kernel
theorem dX7_settle_15 : decode cX7_settle 15 = .ok (.iconst (-1), 1) := by decide +kernel
theorem dX7_settle_16 : decode cX7_settle 16 = .ok (.if_icmp .eq 30, 3) := by decide +kernel
theorem dX7_settle_19 : decode cX7_settle 19 = .ok (.aload_n 0, 1) := by decide +kernel
theorem dX7_settle_20 : decode cX7_settle 20 = .ok (.iload_n 3, 1) := by decide +kernel
theorem dX7_settle_21 : decode cX7_settle 21 = .ok (.aload_n 0, 1) := by decide +kernel
theorem dX7_settle_22 : decode cX7_settle 22 = .ok (.getfield 7, 3) := by decide +kernel
theorem dX7_settle_25 : decode cX7_settle 25 = .ok (.bipush 50, 2) := by decide +kernel
theorem dX7_settle_27 : decode cX7_settle 27 = .ok (.iaload, 1) := by decide +kernel
theorem dX7_settle_28 : decode cX7_settle 28 = .ok (.invokevirtual 141, 3) := by decide +kernel
theorem dX7_settle_31 : decode cX7_settle 31 = .ok (.aload_n 0, 1) := by decide +kernel
theorem dX7_settle_32 : decode cX7_settle 32 = .ok (.iload_n 1, 1) := by decide +kernel
theorem dX7_settle_33 : decode cX7_settle 33 = .ok (.aload_n 0, 1) := by decide +kernel
theorem dX7_settle_34 : decode cX7_settle 34 = .ok (.getfield 7, 3) := by decide +kernel
theorem dX7_settle_37 : decode cX7_settle 37 = .ok (.bipush 50, 2) := by decide +kernel
theorem dX7_settle_39 : decode cX7_settle 39 = .ok (.iaload, 1) := by decide +kernel
theorem dX7_settle_40 : decode cX7_settle 40 = .ok (.invokevirtual 141, 3) := by decide +kernel
theorem dX7_settle_43 : decode cX7_settle 43 = .ok (.if_icmp .ge 7, 3) := by decide +kernel
theorem dX7_settle_46 : decode cX7_settle 46 = .ok (.iconst 1, 1) := by decide +kernel
theorem dX7_settle_47 : decode cX7_settle 47 = .ok (.goto 4, 3) := by decide +kernel
theorem dX7_settle_50 : decode cX7_settle 50 = .ok (.iconst 0, 1) := by decide +kernel
theorem dX7_settle_51 : decode cX7_settle 51 = .ok (.istore 4, 2) := by decide +kernel
theorem dX7_settle_53 : decode cX7_settle 53 = .ok (.iload 4, 2) := by decide +kernel
theorem dX7_settle_55 : decode cX7_settle 55 = .ok (.ifCond .eq 15, 3) := by decide +kernel
theorem dX7_settle_58 : decode cX7_settle 58 = .ok (.aload_n 0, 1) := by decide +kernel
theorem dX7_settle_59 : decode cX7_settle 59 = .ok (.iload_n 3, 1) := by decide +kernel
theorem dX7_settle_60 : decode cX7_settle 60 = .ok (.invokevirtual 144, 3) := by decide +kernel
theorem dX7_settle_63 : decode cX7_settle 63 = .ok (.ifCond .ne 7, 3) := by decide +kernel
theorem dX7_settle_66 : decode cX7_settle 66 = .ok (.iload_n 3, 1) := by decide +kernel
theorem dX7_settle_67 : decode cX7_settle 67 = .ok (.goto 4, 3) := by decide +kernel
theorem dX7_settle_70 : decode cX7_settle 70 = .ok (.iload_n 1, 1) := by decide +kernel
theorem dX7_settle_71 : decode cX7_settle 71 = .ok (.istore_n 1, 1) := by decide +kernel
theorem dX7_settle_72 : decode cX7_settle 72 = .ok (.iinc 3 1, 3) := by decide +kernel
theorem dX7_settle_75 : decode cX7_settle 75 = .ok (.goto (-66), 3) := by decide +kernel
theorem dX7_settle_78 : decode cX7_settle 78 = .ok (.aload_n 0, 1) := by decide +kernel
theorem dX7_settle_79 : decode cX7_settle 79 = .ok (.getfield 7, 3) := by decide +kernel
theorem dX7_settle_82 : decode cX7_settle 82 = .ok (.bipush 51, 2) := by decide +kernel
theorem dX7_settle_84 : decode cX7_settle 84 = .ok (.iload_n 1, 1) := by decide +kernel
theorem dX7_settle_85 : decode cX7_settle 85 = .ok (.iconst (-1), 1) := by decide +kernel
theorem dX7_settle_86 : decode cX7_settle 86 = .ok (.if_icmp .ne 7, 3) := by decide +kernel
theorem dX7_settle_89 : decode cX7_settle 89 = .ok (.iconst 0, 1) := by decide +kernel
theorem dX7_settle_90 : decode cX7_settle 90 = .ok (.goto 4, 3) := by decide +kernel
theorem dX7_settle_93 : decode cX7_settle 93 = .ok (.iconst 1, 1) := by decide +kernel
theorem dX7_settle_94 : decode cX7_settle 94 = .ok (.iastore, 1) := by decide +kernel
theorem dX7_settle_95 : decode cX7_settle 95 = .ok (.aload_n 0, 1) := by decide +kernel
theorem dX7_settle_96 : decode cX7_settle 96 = .ok (.getfield 7, 3) := by decide +kernel
theorem dX7_settle_99 : decode cX7_settle 99 = .ok (.bipush 50, 2) := by decide +kernel
theorem dX7_settle_101 : decode cX7_settle 101 = .ok (.iload_n 1, 1) := by decide +kernel
theorem dX7_settle_102 : decode cX7_settle 102 = .ok (.iconst (-1), 1) := by decide +kernel
theorem dX7_settle_103 : decode cX7_settle 103 = .ok (.if_icmp .ne 13, 3) := by decide +kernel
theorem dX7_settle_106 : decode cX7_settle 106 = .ok (.aload_n 0, 1) := by decide +kernel
theorem dX7_settle_107 : decode cX7_settle 107 = .ok (.getfield 7, 3) := by decide +kernel
theorem dX7_settle_110 : decode cX7_settle 110 = .ok (.bipush 50, 2) := by decide +kernel
theorem dX7_settle_112 : decode cX7_settle 112 = .ok (.iaload, 1) := by decide +kernel
theorem dX7_settle_113 : decode cX7_settle 113 = .ok (.goto 4, 3) := by decide +kernel
theorem dX7_settle_116 : decode cX7_settle 116 = .ok (.iload_n 1, 1) := by decide +kernel
theorem dX7_settle_117 : decode cX7_settle 117 = .ok (.iastore, 1) := by decide +kernel
theorem dX7_settle_118 : decode cX7_settle 118 = .ok (.return_, 1) := by decide +kernel
theorem dX7_begin_0 : decode cX7_begin 0 = .ok (.aload_n 0, 1) := by decide +kernel
theorem dX7_begin_1 : decode cX7_begin 1 = .ok (.iconst 0, 1) := by decide +kernel
theorem dX7_begin_2 : decode cX7_begin 2 = .ok (.putfield 41, 3) := by decide +kernel
theorem dX7_begin_5 : decode cX7_begin 5 = .ok (.aload_n 0, 1) := by decide +kernel
theorem dX7_begin_6 : decode cX7_begin 6 = .ok (.invokevirtual 147, 3) := by decide +kernel
theorem dX7_begin_9 : decode cX7_begin 9 = .ok (.aload_n 0, 1) := by decide +kernel
theorem dX7_begin_10 : decode cX7_begin 10 = .ok (.getfield 7, 3) := by decide +kernel
theorem dX7_begin_13 : decode cX7_begin 13 = .ok (.bipush 48, 2) := by decide +kernel
theorem dX7_begin_15 : decode cX7_begin 15 = .ok (.iaload, 1) := by decide +kernel
theorem dX7_begin_16 : decode cX7_begin 16 = .ok (.istore_n 1, 1) := by decide +kernel
theorem dX7_begin_17 : decode cX7_begin 17 = .ok (.aload_n 0, 1) := by decide +kernel
theorem dX7_begin_18 : decode cX7_begin 18 = .ok (.getfield 7, 3) := by decide +kernel
theorem dX7_begin_21 : decode cX7_begin 21 = .ok (.bipush 48, 2) := by decide +kernel
theorem dX7_begin_23 : decode cX7_begin 23 = .ok (.iconst 0, 1) := by decide +kernel
theorem dX7_begin_24 : decode cX7_begin 24 = .ok (.iastore, 1) := by decide +kernel
theorem dX7_begin_25 : decode cX7_begin 25 = .ok (.aload_n 0, 1) := by decide +kernel
theorem dX7_begin_26 : decode cX7_begin 26 = .ok (.getfield 7, 3) := by decide +kernel
theorem dX7_begin_29 : decode cX7_begin 29 = .ok (.bipush 49, 2) := by decide +kernel
theorem dX7_begin_31 : decode cX7_begin 31 = .ok (.sipush 150, 3) := by decide +kernel
theorem dX7_begin_34 : decode cX7_begin 34 = .ok (.iastore, 1) := by decide +kernel
theorem dX7_begin_35 : decode cX7_begin 35 = .ok (.aload_n 0, 1) := by decide +kernel
theorem dX7_begin_36 : decode cX7_begin 36 = .ok (.getfield 7, 3) := by decide +kernel
theorem dX7_begin_39 : decode cX7_begin 39 = .ok (.bipush 50, 2) := by decide +kernel
theorem dX7_begin_41 : decode cX7_begin 41 = .ok (.iconst 0, 1) := by decide +kernel
theorem dX7_begin_42 : decode cX7_begin 42 = .ok (.iastore, 1) := by decide +kernel
theorem dX7_begin_43 : decode cX7_begin 43 = .ok (.aload_n 0, 1) := by decide +kernel
theorem dX7_begin_44 : decode cX7_begin 44 = .ok (.invokevirtual 150, 3) := by decide +kernel
theorem dX7_begin_47 : decode cX7_begin 47 = .ok (.iload_n 1, 1) := by decide +kernel
theorem dX7_begin_48 : decode cX7_begin 48 = .ok (.ireturn, 1) := by decide +kernel
theorem dX7_setRail_0 : decode cX7_setRail 0 = .ok (.aload_n 0, 1) := by decide +kernel
theorem dX7_setRail_1 : decode cX7_setRail 1 = .ok (.iload_n 1, 1) := by decide +kernel
theorem dX7_setRail_2 : decode cX7_setRail 2 = .ok (.bipush 10, 2) := by decide +kernel
theorem dX7_setRail_4 : decode cX7_setRail 4 = .ok (.sipush 200, 3) := by decide +kernel
theorem dX7_setRail_7 : decode cX7_setRail 7 = .ok (.invokestatic 45, 3) := by decide +kernel
theorem dX7_setRail_10 : decode cX7_setRail 10 = .ok (.ifCond .eq 7, 3) := by decide +kernel
theorem dX7_setRail_13 : decode cX7_setRail 13 = .ok (.iconst 0, 1) := by decide +kernel
theorem dX7_setRail_14 : decode cX7_setRail 14 = .ok (.goto 4, 3) := by decide +kernel
theorem dX7_setRail_17 : decode cX7_setRail 17 = .ok (.iconst 1, 1) := by decide +kernel
theorem dX7_setRail_18 : decode cX7_setRail 18 = .ok (.putfield 41, 3) := by decide +kernel
theorem dX7_setRail_21 : decode cX7_setRail 21 = .ok (.aload_n 0, 1) := by decide +kernel
theorem dX7_setRail_22 : decode cX7_setRail 22 = .ok (.getfield 41, 3) := by decide +kernel
theorem dX7_setRail_25 : decode cX7_setRail 25 = .ok (.ifCond .le 5, 3) := by decide +kernel
theorem dX7_setRail_28 : decode cX7_setRail 28 = .ok (.iconst 0, 1) := by decide +kernel
theorem dX7_setRail_29 : decode cX7_setRail 29 = .ok (.ireturn, 1) := by decide +kernel
theorem dX7_setRail_30 : decode cX7_setRail 30 = .ok (.aload_n 0, 1) := by decide +kernel
theorem dX7_setRail_31 : decode cX7_setRail 31 = .ok (.invokevirtual 147, 3) := by decide +kernel
theorem dX7_setRail_34 : decode cX7_setRail 34 = .ok (.aload_n 0, 1) := by decide +kernel
theorem dX7_setRail_35 : decode cX7_setRail 35 = .ok (.getfield 7, 3) := by decide +kernel
theorem dX7_setRail_38 : decode cX7_setRail 38 = .ok (.bipush 49, 2) := by decide +kernel
theorem dX7_setRail_40 : decode cX7_setRail 40 = .ok (.iaload, 1) := by decide +kernel
theorem dX7_setRail_41 : decode cX7_setRail 41 = .ok (.istore_n 2, 1) := by decide +kernel
theorem dX7_setRail_42 : decode cX7_setRail 42 = .ok (.aload_n 0, 1) := by decide +kernel
theorem dX7_setRail_43 : decode cX7_setRail 43 = .ok (.getfield 7, 3) := by decide +kernel
theorem dX7_setRail_46 : decode cX7_setRail 46 = .ok (.bipush 49, 2) := by decide +kernel
theorem dX7_setRail_48 : decode cX7_setRail 48 = .ok (.iload_n 1, 1) := by decide +kernel
theorem dX7_setRail_49 : decode cX7_setRail 49 = .ok (.iastore, 1) := by decide +kernel
theorem dX7_setRail_50 : decode cX7_setRail 50 = .ok (.aload_n 0, 1) := by decide +kernel
theorem dX7_setRail_51 : decode cX7_setRail 51 = .ok (.invokevirtual 150, 3) := by decide +kernel
theorem dX7_setRail_54 : decode cX7_setRail 54 = .ok (.iload_n 2, 1) := by decide +kernel
theorem dX7_setRail_55 : decode cX7_setRail 55 = .ok (.ireturn, 1) := by decide +kernel
theorem dX7_isValue_0 : decode cX7_isValue 0 = .ok (.aload_n 0, 1) := by decide +kernel
theorem dX7_isValue_1 : decode cX7_isValue 1 = .ok (.iload_n 1, 1) := by decide +kernel
theorem dX7_isValue_2 : decode cX7_isValue 2 = .ok (.iconst 0, 1) := by decide +kernel
theorem dX7_isValue_3 : decode cX7_isValue 3 = .ok (.invokevirtual 60, 3) := by decide +kernel
theorem dX7_isValue_6 : decode cX7_isValue 6 = .ok (.ifCond .eq 12, 3) := by decide +kernel
theorem dX7_isValue_9 : decode cX7_isValue 9 = .ok (.iload_n 2, 1) := by decide +kernel
theorem dX7_isValue_10 : decode cX7_isValue 10 = .ok (.iconst 1, 1) := by decide +kernel
theorem dX7_isValue_11 : decode cX7_isValue 11 = .ok (.iconst 4, 1) := by decide +kernel
theorem dX7_isValue_12 : decode cX7_isValue 12 = .ok (.invokestatic 45, 3) := by decide +kernel
theorem dX7_isValue_15 : decode cX7_isValue 15 = .ok (.goto 13, 3) := by decide +kernel
theorem dX7_isValue_18 : decode cX7_isValue 18 = .ok (.iload_n 2, 1) := by decide +kernel
theorem dX7_isValue_19 : decode cX7_isValue 19 = .ok (.sipush (-200), 3) := by decide +kernel
theorem dX7_isValue_22 : decode cX7_isValue 22 = .ok (.sipush 200, 3) := by decide +kernel
theorem dX7_isValue_25 : decode cX7_isValue 25 = .ok (.invokestatic 45, 3) := by decide +kernel
theorem dX7_isValue_28 : decode cX7_isValue 28 = .ok (.ireturn, 1) := by decide +kernel
theorem dX7_setValue_0 : decode cX7_setValue 0 = .ok (.aload_n 0, 1) := by decide +kernel
theorem dX7_setValue_1 : decode cX7_setValue 1 = .ok (.aload_n 0, 1) := by decide +kernel
theorem dX7_setValue_2 : decode cX7_setValue 2 = .ok (.iload_n 1, 1) := by decide +kernel
theorem dX7_setValue_3 : decode cX7_setValue 3 = .ok (.invokevirtual 153, 3) := by decide +kernel
theorem dX7_setValue_6 : decode cX7_setValue 6 = .ok (.ifCond .ne 7, 3) := by decide +kernel
theorem dX7_setValue_9 : decode cX7_setValue 9 = .ok (.iconst 1, 1) := by decide +kernel
theorem dX7_setValue_10 : decode cX7_setValue 10 = .ok (.goto 30, 3) := by decide +kernel
theorem dX7_setValue_13 : decode cX7_setValue 13 = .ok (.aload_n 0, 1) := by decide +kernel
theorem dX7_setValue_14 : decode cX7_setValue 14 = .ok (.iload_n 1, 1) := by decide +kernel
theorem dX7_setValue_15 : decode cX7_setValue 15 = .ok (.iconst 2, 1) := by decide +kernel
theorem dX7_setValue_16 : decode cX7_setValue 16 = .ok (.invokevirtual 60, 3) := by decide +kernel
theorem dX7_setValue_19 : decode cX7_setValue 19 = .ok (.ifCond .eq 7, 3) := by decide +kernel
theorem dX7_setValue_22 : decode cX7_setValue 22 = .ok (.iconst 2, 1) := by decide +kernel
theorem dX7_setValue_23 : decode cX7_setValue 23 = .ok (.goto 17, 3) := by decide +kernel
theorem dX7_setValue_26 : decode cX7_setValue 26 = .ok (.aload_n 0, 1) := by decide +kernel
theorem dX7_setValue_27 : decode cX7_setValue 27 = .ok (.iload_n 1, 1) := by decide +kernel
theorem dX7_setValue_28 : decode cX7_setValue 28 = .ok (.iload_n 2, 1) := by decide +kernel
theorem dX7_setValue_29 : decode cX7_setValue 29 = .ok (.invokevirtual 156, 3) := by decide +kernel
theorem dX7_setValue_32 : decode cX7_setValue 32 = .ok (.ifCond .eq 7, 3) := by decide +kernel
theorem dX7_setValue_35 : decode cX7_setValue 35 = .ok (.iconst 0, 1) := by decide +kernel
theorem dX7_setValue_36 : decode cX7_setValue 36 = .ok (.goto 4, 3) := by decide +kernel
theorem dX7_setValue_39 : decode cX7_setValue 39 = .ok (.iconst 3, 1) := by decide +kernel
theorem dX7_setValue_40 : decode cX7_setValue 40 = .ok (.putfield 41, 3) := by decide +kernel
theorem dX7_setValue_43 : decode cX7_setValue 43 = .ok (.aload_n 0, 1) := by decide +kernel
theorem dX7_setValue_44 : decode cX7_setValue 44 = .ok (.getfield 41, 3) := by decide +kernel
theorem dX7_setValue_47 : decode cX7_setValue 47 = .ok (.ifCond .le 5, 3) := by decide +kernel
theorem dX7_setValue_50 : decode cX7_setValue 50 = .ok (.iconst 0, 1) := by decide +kernel
theorem dX7_setValue_51 : decode cX7_setValue 51 = .ok (.ireturn, 1) := by decide +kernel
theorem dX7_setValue_52 : decode cX7_setValue 52 = .ok (.aload_n 0, 1) := by decide +kernel
theorem dX7_setValue_53 : decode cX7_setValue 53 = .ok (.invokevirtual 147, 3) := by decide +kernel
theorem dX7_setValue_56 : decode cX7_setValue 56 = .ok (.aload_n 0, 1) := by decide +kernel
theorem dX7_setValue_57 : decode cX7_setValue 57 = .ok (.iload_n 1, 1) := by decide +kernel
theorem dX7_setValue_58 : decode cX7_setValue 58 = .ok (.iconst 3, 1) := by decide +kernel
theorem dX7_setValue_59 : decode cX7_setValue 59 = .ok (.invokevirtual 49, 3) := by decide +kernel
theorem dX7_setValue_62 : decode cX7_setValue 62 = .ok (.istore_n 3, 1) := by decide +kernel
theorem dX7_setValue_63 : decode cX7_setValue 63 = .ok (.aload_n 0, 1) := by decide +kernel
theorem dX7_setValue_64 : decode cX7_setValue 64 = .ok (.getfield 7, 3) := by decide +kernel
theorem dX7_setValue_67 : decode cX7_setValue 67 = .ok (.iconst 4, 1) := by decide +kernel
theorem dX7_setValue_68 : decode cX7_setValue 68 = .ok (.iload_n 1, 1) := by decide +kernel
theorem dX7_setValue_69 : decode cX7_setValue 69 = .ok (.imul, 1) := by decide +kernel
theorem dX7_setValue_70 : decode cX7_setValue 70 = .ok (.iconst 3, 1) := by decide +kernel
theorem dX7_setValue_71 : decode cX7_setValue 71 = .ok (.iadd, 1) := by decide +kernel
theorem dX7_setValue_72 : decode cX7_setValue 72 = .ok (.iload_n 2, 1) := by decide +kernel
theorem dX7_setValue_73 : decode cX7_setValue 73 = .ok (.iastore, 1) := by decide +kernel
theorem dX7_setValue_74 : decode cX7_setValue 74 = .ok (.aload_n 0, 1) := by decide +kernel
theorem dX7_setValue_75 : decode cX7_setValue 75 = .ok (.invokevirtual 150, 3) := by decide +kernel
theorem dX7_setValue_78 : decode cX7_setValue 78 = .ok (.iload_n 3, 1) := by decide +kernel
theorem dX7_setValue_79 : decode cX7_setValue 79 = .ok (.ireturn, 1) := by decide +kernel
theorem dX7_takeOut_0 : decode cX7_takeOut 0 = .ok (.iconst 1, 1) := by decide +kernel
theorem dX7_takeOut_1 : decode cX7_takeOut 1 = .ok (.istore_n 2, 1) := by decide +kernel
theorem dX7_takeOut_2 : decode cX7_takeOut 2 = .ok (.iconst 0, 1) := by decide +kernel
theorem dX7_takeOut_3 : decode cX7_takeOut 3 = .ok (.istore_n 3, 1) := by decide +kernel
theorem dX7_takeOut_4 : decode cX7_takeOut 4 = .ok (.iload_n 3, 1) := by decide +kernel
theorem dX7_takeOut_5 : decode cX7_takeOut 5 = .ok (.iload_n 1, 1) := by decide +kernel
theorem dX7_takeOut_6 : decode cX7_takeOut 6 = .ok (.if_icmp .ge 13, 3) := by decide +kernel
theorem dX7_takeOut_9 : decode cX7_takeOut 9 = .ok (.iload_n 2, 1) := by decide +kernel
theorem dX7_takeOut_10 : decode cX7_takeOut 10 = .ok (.iconst 3, 1) := by decide +kernel
theorem dX7_takeOut_11 : decode cX7_takeOut 11 = .ok (.imul, 1) := by decide +kernel
theorem dX7_takeOut_12 : decode cX7_takeOut 12 = .ok (.istore_n 2, 1) := by decide +kernel
theorem dX7_takeOut_13 : decode cX7_takeOut 13 = .ok (.iinc 3 1, 3) := by decide +kernel
theorem dX7_takeOut_16 : decode cX7_takeOut 16 = .ok (.goto (-12), 3) := by decide +kernel
theorem dX7_takeOut_19 : decode cX7_takeOut 19 = .ok (.aload_n 0, 1) := by decide +kernel
theorem dX7_takeOut_20 : decode cX7_takeOut 20 = .ok (.getfield 7, 3) := by decide +kernel
theorem dX7_takeOut_23 : decode cX7_takeOut 23 = .ok (.bipush 50, 2) := by decide +kernel
theorem dX7_takeOut_25 : decode cX7_takeOut 25 = .ok (.aload_n 0, 1) := by decide +kernel
theorem dX7_takeOut_26 : decode cX7_takeOut 26 = .ok (.getfield 7, 3) := by decide +kernel
theorem dX7_takeOut_29 : decode cX7_takeOut 29 = .ok (.bipush 50, 2) := by decide +kernel
theorem dX7_takeOut_31 : decode cX7_takeOut 31 = .ok (.iaload, 1) := by decide +kernel
theorem dX7_takeOut_32 : decode cX7_takeOut 32 = .ok (.iload_n 2, 1) := by decide +kernel
theorem dX7_takeOut_33 : decode cX7_takeOut 33 = .ok (.irem, 1) := by decide +kernel
theorem dX7_takeOut_34 : decode cX7_takeOut 34 = .ok (.aload_n 0, 1) := by decide +kernel
theorem dX7_takeOut_35 : decode cX7_takeOut 35 = .ok (.getfield 7, 3) := by decide +kernel
theorem dX7_takeOut_38 : decode cX7_takeOut 38 = .ok (.bipush 50, 2) := by decide +kernel
theorem dX7_takeOut_40 : decode cX7_takeOut 40 = .ok (.iaload, 1) := by decide +kernel
theorem dX7_takeOut_41 : decode cX7_takeOut 41 = .ok (.iconst 3, 1) := by decide +kernel
theorem dX7_takeOut_42 : decode cX7_takeOut 42 = .ok (.iload_n 2, 1) := by decide +kernel
theorem dX7_takeOut_43 : decode cX7_takeOut 43 = .ok (.imul, 1) := by decide +kernel
theorem dX7_takeOut_44 : decode cX7_takeOut 44 = .ok (.idiv, 1) := by decide +kernel
theorem dX7_takeOut_45 : decode cX7_takeOut 45 = .ok (.iload_n 2, 1) := by decide +kernel
theorem dX7_takeOut_46 : decode cX7_takeOut 46 = .ok (.imul, 1) := by decide +kernel
theorem dX7_takeOut_47 : decode cX7_takeOut 47 = .ok (.iadd, 1) := by decide +kernel
theorem dX7_takeOut_48 : decode cX7_takeOut 48 = .ok (.iastore, 1) := by decide +kernel
theorem dX7_takeOut_49 : decode cX7_takeOut 49 = .ok (.return_, 1) := by decide +kernel
theorem dX7_drop_0 : decode cX7_drop 0 = .ok (.aload_n 0, 1) := by decide +kernel
theorem dX7_drop_1 : decode cX7_drop 1 = .ok (.aload_n 0, 1) := by decide +kernel
theorem dX7_drop_2 : decode cX7_drop 2 = .ok (.iload_n 1, 1) := by decide +kernel
theorem dX7_drop_3 : decode cX7_drop 3 = .ok (.invokevirtual 153, 3) := by decide +kernel
theorem dX7_drop_6 : decode cX7_drop 6 = .ok (.ifCond .eq 7, 3) := by decide +kernel
theorem dX7_drop_9 : decode cX7_drop 9 = .ok (.iconst 0, 1) := by decide +kernel
theorem dX7_drop_10 : decode cX7_drop 10 = .ok (.goto 4, 3) := by decide +kernel
theorem dX7_drop_13 : decode cX7_drop 13 = .ok (.iconst 1, 1) := by decide +kernel
theorem dX7_drop_14 : decode cX7_drop 14 = .ok (.putfield 41, 3) := by decide +kernel
theorem dX7_drop_17 : decode cX7_drop 17 = .ok (.aload_n 0, 1) := by decide +kernel
theorem dX7_drop_18 : decode cX7_drop 18 = .ok (.getfield 41, 3) := by decide +kernel
theorem dX7_drop_21 : decode cX7_drop 21 = .ok (.ifCond .le 5, 3) := by decide +kernel
theorem dX7_drop_24 : decode cX7_drop 24 = .ok (.iconst 0, 1) := by decide +kernel
theorem dX7_drop_25 : decode cX7_drop 25 = .ok (.ireturn, 1) := by decide +kernel
theorem dX7_drop_26 : decode cX7_drop 26 = .ok (.aload_n 0, 1) := by decide +kernel
theorem dX7_drop_27 : decode cX7_drop 27 = .ok (.invokevirtual 147, 3) := by decide +kernel
theorem dX7_drop_30 : decode cX7_drop 30 = .ok (.aload_n 0, 1) := by decide +kernel
theorem dX7_drop_31 : decode cX7_drop 31 = .ok (.iload_n 1, 1) := by decide +kernel
theorem dX7_drop_32 : decode cX7_drop 32 = .ok (.iconst 2, 1) := by decide +kernel
theorem dX7_drop_33 : decode cX7_drop 33 = .ok (.invokevirtual 60, 3) := by decide +kernel
theorem dX7_drop_36 : decode cX7_drop 36 = .ok (.ifCond .eq 25, 3) := by decide +kernel
theorem dX7_drop_39 : decode cX7_drop 39 = .ok (.iconst 0, 1) := by decide +kernel
theorem dX7_drop_40 : decode cX7_drop 40 = .ok (.istore_n 2, 1) := by decide +kernel
theorem dX7_drop_41 : decode cX7_drop 41 = .ok (.aload_n 0, 1) := by decide +kernel
theorem dX7_drop_42 : decode cX7_drop 42 = .ok (.iload_n 2, 1) := by decide +kernel
theorem dX7_drop_43 : decode cX7_drop 43 = .ok (.invokevirtual 92, 3) := by decide +kernel
theorem dX7_drop_46 : decode cX7_drop 46 = .ok (.iload_n 1, 1) := by decide +kernel
theorem dX7_drop_47 : decode cX7_drop 47 = .ok (.if_icmp .eq 9, 3) := by decide +kernel
theorem dX7_drop_50 : decode cX7_drop 50 = .ok (.iinc 2 1, 3) := by decide +kernel
theorem dX7_drop_53 : decode cX7_drop 53 = .ok (.goto (-12), 3) := by decide +kernel
theorem dX7_drop_56 : decode cX7_drop 56 = .ok (.aload_n 0, 1) := by decide +kernel
theorem dX7_drop_57 : decode cX7_drop 57 = .ok (.iload_n 2, 1) := by decide +kernel
theorem dX7_drop_58 : decode cX7_drop 58 = .ok (.invokevirtual 159, 3) := by decide +kernel
theorem dX7_drop_61 : decode cX7_drop 61 = .ok (.aload_n 0, 1) := by decide +kernel
theorem dX7_drop_62 : decode cX7_drop 62 = .ok (.getfield 7, 3) := by decide +kernel
theorem dX7_drop_65 : decode cX7_drop 65 = .ok (.bipush 48, 2) := by decide +kernel
theorem dX7_drop_67 : decode cX7_drop 67 = .ok (.dup2, 1) := by decide +kernel
theorem dX7_drop_68 : decode cX7_drop 68 = .ok (.iaload, 1) := by decide +kernel
theorem dX7_drop_69 : decode cX7_drop 69 = .ok (.iconst 1, 1) := by decide +kernel
theorem dX7_drop_70 : decode cX7_drop 70 = .ok (.isub, 1) := by decide +kernel
theorem dX7_drop_71 : decode cX7_drop 71 = .ok (.iastore, 1) := by decide +kernel
theorem dX7_drop_72 : decode cX7_drop 72 = .ok (.iconst 4, 1) := by decide +kernel
theorem dX7_drop_73 : decode cX7_drop 73 = .ok (.iload_n 1, 1) := by decide +kernel
theorem dX7_drop_74 : decode cX7_drop 74 = .ok (.imul, 1) := by decide +kernel
theorem dX7_drop_75 : decode cX7_drop 75 = .ok (.istore_n 2, 1) := by decide +kernel
theorem dX7_drop_76 : decode cX7_drop 76 = .ok (.iload_n 2, 1) := by decide +kernel
theorem dX7_drop_77 : decode cX7_drop 77 = .ok (.iconst 4, 1) := by decide +kernel
theorem dX7_drop_78 : decode cX7_drop 78 = .ok (.aload_n 0, 1) := by decide +kernel
theorem dX7_drop_79 : decode cX7_drop 79 = .ok (.getfield 7, 3) := by decide +kernel
theorem dX7_drop_82 : decode cX7_drop 82 = .ok (.bipush 48, 2) := by decide +kernel
theorem dX7_drop_84 : decode cX7_drop 84 = .ok (.iaload, 1) := by decide +kernel
theorem dX7_drop_85 : decode cX7_drop 85 = .ok (.imul, 1) := by decide +kernel
theorem dX7_drop_86 : decode cX7_drop 86 = .ok (.if_icmp .ge 23, 3) := by decide +kernel
theorem dX7_drop_89 : decode cX7_drop 89 = .ok (.aload_n 0, 1) := by decide +kernel
theorem dX7_drop_90 : decode cX7_drop 90 = .ok (.getfield 7, 3) := by decide +kernel
theorem dX7_drop_93 : decode cX7_drop 93 = .ok (.iload_n 2, 1) := by decide +kernel
theorem dX7_drop_94 : decode cX7_drop 94 = .ok (.aload_n 0, 1) := by decide +kernel
theorem dX7_drop_95 : decode cX7_drop 95 = .ok (.getfield 7, 3) := by decide +kernel
theorem dX7_drop_98 : decode cX7_drop 98 = .ok (.iload_n 2, 1) := by decide +kernel
theorem dX7_drop_99 : decode cX7_drop 99 = .ok (.iconst 4, 1) := by decide +kernel
theorem dX7_drop_100 : decode cX7_drop 100 = .ok (.iadd, 1) := by decide +kernel
theorem dX7_drop_101 : decode cX7_drop 101 = .ok (.iaload, 1) := by decide +kernel
theorem dX7_drop_102 : decode cX7_drop 102 = .ok (.iastore, 1) := by decide +kernel
theorem dX7_drop_103 : decode cX7_drop 103 = .ok (.iinc 2 1, 3) := by decide +kernel
theorem dX7_drop_106 : decode cX7_drop 106 = .ok (.goto (-30), 3) := by decide +kernel
theorem dX7_drop_109 : decode cX7_drop 109 = .ok (.aload_n 0, 1) := by decide +kernel
theorem dX7_drop_110 : decode cX7_drop 110 = .ok (.invokevirtual 150, 3) := by decide +kernel
theorem dX7_drop_113 : decode cX7_drop 113 = .ok (.aload_n 0, 1) := by decide +kernel
theorem dX7_drop_114 : decode cX7_drop 114 = .ok (.getfield 7, 3) := by decide +kernel
theorem dX7_drop_117 : decode cX7_drop 117 = .ok (.bipush 48, 2) := by decide +kernel
theorem dX7_drop_119 : decode cX7_drop 119 = .ok (.iaload, 1) := by decide +kernel
theorem dX7_drop_120 : decode cX7_drop 120 = .ok (.ireturn, 1) := by decide +kernel
theorem dX7_sweep_0 : decode cX7_sweep 0 = .ok (.aload_n 0, 1) := by decide +kernel
theorem dX7_sweep_1 : decode cX7_sweep 1 = .ok (.aload_n 0, 1) := by decide +kernel
theorem dX7_sweep_2 : decode cX7_sweep 2 = .ok (.iload_n 1, 1) := by decide +kernel
theorem dX7_sweep_3 : decode cX7_sweep 3 = .ok (.invokevirtual 153, 3) := by decide +kernel
theorem dX7_sweep_6 : decode cX7_sweep 6 = .ok (.ifCond .ne 7, 3) := by decide +kernel
theorem dX7_sweep_9 : decode cX7_sweep 9 = .ok (.iconst 1, 1) := by decide +kernel
theorem dX7_sweep_10 : decode cX7_sweep 10 = .ok (.goto 34, 3) := by decide +kernel
theorem dX7_sweep_13 : decode cX7_sweep 13 = .ok (.aload_n 0, 1) := by decide +kernel
theorem dX7_sweep_14 : decode cX7_sweep 14 = .ok (.iload_n 1, 1) := by decide +kernel
theorem dX7_sweep_15 : decode cX7_sweep 15 = .ok (.iconst 1, 1) := by decide +kernel
theorem dX7_sweep_16 : decode cX7_sweep 16 = .ok (.invokevirtual 60, 3) := by decide +kernel
theorem dX7_sweep_19 : decode cX7_sweep 19 = .ok (.ifCond .ne 7, 3) := by decide +kernel
theorem dX7_sweep_22 : decode cX7_sweep 22 = .ok (.iconst 2, 1) := by decide +kernel
theorem dX7_sweep_23 : decode cX7_sweep 23 = .ok (.goto 21, 3) := by decide +kernel
theorem dX7_sweep_26 : decode cX7_sweep 26 = .ok (.iload_n 2, 1) := by decide +kernel
theorem dX7_sweep_27 : decode cX7_sweep 27 = .ok (.sipush (-200), 3) := by decide +kernel
theorem dX7_sweep_30 : decode cX7_sweep 30 = .ok (.sipush 200, 3) := by decide +kernel
theorem dX7_sweep_33 : decode cX7_sweep 33 = .ok (.invokestatic 45, 3) := by decide +kernel
theorem dX7_sweep_36 : decode cX7_sweep 36 = .ok (.ifCond .eq 7, 3) := by decide +kernel
theorem dX7_sweep_39 : decode cX7_sweep 39 = .ok (.iconst 0, 1) := by decide +kernel
theorem dX7_sweep_40 : decode cX7_sweep 40 = .ok (.goto 4, 3) := by decide +kernel
theorem dX7_sweep_43 : decode cX7_sweep 43 = .ok (.iconst 3, 1) := by decide +kernel
theorem dX7_sweep_44 : decode cX7_sweep 44 = .ok (.putfield 41, 3) := by decide +kernel
theorem dX7_sweep_47 : decode cX7_sweep 47 = .ok (.aload_n 0, 1) := by decide +kernel
theorem dX7_sweep_48 : decode cX7_sweep 48 = .ok (.getfield 41, 3) := by decide +kernel
theorem dX7_sweep_51 : decode cX7_sweep 51 = .ok (.ifCond .le 5, 3) := by decide +kernel
theorem dX7_sweep_54 : decode cX7_sweep 54 = .ok (.iconst 0, 1) := by decide +kernel
theorem dX7_sweep_55 : decode cX7_sweep 55 = .ok (.ireturn, 1) := by decide +kernel
theorem dX7_sweep_56 : decode cX7_sweep 56 = .ok (.aload_n 0, 1) := by decide +kernel
theorem dX7_sweep_57 : decode cX7_sweep 57 = .ok (.invokevirtual 147, 3) := by decide +kernel
theorem dX7_sweep_60 : decode cX7_sweep 60 = .ok (.iconst 0, 1) := by decide +kernel
theorem dX7_sweep_61 : decode cX7_sweep 61 = .ok (.istore_n 3, 1) := by decide +kernel
theorem dX7_sweep_62 : decode cX7_sweep 62 = .ok (.aload_n 0, 1) := by decide +kernel
theorem dX7_sweep_63 : decode cX7_sweep 63 = .ok (.iload_n 1, 1) := by decide +kernel
theorem dX7_sweep_64 : decode cX7_sweep 64 = .ok (.iconst 3, 1) := by decide +kernel
theorem dX7_sweep_65 : decode cX7_sweep 65 = .ok (.invokevirtual 49, 3) := by decide +kernel
theorem dX7_sweep_68 : decode cX7_sweep 68 = .ok (.iload_n 2, 1) := by decide +kernel
theorem dX7_sweep_69 : decode cX7_sweep 69 = .ok (.if_icmp .eq 67, 3) := by decide +kernel
theorem dX7_sweep_72 : decode cX7_sweep 72 = .ok (.aload_n 0, 1) := by decide +kernel
theorem dX7_sweep_73 : decode cX7_sweep 73 = .ok (.getfield 7, 3) := by decide +kernel
theorem dX7_sweep_76 : decode cX7_sweep 76 = .ok (.bipush 50, 2) := by decide +kernel
theorem dX7_sweep_78 : decode cX7_sweep 78 = .ok (.iaload, 1) := by decide +kernel
theorem dX7_sweep_79 : decode cX7_sweep 79 = .ok (.istore 4, 2) := by decide +kernel
theorem dX7_sweep_81 : decode cX7_sweep 81 = .ok (.aload_n 0, 1) := by decide +kernel
theorem dX7_sweep_82 : decode cX7_sweep 82 = .ok (.getfield 7, 3) := by decide +kernel
theorem dX7_sweep_85 : decode cX7_sweep 85 = .ok (.iconst 4, 1) := by decide +kernel
theorem dX7_sweep_86 : decode cX7_sweep 86 = .ok (.iload_n 1, 1) := by decide +kernel
theorem dX7_sweep_87 : decode cX7_sweep 87 = .ok (.imul, 1) := by decide +kernel
theorem dX7_sweep_88 : decode cX7_sweep 88 = .ok (.iconst 3, 1) := by decide +kernel
theorem dX7_sweep_89 : decode cX7_sweep 89 = .ok (.iadd, 1) := by decide +kernel
theorem dX7_sweep_90 : decode cX7_sweep 90 = .ok (.dup2, 1) := by decide +kernel
theorem dX7_sweep_91 : decode cX7_sweep 91 = .ok (.iaload, 1) := by decide +kernel
theorem dX7_sweep_92 : decode cX7_sweep 92 = .ok (.aload_n 0, 1) := by decide +kernel
theorem dX7_sweep_93 : decode cX7_sweep 93 = .ok (.iload_n 1, 1) := by decide +kernel
theorem dX7_sweep_94 : decode cX7_sweep 94 = .ok (.iconst 3, 1) := by decide +kernel
theorem dX7_sweep_95 : decode cX7_sweep 95 = .ok (.invokevirtual 49, 3) := by decide +kernel
theorem dX7_sweep_98 : decode cX7_sweep 98 = .ok (.iload_n 2, 1) := by decide +kernel
theorem dX7_sweep_99 : decode cX7_sweep 99 = .ok (.if_icmp .ge 7, 3) := by decide +kernel
theorem dX7_sweep_102 : decode cX7_sweep 102 = .ok (.iconst 1, 1) := by decide +kernel
theorem dX7_sweep_103 : decode cX7_sweep 103 = .ok (.goto 4, 3) := by decide +kernel
theorem dX7_sweep_106 : decode cX7_sweep 106 = .ok (.iconst (-1), 1) := by decide +kernel
theorem dX7_sweep_107 : decode cX7_sweep 107 = .ok (.iadd, 1) := by decide +kernel
theorem dX7_sweep_108 : decode cX7_sweep 108 = .ok (.iastore, 1) := by decide +kernel
theorem dX7_sweep_109 : decode cX7_sweep 109 = .ok (.aload_n 0, 1) := by decide +kernel
theorem dX7_sweep_110 : decode cX7_sweep 110 = .ok (.invokevirtual 150, 3) := by decide +kernel
theorem dX7_sweep_113 : decode cX7_sweep 113 = .ok (.iload_n 3, 1) := by decide +kernel
theorem dX7_sweep_114 : decode cX7_sweep 114 = .ok (.aload_n 0, 1) := by decide +kernel
theorem dX7_sweep_115 : decode cX7_sweep 115 = .ok (.getfield 7, 3) := by decide +kernel
theorem dX7_sweep_118 : decode cX7_sweep 118 = .ok (.bipush 50, 2) := by decide +kernel
theorem dX7_sweep_120 : decode cX7_sweep 120 = .ok (.iaload, 1) := by decide +kernel
theorem dX7_sweep_121 : decode cX7_sweep 121 = .ok (.iload 4, 2) := by decide +kernel
theorem dX7_sweep_123 : decode cX7_sweep 123 = .ok (.if_icmp .ne 7, 3) := by decide +kernel
theorem dX7_sweep_126 : decode cX7_sweep 126 = .ok (.iconst 0, 1) := by decide +kernel
theorem dX7_sweep_127 : decode cX7_sweep 127 = .ok (.goto 4, 3) := by decide +kernel
theorem dX7_sweep_130 : decode cX7_sweep 130 = .ok (.iconst 1, 1) := by decide +kernel
theorem dX7_sweep_131 : decode cX7_sweep 131 = .ok (.iadd, 1) := by decide +kernel
theorem dX7_sweep_132 : decode cX7_sweep 132 = .ok (.istore_n 3, 1) := by decide +kernel
theorem dX7_sweep_133 : decode cX7_sweep 133 = .ok (.goto (-71), 3) := by decide +kernel
theorem dX7_sweep_136 : decode cX7_sweep 136 = .ok (.iload_n 3, 1) := by decide +kernel
theorem dX7_sweep_137 : decode cX7_sweep 137 = .ok (.ireturn, 1) := by decide +kernel
theorem dX7_undo_0 : decode cX7_undo 0 = .ok (.aload_n 0, 1) := by decide +kernel
theorem dX7_undo_1 : decode cX7_undo 1 = .ok (.aload_n 0, 1) := by decide +kernel
theorem dX7_undo_2 : decode cX7_undo 2 = .ok (.getfield 53, 3) := by decide +kernel
theorem dX7_undo_5 : decode cX7_undo 5 = .ok (.ifCond .le 7, 3) := by decide +kernel
theorem dX7_undo_8 : decode cX7_undo 8 = .ok (.iconst 0, 1) := by decide +kernel
theorem dX7_undo_9 : decode cX7_undo 9 = .ok (.goto 4, 3) := by decide +kernel
theorem dX7_undo_12 : decode cX7_undo 12 = .ok (.iconst 1, 1) := by decide +kernel
theorem dX7_undo_13 : decode cX7_undo 13 = .ok (.putfield 41, 3) := by decide +kernel
theorem dX7_undo_16 : decode cX7_undo 16 = .ok (.aload_n 0, 1) := by decide +kernel
theorem dX7_undo_17 : decode cX7_undo 17 = .ok (.getfield 41, 3) := by decide +kernel
theorem dX7_undo_20 : decode cX7_undo 20 = .ok (.ifCond .le 5, 3) := by decide +kernel
theorem dX7_undo_23 : decode cX7_undo 23 = .ok (.iconst 0, 1) := by decide +kernel
theorem dX7_undo_24 : decode cX7_undo 24 = .ok (.ireturn, 1) := by decide +kernel
theorem dX7_undo_25 : decode cX7_undo 25 = .ok (.aload_n 0, 1) := by decide +kernel
theorem dX7_undo_26 : decode cX7_undo 26 = .ok (.dup, 1) := by decide +kernel
theorem dX7_undo_27 : decode cX7_undo 27 = .ok (.getfield 53, 3) := by decide +kernel
theorem dX7_undo_30 : decode cX7_undo 30 = .ok (.iconst 1, 1) := by decide +kernel
theorem dX7_undo_31 : decode cX7_undo 31 = .ok (.isub, 1) := by decide +kernel
theorem dX7_undo_32 : decode cX7_undo 32 = .ok (.putfield 53, 3) := by decide +kernel
theorem dX7_undo_35 : decode cX7_undo 35 = .ok (.aload_n 0, 1) := by decide +kernel
theorem dX7_undo_36 : decode cX7_undo 36 = .ok (.aload_n 0, 1) := by decide +kernel
theorem dX7_undo_37 : decode cX7_undo 37 = .ok (.getfield 16, 3) := by decide +kernel
theorem dX7_undo_40 : decode cX7_undo 40 = .ok (.bipush 52, 2) := by decide +kernel
theorem dX7_undo_42 : decode cX7_undo 42 = .ok (.aload_n 0, 1) := by decide +kernel
theorem dX7_undo_43 : decode cX7_undo 43 = .ok (.getfield 53, 3) := by decide +kernel
theorem dX7_undo_46 : decode cX7_undo 46 = .ok (.imul, 1) := by decide +kernel
theorem dX7_undo_47 : decode cX7_undo 47 = .ok (.aload_n 0, 1) := by decide +kernel
theorem dX7_undo_48 : decode cX7_undo 48 = .ok (.getfield 7, 3) := by decide +kernel
theorem dX7_undo_51 : decode cX7_undo 51 = .ok (.iconst 0, 1) := by decide +kernel
theorem dX7_undo_52 : decode cX7_undo 52 = .ok (.invokevirtual 56, 3) := by decide +kernel
theorem dX7_undo_55 : decode cX7_undo 55 = .ok (.aload_n 0, 1) := by decide +kernel
theorem dX7_undo_56 : decode cX7_undo 56 = .ok (.getfield 53, 3) := by decide +kernel
theorem dX7_undo_59 : decode cX7_undo 59 = .ok (.ireturn, 1) := by decide +kernel
theorem dX7_keep_0 : decode cX7_keep 0 = .ok (.aload_n 0, 1) := by decide +kernel
theorem dX7_keep_1 : decode cX7_keep 1 = .ok (.iload_n 1, 1) := by decide +kernel
theorem dX7_keep_2 : decode cX7_keep 2 = .ok (.iconst 0, 1) := by decide +kernel
theorem dX7_keep_3 : decode cX7_keep 3 = .ok (.iconst 1, 1) := by decide +kernel
theorem dX7_keep_4 : decode cX7_keep 4 = .ok (.invokestatic 45, 3) := by decide +kernel
theorem dX7_keep_7 : decode cX7_keep 7 = .ok (.ifCond .eq 7, 3) := by decide +kernel
theorem dX7_keep_10 : decode cX7_keep 10 = .ok (.iconst 0, 1) := by decide +kernel
theorem dX7_keep_11 : decode cX7_keep 11 = .ok (.goto 4, 3) := by decide +kernel
theorem dX7_keep_14 : decode cX7_keep 14 = .ok (.iconst 1, 1) := by decide +kernel
theorem dX7_keep_15 : decode cX7_keep 15 = .ok (.putfield 41, 3) := by decide +kernel
theorem dX7_keep_18 : decode cX7_keep 18 = .ok (.aload_n 0, 1) := by decide +kernel
theorem dX7_keep_19 : decode cX7_keep 19 = .ok (.getfield 41, 3) := by decide +kernel
theorem dX7_keep_22 : decode cX7_keep 22 = .ok (.ifCond .le 5, 3) := by decide +kernel
theorem dX7_keep_25 : decode cX7_keep 25 = .ok (.iconst 0, 1) := by decide +kernel
theorem dX7_keep_26 : decode cX7_keep 26 = .ok (.ireturn, 1) := by decide +kernel
theorem dX7_keep_27 : decode cX7_keep 27 = .ok (.aload_n 0, 1) := by decide +kernel
theorem dX7_keep_28 : decode cX7_keep 28 = .ok (.aload_n 0, 1) := by decide +kernel
theorem dX7_keep_29 : decode cX7_keep 29 = .ok (.getfield 7, 3) := by decide +kernel
theorem dX7_keep_32 : decode cX7_keep 32 = .ok (.iconst 0, 1) := by decide +kernel
theorem dX7_keep_33 : decode cX7_keep 33 = .ok (.aload_n 0, 1) := by decide +kernel
theorem dX7_keep_34 : decode cX7_keep 34 = .ok (.getfield 19, 3) := by decide +kernel
theorem dX7_keep_37 : decode cX7_keep 37 = .ok (.bipush 52, 2) := by decide +kernel
theorem dX7_keep_39 : decode cX7_keep 39 = .ok (.iload_n 1, 1) := by decide +kernel
theorem dX7_keep_40 : decode cX7_keep 40 = .ok (.imul, 1) := by decide +kernel
theorem dX7_keep_41 : decode cX7_keep 41 = .ok (.invokevirtual 56, 3) := by decide +kernel
theorem dX7_keep_44 : decode cX7_keep 44 = .ok (.aload_n 0, 1) := by decide +kernel
theorem dX7_keep_45 : decode cX7_keep 45 = .ok (.dup, 1) := by decide +kernel
theorem dX7_keep_46 : decode cX7_keep 46 = .ok (.getfield 163, 3) := by decide +kernel
theorem dX7_keep_49 : decode cX7_keep 49 = .ok (.iconst 1, 1) := by decide +kernel
theorem dX7_keep_50 : decode cX7_keep 50 = .ok (.iload_n 1, 1) := by decide +kernel
theorem dX7_keep_51 : decode cX7_keep 51 = .ok (.ishl, 1) := by decide +kernel
theorem dX7_keep_52 : decode cX7_keep 52 = .ok (.ior, 1) := by decide +kernel
theorem dX7_keep_53 : decode cX7_keep 53 = .ok (.putfield 163, 3) := by decide +kernel
theorem dX7_keep_56 : decode cX7_keep 56 = .ok (.aload_n 0, 1) := by decide +kernel
theorem dX7_keep_57 : decode cX7_keep 57 = .ok (.getfield 7, 3) := by decide +kernel
theorem dX7_keep_60 : decode cX7_keep 60 = .ok (.bipush 48, 2) := by decide +kernel
theorem dX7_keep_62 : decode cX7_keep 62 = .ok (.iaload, 1) := by decide +kernel
theorem dX7_keep_63 : decode cX7_keep 63 = .ok (.ireturn, 1) := by decide +kernel
theorem dX7_back_0 : decode cX7_back 0 = .ok (.aload_n 0, 1) := by decide +kernel
theorem dX7_back_1 : decode cX7_back 1 = .ok (.iload_n 1, 1) := by decide +kernel
theorem dX7_back_2 : decode cX7_back 2 = .ok (.iconst 0, 1) := by decide +kernel
theorem dX7_back_3 : decode cX7_back 3 = .ok (.iconst 1, 1) := by decide +kernel
theorem dX7_back_4 : decode cX7_back 4 = .ok (.invokestatic 45, 3) := by decide +kernel
theorem dX7_back_7 : decode cX7_back 7 = .ok (.ifCond .ne 7, 3) := by decide +kernel
theorem dX7_back_10 : decode cX7_back 10 = .ok (.iconst 1, 1) := by decide +kernel
theorem dX7_back_11 : decode cX7_back 11 = .ok (.goto 20, 3) := by decide +kernel
theorem dX7_back_14 : decode cX7_back 14 = .ok (.aload_n 0, 1) := by decide +kernel
theorem dX7_back_15 : decode cX7_back 15 = .ok (.getfield 163, 3) := by decide +kernel
theorem dX7_back_18 : decode cX7_back 18 = .ok (.iload_n 1, 1) := by decide +kernel
theorem dX7_back_19 : decode cX7_back 19 = .ok (.ishr, 1) := by decide +kernel
theorem dX7_back_20 : decode cX7_back 20 = .ok (.iconst 1, 1) := by decide +kernel
theorem dX7_back_21 : decode cX7_back 21 = .ok (.iand, 1) := by decide +kernel
theorem dX7_back_22 : decode cX7_back 22 = .ok (.iconst 1, 1) := by decide +kernel
theorem dX7_back_23 : decode cX7_back 23 = .ok (.if_icmp .ne 7, 3) := by decide +kernel
theorem dX7_back_26 : decode cX7_back 26 = .ok (.iconst 0, 1) := by decide +kernel
theorem dX7_back_27 : decode cX7_back 27 = .ok (.goto 4, 3) := by decide +kernel
theorem dX7_back_30 : decode cX7_back 30 = .ok (.iconst 2, 1) := by decide +kernel
theorem dX7_back_31 : decode cX7_back 31 = .ok (.putfield 41, 3) := by decide +kernel
theorem dX7_back_34 : decode cX7_back 34 = .ok (.aload_n 0, 1) := by decide +kernel
theorem dX7_back_35 : decode cX7_back 35 = .ok (.getfield 41, 3) := by decide +kernel
theorem dX7_back_38 : decode cX7_back 38 = .ok (.ifCond .le 5, 3) := by decide +kernel
theorem dX7_back_41 : decode cX7_back 41 = .ok (.iconst 0, 1) := by decide +kernel
theorem dX7_back_42 : decode cX7_back 42 = .ok (.ireturn, 1) := by decide +kernel
theorem dX7_back_43 : decode cX7_back 43 = .ok (.aload_n 0, 1) := by decide +kernel
theorem dX7_back_44 : decode cX7_back 44 = .ok (.invokevirtual 147, 3) := by decide +kernel
theorem dX7_back_47 : decode cX7_back 47 = .ok (.aload_n 0, 1) := by decide +kernel
theorem dX7_back_48 : decode cX7_back 48 = .ok (.aload_n 0, 1) := by decide +kernel
theorem dX7_back_49 : decode cX7_back 49 = .ok (.getfield 19, 3) := by decide +kernel
theorem dX7_back_52 : decode cX7_back 52 = .ok (.bipush 52, 2) := by decide +kernel
theorem dX7_back_54 : decode cX7_back 54 = .ok (.iload_n 1, 1) := by decide +kernel
theorem dX7_back_55 : decode cX7_back 55 = .ok (.imul, 1) := by decide +kernel
theorem dX7_back_56 : decode cX7_back 56 = .ok (.aload_n 0, 1) := by decide +kernel
theorem dX7_back_57 : decode cX7_back 57 = .ok (.getfield 7, 3) := by decide +kernel
theorem dX7_back_60 : decode cX7_back 60 = .ok (.iconst 0, 1) := by decide +kernel
theorem dX7_back_61 : decode cX7_back 61 = .ok (.invokevirtual 56, 3) := by decide +kernel
theorem dX7_back_64 : decode cX7_back 64 = .ok (.aload_n 0, 1) := by decide +kernel
theorem dX7_back_65 : decode cX7_back 65 = .ok (.getfield 7, 3) := by decide +kernel
theorem dX7_back_68 : decode cX7_back 68 = .ok (.bipush 48, 2) := by decide +kernel
theorem dX7_back_70 : decode cX7_back 70 = .ok (.iaload, 1) := by decide +kernel
theorem dX7_back_71 : decode cX7_back 71 = .ok (.ireturn, 1) := by decide +kernel
theorem dX7_append_0 : decode cX7_append 0 = .ok (.aload_n 0, 1) := by decide +kernel
theorem dX7_append_1 : decode cX7_append 1 = .ok (.iload_n 1, 1) := by decide +kernel
theorem dX7_append_2 : decode cX7_append 2 = .ok (.bipush 32, 2) := by decide +kernel
theorem dX7_append_4 : decode cX7_append 4 = .ok (.bipush 126, 2) := by decide +kernel
theorem dX7_append_6 : decode cX7_append 6 = .ok (.invokestatic 45, 3) := by decide +kernel
theorem dX7_append_9 : decode cX7_append 9 = .ok (.ifCond .ne 7, 3) := by decide +kernel
theorem dX7_append_12 : decode cX7_append 12 = .ok (.iconst 1, 1) := by decide +kernel
theorem dX7_append_13 : decode cX7_append 13 = .ok (.goto 17, 3) := by decide +kernel
theorem dX7_append_16 : decode cX7_append 16 = .ok (.aload_n 0, 1) := by decide +kernel
theorem dX7_append_17 : decode cX7_append 17 = .ok (.getfield 166, 3) := by decide +kernel
theorem dX7_append_20 : decode cX7_append 20 = .ok (.bipush 60, 2) := by decide +kernel
theorem dX7_append_22 : decode cX7_append 22 = .ok (.if_icmp .ne 7, 3) := by decide +kernel
theorem dX7_append_25 : decode cX7_append 25 = .ok (.iconst 2, 1) := by decide +kernel
theorem dX7_append_26 : decode cX7_append 26 = .ok (.goto 4, 3) := by decide +kernel
theorem dX7_append_29 : decode cX7_append 29 = .ok (.iconst 0, 1) := by decide +kernel
theorem dX7_append_30 : decode cX7_append 30 = .ok (.putfield 41, 3) := by decide +kernel
theorem dX7_append_33 : decode cX7_append 33 = .ok (.aload_n 0, 1) := by decide +kernel
theorem dX7_append_34 : decode cX7_append 34 = .ok (.getfield 41, 3) := by decide +kernel
theorem dX7_append_37 : decode cX7_append 37 = .ok (.ifCond .le 5, 3) := by decide +kernel
theorem dX7_append_40 : decode cX7_append 40 = .ok (.iconst 0, 1) := by decide +kernel
theorem dX7_append_41 : decode cX7_append 41 = .ok (.ireturn, 1) := by decide +kernel
theorem dX7_append_42 : decode cX7_append 42 = .ok (.aload_n 0, 1) := by decide +kernel
theorem dX7_append_43 : decode cX7_append 43 = .ok (.getfield 22, 3) := by decide +kernel
theorem dX7_append_46 : decode cX7_append 46 = .ok (.aload_n 0, 1) := by decide +kernel
theorem dX7_append_47 : decode cX7_append 47 = .ok (.getfield 166, 3) := by decide +kernel
theorem dX7_append_50 : decode cX7_append 50 = .ok (.iload_n 1, 1) := by decide +kernel
theorem dX7_append_51 : decode cX7_append 51 = .ok (.iastore, 1) := by decide +kernel
theorem dX7_append_52 : decode cX7_append 52 = .ok (.aload_n 0, 1) := by decide +kernel
theorem dX7_append_53 : decode cX7_append 53 = .ok (.dup, 1) := by decide +kernel
theorem dX7_append_54 : decode cX7_append 54 = .ok (.getfield 166, 3) := by decide +kernel
theorem dX7_append_57 : decode cX7_append 57 = .ok (.iconst 1, 1) := by decide +kernel
theorem dX7_append_58 : decode cX7_append 58 = .ok (.iadd, 1) := by decide +kernel
theorem dX7_append_59 : decode cX7_append 59 = .ok (.putfield 166, 3) := by decide +kernel
theorem dX7_append_62 : decode cX7_append 62 = .ok (.aload_n 0, 1) := by decide +kernel
theorem dX7_append_63 : decode cX7_append 63 = .ok (.getfield 166, 3) := by decide +kernel
theorem dX7_append_66 : decode cX7_append 66 = .ok (.ireturn, 1) := by decide +kernel
theorem dX7_clearInput_0 : decode cX7_clearInput 0 = .ok (.aload_n 0, 1) := by decide +kernel
theorem dX7_clearInput_1 : decode cX7_clearInput 1 = .ok (.iconst 0, 1) := by decide +kernel
theorem dX7_clearInput_2 : decode cX7_clearInput 2 = .ok (.putfield 41, 3) := by decide +kernel
theorem dX7_clearInput_5 : decode cX7_clearInput 5 = .ok (.aload_n 0, 1) := by decide +kernel
theorem dX7_clearInput_6 : decode cX7_clearInput 6 = .ok (.getfield 166, 3) := by decide +kernel
theorem dX7_clearInput_9 : decode cX7_clearInput 9 = .ok (.istore_n 1, 1) := by decide +kernel
theorem dX7_clearInput_10 : decode cX7_clearInput 10 = .ok (.aload_n 0, 1) := by decide +kernel
theorem dX7_clearInput_11 : decode cX7_clearInput 11 = .ok (.iconst 0, 1) := by decide +kernel
theorem dX7_clearInput_12 : decode cX7_clearInput 12 = .ok (.putfield 166, 3) := by decide +kernel
theorem dX7_clearInput_15 : decode cX7_clearInput 15 = .ok (.iload_n 1, 1) := by decide +kernel
theorem dX7_clearInput_16 : decode cX7_clearInput 16 = .ok (.ireturn, 1) := by decide +kernel
theorem dX7_put_0 : decode cX7_put 0 = .ok (.aload_n 0, 1) := by decide +kernel
theorem dX7_put_1 : decode cX7_put 1 = .ok (.getfield 38, 3) := by decide +kernel
theorem dX7_put_4 : decode cX7_put 4 = .ok (.iconst 4, 1) := by decide +kernel
theorem dX7_put_5 : decode cX7_put 5 = .ok (.aload_n 0, 1) := by decide +kernel
theorem dX7_put_6 : decode cX7_put 6 = .ok (.getfield 169, 3) := by decide +kernel
theorem dX7_put_9 : decode cX7_put 9 = .ok (.imul, 1) := by decide +kernel
theorem dX7_put_10 : decode cX7_put 10 = .ok (.iload_n 1, 1) := by decide +kernel
theorem dX7_put_11 : decode cX7_put 11 = .ok (.iadd, 1) := by decide +kernel
theorem dX7_put_12 : decode cX7_put 12 = .ok (.iload_n 2, 1) := by decide +kernel
theorem dX7_put_13 : decode cX7_put 13 = .ok (.iastore, 1) := by decide +kernel
theorem dX7_put_14 : decode cX7_put 14 = .ok (.return_, 1) := by decide +kernel
theorem dX7_takesLetter_0 : decode cX7_takesLetter 0 = .ok (.aload_n 0, 1) := by decide +kernel
theorem dX7_takesLetter_1 : decode cX7_takesLetter 1 = .ok (.iconst 0, 1) := by decide +kernel
theorem dX7_takesLetter_2 : decode cX7_takesLetter 2 = .ok (.iload_n 1, 1) := by decide +kernel
theorem dX7_takesLetter_3 : decode cX7_takesLetter 3 = .ok (.bipush 114, 2) := by decide +kernel
theorem dX7_takesLetter_5 : decode cX7_takesLetter 5 = .ok (.if_icmp .ne 7, 3) := by decide +kernel
theorem dX7_takesLetter_8 : decode cX7_takesLetter 8 = .ok (.iconst 0, 1) := by decide +kernel
theorem dX7_takesLetter_9 : decode cX7_takesLetter 9 = .ok (.goto 14, 3) := by decide +kernel
theorem dX7_takesLetter_12 : decode cX7_takesLetter 12 = .ok (.iload_n 1, 1) := by decide +kernel
theorem dX7_takesLetter_13 : decode cX7_takesLetter 13 = .ok (.bipush 115, 2) := by decide +kernel
theorem dX7_takesLetter_15 : decode cX7_takesLetter 15 = .ok (.if_icmp .ne 7, 3) := by decide +kernel
theorem dX7_takesLetter_18 : decode cX7_takesLetter 18 = .ok (.iconst 1, 1) := by decide +kernel
theorem dX7_takesLetter_19 : decode cX7_takesLetter 19 = .ok (.goto 4, 3) := by decide +kernel
theorem dX7_takesLetter_22 : decode cX7_takesLetter 22 = .ok (.iconst 2, 1) := by decide +kernel
theorem dX7_takesLetter_23 : decode cX7_takesLetter 23 = .ok (.invokevirtual 172, 3) := by decide +kernel
theorem dX7_takesLetter_26 : decode cX7_takesLetter 26 = .ok (.aload_n 0, 1) := by decide +kernel
theorem dX7_takesLetter_27 : decode cX7_takesLetter 27 = .ok (.iconst 2, 1) := by decide +kernel
theorem dX7_takesLetter_28 : decode cX7_takesLetter 28 = .ok (.iconst (-1), 1) := by decide +kernel
theorem dX7_takesLetter_29 : decode cX7_takesLetter 29 = .ok (.invokevirtual 172, 3) := by decide +kernel
theorem dX7_takesLetter_32 : decode cX7_takesLetter 32 = .ok (.aload_n 0, 1) := by decide +kernel
theorem dX7_takesLetter_33 : decode cX7_takesLetter 33 = .ok (.iconst 0, 1) := by decide +kernel
theorem dX7_takesLetter_34 : decode cX7_takesLetter 34 = .ok (.putfield 175, 3) := by decide +kernel
theorem dX7_takesLetter_37 : decode cX7_takesLetter 37 = .ok (.aload_n 0, 1) := by decide +kernel
theorem dX7_takesLetter_38 : decode cX7_takesLetter 38 = .ok (.iconst 0, 1) := by decide +kernel
theorem dX7_takesLetter_39 : decode cX7_takesLetter 39 = .ok (.putfield 179, 3) := by decide +kernel
theorem dX7_takesLetter_42 : decode cX7_takesLetter 42 = .ok (.aload_n 0, 1) := by decide +kernel
theorem dX7_takesLetter_43 : decode cX7_takesLetter 43 = .ok (.iconst 0, 1) := by decide +kernel
theorem dX7_takesLetter_44 : decode cX7_takesLetter 44 = .ok (.putfield 182, 3) := by decide +kernel
theorem dX7_takesLetter_47 : decode cX7_takesLetter 47 = .ok (.aload_n 0, 1) := by decide +kernel
theorem dX7_takesLetter_48 : decode cX7_takesLetter 48 = .ok (.iload_n 1, 1) := by decide +kernel
theorem dX7_takesLetter_49 : decode cX7_takesLetter 49 = .ok (.bipush 115, 2) := by decide +kernel
theorem dX7_takesLetter_51 : decode cX7_takesLetter 51 = .ok (.if_icmp .ne 7, 3) := by decide +kernel
theorem dX7_takesLetter_54 : decode cX7_takesLetter 54 = .ok (.iconst 4, 1) := by decide +kernel
theorem dX7_takesLetter_55 : decode cX7_takesLetter 55 = .ok (.goto 23, 3) := by decide +kernel
theorem dX7_takesLetter_58 : decode cX7_takesLetter 58 = .ok (.iload_n 1, 1) := by decide +kernel
theorem dX7_takesLetter_59 : decode cX7_takesLetter 59 = .ok (.bipush 114, 2) := by decide +kernel
theorem dX7_takesLetter_61 : decode cX7_takesLetter 61 = .ok (.if_icmp .eq 9, 3) := by decide +kernel
theorem dX7_takesLetter_64 : decode cX7_takesLetter 64 = .ok (.iload_n 1, 1) := by decide +kernel
theorem dX7_takesLetter_65 : decode cX7_takesLetter 65 = .ok (.bipush 111, 2) := by decide +kernel
theorem dX7_takesLetter_67 : decode cX7_takesLetter 67 = .ok (.if_icmp .ne 7, 3) := by decide +kernel
theorem dX7_takesLetter_70 : decode cX7_takesLetter 70 = .ok (.iconst 1, 1) := by decide +kernel
theorem dX7_takesLetter_71 : decode cX7_takesLetter 71 = .ok (.goto 7, 3) := by decide +kernel
theorem dX7_takesLetter_74 : decode cX7_takesLetter 74 = .ok (.aload_n 0, 1) := by decide +kernel
theorem dX7_takesLetter_75 : decode cX7_takesLetter 75 = .ok (.getfield 185, 3) := by decide +kernel
theorem dX7_takesLetter_78 : decode cX7_takesLetter 78 = .ok (.putfield 185, 3) := by decide +kernel
theorem dX7_takesLetter_81 : decode cX7_takesLetter 81 = .ok (.aload_n 0, 1) := by decide +kernel
theorem dX7_takesLetter_82 : decode cX7_takesLetter 82 = .ok (.getfield 185, 3) := by decide +kernel
theorem dX7_takesLetter_85 : decode cX7_takesLetter 85 = .ok (.ifCond .le 7, 3) := by decide +kernel
theorem dX7_takesLetter_88 : decode cX7_takesLetter 88 = .ok (.iconst 1, 1) := by decide +kernel
theorem dX7_takesLetter_89 : decode cX7_takesLetter 89 = .ok (.goto 4, 3) := by decide +kernel
theorem dX7_takesLetter_92 : decode cX7_takesLetter 92 = .ok (.iconst 0, 1) := by decide +kernel
theorem dX7_takesLetter_93 : decode cX7_takesLetter 93 = .ok (.ireturn, 1) := by decide +kernel
theorem dX7_takesNode_0 : decode cX7_takesNode 0 = .ok (.iload_n 1, 1) := by decide +kernel
theorem dX7_takesNode_1 : decode cX7_takesNode 1 = .ok (.bipush 48, 2) := by decide +kernel
theorem dX7_takesNode_3 : decode cX7_takesNode 3 = .ok (.bipush 54, 2) := by decide +kernel
theorem dX7_takesNode_5 : decode cX7_takesNode 5 = .ok (.invokestatic 45, 3) := by decide +kernel
theorem dX7_takesNode_8 : decode cX7_takesNode 8 = .ok (.istore 4, 2) := by decide +kernel
theorem dX7_takesNode_10 : decode cX7_takesNode 10 = .ok (.aload_n 0, 1) := by decide +kernel
theorem dX7_takesNode_11 : decode cX7_takesNode 11 = .ok (.iload_n 2, 1) := by decide +kernel
theorem dX7_takesNode_12 : decode cX7_takesNode 12 = .ok (.iload_n 1, 1) := by decide +kernel
theorem dX7_takesNode_13 : decode cX7_takesNode 13 = .ok (.bipush 48, 2) := by decide +kernel
theorem dX7_takesNode_15 : decode cX7_takesNode 15 = .ok (.isub, 1) := by decide +kernel
theorem dX7_takesNode_16 : decode cX7_takesNode 16 = .ok (.invokevirtual 172, 3) := by decide +kernel
theorem dX7_takesNode_19 : decode cX7_takesNode 19 = .ok (.aload_n 0, 1) := by decide +kernel
theorem dX7_takesNode_20 : decode cX7_takesNode 20 = .ok (.iload 4, 2) := by decide +kernel
theorem dX7_takesNode_22 : decode cX7_takesNode 22 = .ok (.ifCond .eq 7, 3) := by decide +kernel
theorem dX7_takesNode_25 : decode cX7_takesNode 25 = .ok (.iload_n 3, 1) := by decide +kernel
theorem dX7_takesNode_26 : decode cX7_takesNode 26 = .ok (.goto 7, 3) := by decide +kernel
theorem dX7_takesNode_29 : decode cX7_takesNode 29 = .ok (.aload_n 0, 1) := by decide +kernel
theorem dX7_takesNode_30 : decode cX7_takesNode 30 = .ok (.getfield 185, 3) := by decide +kernel
theorem dX7_takesNode_33 : decode cX7_takesNode 33 = .ok (.putfield 185, 3) := by decide +kernel
theorem dX7_takesNode_36 : decode cX7_takesNode 36 = .ok (.iload 4, 2) := by decide +kernel
theorem dX7_takesNode_38 : decode cX7_takesNode 38 = .ok (.ireturn, 1) := by decide +kernel
theorem dX7_takesLast_0 : decode cX7_takesLast 0 = .ok (.aload_n 0, 1) := by decide +kernel
theorem dX7_takesLast_1 : decode cX7_takesLast 1 = .ok (.getfield 38, 3) := by decide +kernel
theorem dX7_takesLast_4 : decode cX7_takesLast 4 = .ok (.iconst 4, 1) := by decide +kernel
theorem dX7_takesLast_5 : decode cX7_takesLast 5 = .ok (.aload_n 0, 1) := by decide +kernel
theorem dX7_takesLast_6 : decode cX7_takesLast 6 = .ok (.getfield 169, 3) := by decide +kernel
theorem dX7_takesLast_9 : decode cX7_takesLast 9 = .ok (.imul, 1) := by decide +kernel
theorem dX7_takesLast_10 : decode cX7_takesLast 10 = .ok (.iaload, 1) := by decide +kernel
theorem dX7_takesLast_11 : decode cX7_takesLast 11 = .ok (.ifCond .ne 14, 3) := by decide +kernel
theorem dX7_takesLast_14 : decode cX7_takesLast 14 = .ok (.iload_n 1, 1) := by decide +kernel
theorem dX7_takesLast_15 : decode cX7_takesLast 15 = .ok (.bipush 49, 2) := by decide +kernel
theorem dX7_takesLast_17 : decode cX7_takesLast 17 = .ok (.bipush 52, 2) := by decide +kernel
theorem dX7_takesLast_19 : decode cX7_takesLast 19 = .ok (.invokestatic 45, 3) := by decide +kernel
theorem dX7_takesLast_22 : decode cX7_takesLast 22 = .ok (.goto 11, 3) := by decide +kernel
theorem dX7_takesLast_25 : decode cX7_takesLast 25 = .ok (.iload_n 1, 1) := by decide +kernel
theorem dX7_takesLast_26 : decode cX7_takesLast 26 = .ok (.bipush 48, 2) := by decide +kernel
theorem dX7_takesLast_28 : decode cX7_takesLast 28 = .ok (.bipush 54, 2) := by decide +kernel
theorem dX7_takesLast_30 : decode cX7_takesLast 30 = .ok (.invokestatic 45, 3) := by decide +kernel
theorem dX7_takesLast_33 : decode cX7_takesLast 33 = .ok (.istore_n 2, 1) := by decide +kernel
theorem dX7_takesLast_34 : decode cX7_takesLast 34 = .ok (.aload_n 0, 1) := by decide +kernel
theorem dX7_takesLast_35 : decode cX7_takesLast 35 = .ok (.iconst 3, 1) := by decide +kernel
theorem dX7_takesLast_36 : decode cX7_takesLast 36 = .ok (.iload_n 1, 1) := by decide +kernel
theorem dX7_takesLast_37 : decode cX7_takesLast 37 = .ok (.bipush 48, 2) := by decide +kernel
theorem dX7_takesLast_39 : decode cX7_takesLast 39 = .ok (.isub, 1) := by decide +kernel
theorem dX7_takesLast_40 : decode cX7_takesLast 40 = .ok (.invokevirtual 172, 3) := by decide +kernel
theorem dX7_takesLast_43 : decode cX7_takesLast 43 = .ok (.aload_n 0, 1) := by decide +kernel
theorem dX7_takesLast_44 : decode cX7_takesLast 44 = .ok (.iload_n 2, 1) := by decide +kernel
theorem dX7_takesLast_45 : decode cX7_takesLast 45 = .ok (.ifCond .eq 8, 3) := by decide +kernel
theorem dX7_takesLast_48 : decode cX7_takesLast 48 = .ok (.bipush 8, 2) := by decide +kernel
theorem dX7_takesLast_50 : decode cX7_takesLast 50 = .ok (.goto 7, 3) := by decide +kernel
theorem dX7_takesLast_53 : decode cX7_takesLast 53 = .ok (.aload_n 0, 1) := by decide +kernel
theorem dX7_takesLast_54 : decode cX7_takesLast 54 = .ok (.getfield 185, 3) := by decide +kernel
theorem dX7_takesLast_57 : decode cX7_takesLast 57 = .ok (.putfield 185, 3) := by decide +kernel
theorem dX7_takesLast_60 : decode cX7_takesLast 60 = .ok (.iload_n 2, 1) := by decide +kernel
theorem dX7_takesLast_61 : decode cX7_takesLast 61 = .ok (.ireturn, 1) := by decide +kernel
theorem dX7_takesValue_0 : decode cX7_takesValue 0 = .ok (.iload_n 1, 1) := by decide +kernel
theorem dX7_takesValue_1 : decode cX7_takesValue 1 = .ok (.bipush 45, 2) := by decide +kernel
theorem dX7_takesValue_3 : decode cX7_takesValue 3 = .ok (.if_icmp .ne 24, 3) := by decide +kernel
theorem dX7_takesValue_6 : decode cX7_takesValue 6 = .ok (.aload_n 0, 1) := by decide +kernel
theorem dX7_takesValue_7 : decode cX7_takesValue 7 = .ok (.getfield 185, 3) := by decide +kernel
theorem dX7_takesValue_10 : decode cX7_takesValue 10 = .ok (.iconst 5, 1) := by decide +kernel
theorem dX7_takesValue_11 : decode cX7_takesValue 11 = .ok (.if_icmp .ne 16, 3) := by decide +kernel
theorem dX7_takesValue_14 : decode cX7_takesValue 14 = .ok (.aload_n 0, 1) := by decide +kernel
theorem dX7_takesValue_15 : decode cX7_takesValue 15 = .ok (.iconst 1, 1) := by decide +kernel
theorem dX7_takesValue_16 : decode cX7_takesValue 16 = .ok (.putfield 175, 3) := by decide +kernel
theorem dX7_takesValue_19 : decode cX7_takesValue 19 = .ok (.aload_n 0, 1) := by decide +kernel
theorem dX7_takesValue_20 : decode cX7_takesValue 20 = .ok (.bipush 6, 2) := by decide +kernel
theorem dX7_takesValue_22 : decode cX7_takesValue 22 = .ok (.putfield 185, 3) := by decide +kernel
theorem dX7_takesValue_25 : decode cX7_takesValue 25 = .ok (.iconst 1, 1) := by decide +kernel
theorem dX7_takesValue_26 : decode cX7_takesValue 26 = .ok (.ireturn, 1) := by decide +kernel
theorem dX7_takesValue_27 : decode cX7_takesValue 27 = .ok (.iload_n 1, 1) := by decide +kernel
theorem dX7_takesValue_28 : decode cX7_takesValue 28 = .ok (.bipush 48, 2) := by decide +kernel
theorem dX7_takesValue_30 : decode cX7_takesValue 30 = .ok (.bipush 57, 2) := by decide +kernel
theorem dX7_takesValue_32 : decode cX7_takesValue 32 = .ok (.invokestatic 45, 3) := by decide +kernel
theorem dX7_takesValue_35 : decode cX7_takesValue 35 = .ok (.ifCond .eq 47, 3) := by decide +kernel
theorem dX7_takesValue_38 : decode cX7_takesValue 38 = .ok (.aload_n 0, 1) := by decide +kernel
theorem dX7_takesValue_39 : decode cX7_takesValue 39 = .ok (.getfield 179, 3) := by decide +kernel
theorem dX7_takesValue_42 : decode cX7_takesValue 42 = .ok (.ifCond .eq 10, 3) := by decide +kernel
theorem dX7_takesValue_45 : decode cX7_takesValue 45 = .ok (.aload_n 0, 1) := by decide +kernel
theorem dX7_takesValue_46 : decode cX7_takesValue 46 = .ok (.getfield 182, 3) := by decide +kernel
theorem dX7_takesValue_49 : decode cX7_takesValue 49 = .ok (.ifCond .le 33, 3) := by decide +kernel
theorem dX7_takesValue_52 : decode cX7_takesValue 52 = .ok (.aload_n 0, 1) := by decide +kernel
theorem dX7_takesValue_53 : decode cX7_takesValue 53 = .ok (.getfield 179, 3) := by decide +kernel
theorem dX7_takesValue_56 : decode cX7_takesValue 56 = .ok (.iconst 3, 1) := by decide +kernel
theorem dX7_takesValue_57 : decode cX7_takesValue 57 = .ok (.if_icmp .ge 25, 3) := by decide +kernel
theorem dX7_takesValue_60 : decode cX7_takesValue 60 = .ok (.bipush 10, 2) := by decide +kernel
theorem dX7_takesValue_62 : decode cX7_takesValue 62 = .ok (.aload_n 0, 1) := by decide +kernel
theorem dX7_takesValue_63 : decode cX7_takesValue 63 = .ok (.getfield 182, 3) := by decide +kernel
theorem dX7_takesValue_66 : decode cX7_takesValue 66 = .ok (.imul, 1) := by decide +kernel
theorem dX7_takesValue_67 : decode cX7_takesValue 67 = .ok (.iload_n 1, 1) := by decide +kernel
theorem dX7_takesValue_68 : decode cX7_takesValue 68 = .ok (.iadd, 1) := by decide +kernel
theorem dX7_takesValue_69 : decode cX7_takesValue 69 = .ok (.bipush 48, 2) := by decide +kernel
theorem dX7_takesValue_71 : decode cX7_takesValue 71 = .ok (.isub, 1) := by decide +kernel
theorem dX7_takesValue_72 : decode cX7_takesValue 72 = .ok (.sipush 200, 3) := by decide +kernel
theorem dX7_takesValue_75 : decode cX7_takesValue 75 = .ok (.if_icmp .gt 7, 3) := by decide +kernel
theorem dX7_takesValue_78 : decode cX7_takesValue 78 = .ok (.iconst 1, 1) := by decide +kernel
theorem dX7_takesValue_79 : decode cX7_takesValue 79 = .ok (.goto 4, 3) := by decide +kernel
theorem dX7_takesValue_82 : decode cX7_takesValue 82 = .ok (.iconst 0, 1) := by decide +kernel
theorem dX7_takesValue_83 : decode cX7_takesValue 83 = .ok (.istore_n 2, 1) := by decide +kernel
theorem dX7_takesValue_84 : decode cX7_takesValue 84 = .ok (.iload_n 2, 1) := by decide +kernel
theorem dX7_takesValue_85 : decode cX7_takesValue 85 = .ok (.ifCond .eq 59, 3) := by decide +kernel
theorem dX7_takesValue_88 : decode cX7_takesValue 88 = .ok (.aload_n 0, 1) := by decide +kernel
theorem dX7_takesValue_89 : decode cX7_takesValue 89 = .ok (.bipush 10, 2) := by decide +kernel
theorem dX7_takesValue_91 : decode cX7_takesValue 91 = .ok (.aload_n 0, 1) := by decide +kernel
theorem dX7_takesValue_92 : decode cX7_takesValue 92 = .ok (.getfield 182, 3) := by decide +kernel
theorem dX7_takesValue_95 : decode cX7_takesValue 95 = .ok (.imul, 1) := by decide +kernel
theorem dX7_takesValue_96 : decode cX7_takesValue 96 = .ok (.iload_n 1, 1) := by decide +kernel
theorem dX7_takesValue_97 : decode cX7_takesValue 97 = .ok (.iadd, 1) := by decide +kernel
theorem dX7_takesValue_98 : decode cX7_takesValue 98 = .ok (.bipush 48, 2) := by decide +kernel
theorem dX7_takesValue_100 : decode cX7_takesValue 100 = .ok (.isub, 1) := by decide +kernel
theorem dX7_takesValue_101 : decode cX7_takesValue 101 = .ok (.putfield 182, 3) := by decide +kernel
theorem dX7_takesValue_104 : decode cX7_takesValue 104 = .ok (.aload_n 0, 1) := by decide +kernel
theorem dX7_takesValue_105 : decode cX7_takesValue 105 = .ok (.dup, 1) := by decide +kernel
theorem dX7_takesValue_106 : decode cX7_takesValue 106 = .ok (.getfield 179, 3) := by decide +kernel
theorem dX7_takesValue_109 : decode cX7_takesValue 109 = .ok (.iconst 1, 1) := by decide +kernel
theorem dX7_takesValue_110 : decode cX7_takesValue 110 = .ok (.iadd, 1) := by decide +kernel
theorem dX7_takesValue_111 : decode cX7_takesValue 111 = .ok (.putfield 179, 3) := by decide +kernel
theorem dX7_takesValue_114 : decode cX7_takesValue 114 = .ok (.aload_n 0, 1) := by decide +kernel
theorem dX7_takesValue_115 : decode cX7_takesValue 115 = .ok (.iconst 3, 1) := by decide +kernel
theorem dX7_takesValue_116 : decode cX7_takesValue 116 = .ok (.aload_n 0, 1) := by decide +kernel
theorem dX7_takesValue_117 : decode cX7_takesValue 117 = .ok (.getfield 175, 3) := by decide +kernel
theorem dX7_takesValue_120 : decode cX7_takesValue 120 = .ok (.ifCond .eq 11, 3) := by decide +kernel
theorem dX7_takesValue_123 : decode cX7_takesValue 123 = .ok (.aload_n 0, 1) := by decide +kernel
theorem dX7_takesValue_124 : decode cX7_takesValue 124 = .ok (.getfield 182, 3) := by decide +kernel
theorem dX7_takesValue_127 : decode cX7_takesValue 127 = .ok (.ineg, 1) := by decide +kernel
theorem dX7_takesValue_128 : decode cX7_takesValue 128 = .ok (.goto 7, 3) := by decide +kernel
theorem dX7_takesValue_131 : decode cX7_takesValue 131 = .ok (.aload_n 0, 1) := by decide +kernel
theorem dX7_takesValue_132 : decode cX7_takesValue 132 = .ok (.getfield 182, 3) := by decide +kernel
theorem dX7_takesValue_135 : decode cX7_takesValue 135 = .ok (.invokevirtual 172, 3) := by decide +kernel
theorem dX7_takesValue_138 : decode cX7_takesValue 138 = .ok (.aload_n 0, 1) := by decide +kernel
theorem dX7_takesValue_139 : decode cX7_takesValue 139 = .ok (.bipush 7, 2) := by decide +kernel
theorem dX7_takesValue_141 : decode cX7_takesValue 141 = .ok (.putfield 185, 3) := by decide +kernel
theorem dX7_takesValue_144 : decode cX7_takesValue 144 = .ok (.iload_n 2, 1) := by decide +kernel
theorem dX7_takesValue_145 : decode cX7_takesValue 145 = .ok (.ireturn, 1) := by decide +kernel
theorem dX7_isOver_0 : decode cX7_isOver 0 = .ok (.aload_n 0, 1) := by decide +kernel
theorem dX7_isOver_1 : decode cX7_isOver 1 = .ok (.getfield 185, 3) := by decide +kernel
theorem dX7_isOver_4 : decode cX7_isOver 4 = .ok (.bipush 7, 2) := by decide +kernel
theorem dX7_isOver_6 : decode cX7_isOver 6 = .ok (.if_icmp .eq 12, 3) := by decide +kernel
theorem dX7_isOver_9 : decode cX7_isOver 9 = .ok (.aload_n 0, 1) := by decide +kernel
theorem dX7_isOver_10 : decode cX7_isOver 10 = .ok (.getfield 185, 3) := by decide +kernel
theorem dX7_isOver_13 : decode cX7_isOver 13 = .ok (.bipush 8, 2) := by decide +kernel
theorem dX7_isOver_15 : decode cX7_isOver 15 = .ok (.if_icmp .ne 7, 3) := by decide +kernel
theorem dX7_isOver_18 : decode cX7_isOver 18 = .ok (.iconst 1, 1) := by decide +kernel
theorem dX7_isOver_19 : decode cX7_isOver 19 = .ok (.goto 4, 3) := by decide +kernel
theorem dX7_isOver_22 : decode cX7_isOver 22 = .ok (.iconst 0, 1) := by decide +kernel
theorem dX7_isOver_23 : decode cX7_isOver 23 = .ok (.ireturn, 1) := by decide +kernel
theorem dX7_takes_0 : decode cX7_takes 0 = .ok (.iload_n 1, 1) := by decide +kernel
theorem dX7_takes_1 : decode cX7_takes 1 = .ok (.bipush 59, 2) := by decide +kernel
theorem dX7_takes_3 : decode cX7_takes 3 = .ok (.if_icmp .ne 27, 3) := by decide +kernel
theorem dX7_takes_6 : decode cX7_takes 6 = .ok (.aload_n 0, 1) := by decide +kernel
theorem dX7_takes_7 : decode cX7_takes 7 = .ok (.invokevirtual 188, 3) := by decide +kernel
theorem dX7_takes_10 : decode cX7_takes 10 = .ok (.ifCond .eq 20, 3) := by decide +kernel
theorem dX7_takes_13 : decode cX7_takes 13 = .ok (.aload_n 0, 1) := by decide +kernel
theorem dX7_takes_14 : decode cX7_takes 14 = .ok (.dup, 1) := by decide +kernel
theorem dX7_takes_15 : decode cX7_takes 15 = .ok (.getfield 169, 3) := by decide +kernel
theorem dX7_takes_18 : decode cX7_takes 18 = .ok (.iconst 1, 1) := by decide +kernel
theorem dX7_takes_19 : decode cX7_takes 19 = .ok (.iadd, 1) := by decide +kernel
theorem dX7_takes_20 : decode cX7_takes 20 = .ok (.putfield 169, 3) := by decide +kernel
theorem dX7_takes_23 : decode cX7_takes 23 = .ok (.aload_n 0, 1) := by decide +kernel
theorem dX7_takes_24 : decode cX7_takes 24 = .ok (.iconst 0, 1) := by decide +kernel
theorem dX7_takes_25 : decode cX7_takes 25 = .ok (.putfield 185, 3) := by decide +kernel
theorem dX7_takes_28 : decode cX7_takes 28 = .ok (.iconst 1, 1) := by decide +kernel
theorem dX7_takes_29 : decode cX7_takes 29 = .ok (.ireturn, 1) := by decide +kernel
theorem dX7_takes_30 : decode cX7_takes 30 = .ok (.aload_n 0, 1) := by decide +kernel
theorem dX7_takes_31 : decode cX7_takes 31 = .ok (.getfield 185, 3) := by decide +kernel
theorem dX7_takes_34 : decode cX7_takes 34 = .ok (.tableswitch 88 0 8 #[50, 56, 64, 72, 78, 88, 88, 88, 86], 50) := by decide +kernel
theorem dX7_takes_84 : decode cX7_takes 84 = .ok (.aload_n 0, 1) := by decide +kernel
theorem dX7_takes_85 : decode cX7_takes 85 = .ok (.iload_n 1, 1) := by decide +kernel
theorem dX7_takes_86 : decode cX7_takes 86 = .ok (.invokevirtual 192, 3) := by decide +kernel
theorem dX7_takes_89 : decode cX7_takes 89 = .ok (.ireturn, 1) := by decide +kernel
theorem dX7_takes_90 : decode cX7_takes 90 = .ok (.aload_n 0, 1) := by decide +kernel
theorem dX7_takes_91 : decode cX7_takes 91 = .ok (.iload_n 1, 1) := by decide +kernel
theorem dX7_takes_92 : decode cX7_takes 92 = .ok (.iconst 1, 1) := by decide +kernel
theorem dX7_takes_93 : decode cX7_takes 93 = .ok (.iconst 2, 1) := by decide +kernel
theorem dX7_takes_94 : decode cX7_takes 94 = .ok (.invokevirtual 195, 3) := by decide +kernel
theorem dX7_takes_97 : decode cX7_takes 97 = .ok (.ireturn, 1) := by decide +kernel
theorem dX7_takes_98 : decode cX7_takes 98 = .ok (.aload_n 0, 1) := by decide +kernel
theorem dX7_takes_99 : decode cX7_takes 99 = .ok (.iload_n 1, 1) := by decide +kernel
theorem dX7_takes_100 : decode cX7_takes 100 = .ok (.iconst 2, 1) := by decide +kernel
theorem dX7_takes_101 : decode cX7_takes 101 = .ok (.iconst 3, 1) := by decide +kernel
theorem dX7_takes_102 : decode cX7_takes 102 = .ok (.invokevirtual 195, 3) := by decide +kernel
theorem dX7_takes_105 : decode cX7_takes 105 = .ok (.ireturn, 1) := by decide +kernel
theorem dX7_takes_106 : decode cX7_takes 106 = .ok (.aload_n 0, 1) := by decide +kernel
theorem dX7_takes_107 : decode cX7_takes 107 = .ok (.iload_n 1, 1) := by decide +kernel
theorem dX7_takes_108 : decode cX7_takes 108 = .ok (.invokevirtual 198, 3) := by decide +kernel
theorem dX7_takes_111 : decode cX7_takes 111 = .ok (.ireturn, 1) := by decide +kernel
theorem dX7_takes_112 : decode cX7_takes 112 = .ok (.aload_n 0, 1) := by decide +kernel
theorem dX7_takes_113 : decode cX7_takes 113 = .ok (.iload_n 1, 1) := by decide +kernel
theorem dX7_takes_114 : decode cX7_takes 114 = .ok (.iconst 1, 1) := by decide +kernel
theorem dX7_takes_115 : decode cX7_takes 115 = .ok (.iconst 5, 1) := by decide +kernel
theorem dX7_takes_116 : decode cX7_takes 116 = .ok (.invokevirtual 195, 3) := by decide +kernel
theorem dX7_takes_119 : decode cX7_takes 119 = .ok (.ireturn, 1) := by decide +kernel
theorem dX7_takes_120 : decode cX7_takes 120 = .ok (.iconst 0, 1) := by decide +kernel
theorem dX7_takes_121 : decode cX7_takes 121 = .ok (.ireturn, 1) := by decide +kernel
theorem dX7_takes_122 : decode cX7_takes 122 = .ok (.aload_n 0, 1) := by decide +kernel
theorem dX7_takes_123 : decode cX7_takes 123 = .ok (.iload_n 1, 1) := by decide +kernel
theorem dX7_takes_124 : decode cX7_takes 124 = .ok (.invokevirtual 201, 3) := by decide +kernel
theorem dX7_takes_127 : decode cX7_takes 127 = .ok (.ireturn, 1) := by decide +kernel
theorem dX7_rightLength_0 : decode cX7_rightLength 0 = .ok (.aload_n 0, 1) := by decide +kernel
theorem dX7_rightLength_1 : decode cX7_rightLength 1 = .ok (.iconst 0, 1) := by decide +kernel
theorem dX7_rightLength_2 : decode cX7_rightLength 2 = .ok (.putfield 169, 3) := by decide +kernel
theorem dX7_rightLength_5 : decode cX7_rightLength 5 = .ok (.aload_n 0, 1) := by decide +kernel
theorem dX7_rightLength_6 : decode cX7_rightLength 6 = .ok (.iconst 0, 1) := by decide +kernel
theorem dX7_rightLength_7 : decode cX7_rightLength 7 = .ok (.putfield 185, 3) := by decide +kernel
theorem dX7_rightLength_10 : decode cX7_rightLength 10 = .ok (.iconst 0, 1) := by decide +kernel
theorem dX7_rightLength_11 : decode cX7_rightLength 11 = .ok (.istore_n 1, 1) := by decide +kernel
theorem dX7_rightLength_12 : decode cX7_rightLength 12 = .ok (.iload_n 1, 1) := by decide +kernel
theorem dX7_rightLength_13 : decode cX7_rightLength 13 = .ok (.aload_n 0, 1) := by decide +kernel
theorem dX7_rightLength_14 : decode cX7_rightLength 14 = .ok (.getfield 166, 3) := by decide +kernel
theorem dX7_rightLength_17 : decode cX7_rightLength 17 = .ok (.if_icmp .ge 22, 3) := by decide +kernel
theorem dX7_rightLength_20 : decode cX7_rightLength 20 = .ok (.aload_n 0, 1) := by decide +kernel
theorem dX7_rightLength_21 : decode cX7_rightLength 21 = .ok (.aload_n 0, 1) := by decide +kernel
theorem dX7_rightLength_22 : decode cX7_rightLength 22 = .ok (.getfield 22, 3) := by decide +kernel
theorem dX7_rightLength_25 : decode cX7_rightLength 25 = .ok (.iload_n 1, 1) := by decide +kernel
theorem dX7_rightLength_26 : decode cX7_rightLength 26 = .ok (.iaload, 1) := by decide +kernel
theorem dX7_rightLength_27 : decode cX7_rightLength 27 = .ok (.invokevirtual 204, 3) := by decide +kernel
theorem dX7_rightLength_30 : decode cX7_rightLength 30 = .ok (.ifCond .eq 9, 3) := by decide +kernel
theorem dX7_rightLength_33 : decode cX7_rightLength 33 = .ok (.iinc 1 1, 3) := by decide +kernel
theorem dX7_rightLength_36 : decode cX7_rightLength 36 = .ok (.goto (-24), 3) := by decide +kernel
theorem dX7_rightLength_39 : decode cX7_rightLength 39 = .ok (.iload_n 1, 1) := by decide +kernel
theorem dX7_rightLength_40 : decode cX7_rightLength 40 = .ok (.ireturn, 1) := by decide +kernel
theorem dX7_firstError_0 : decode cX7_firstError 0 = .ok (.aload_n 0, 1) := by decide +kernel
theorem dX7_firstError_1 : decode cX7_firstError 1 = .ok (.iconst 0, 1) := by decide +kernel
theorem dX7_firstError_2 : decode cX7_firstError 2 = .ok (.putfield 41, 3) := by decide +kernel
theorem dX7_firstError_5 : decode cX7_firstError 5 = .ok (.aload_n 0, 1) := by decide +kernel
theorem dX7_firstError_6 : decode cX7_firstError 6 = .ok (.invokevirtual 207, 3) := by decide +kernel
theorem dX7_firstError_9 : decode cX7_firstError 9 = .ok (.ireturn, 1) := by decide +kernel
theorem dX7_canBe_0 : decode cX7_canBe 0 = .ok (.aload_n 0, 1) := by decide +kernel
theorem dX7_canBe_1 : decode cX7_canBe 1 = .ok (.getfield 38, 3) := by decide +kernel
theorem dX7_canBe_4 : decode cX7_canBe 4 = .ok (.iconst 4, 1) := by decide +kernel
theorem dX7_canBe_5 : decode cX7_canBe 5 = .ok (.iload_n 1, 1) := by decide +kernel
theorem dX7_canBe_6 : decode cX7_canBe 6 = .ok (.imul, 1) := by decide +kernel
theorem dX7_canBe_7 : decode cX7_canBe 7 = .ok (.iaload, 1) := by decide +kernel
theorem dX7_canBe_8 : decode cX7_canBe 8 = .ok (.istore_n 2, 1) := by decide +kernel
theorem dX7_canBe_9 : decode cX7_canBe 9 = .ok (.aload_n 0, 1) := by decide +kernel
theorem dX7_canBe_10 : decode cX7_canBe 10 = .ok (.getfield 38, 3) := by decide +kernel
theorem dX7_canBe_13 : decode cX7_canBe 13 = .ok (.iconst 4, 1) := by decide +kernel
theorem dX7_canBe_14 : decode cX7_canBe 14 = .ok (.iload_n 1, 1) := by decide +kernel
theorem dX7_canBe_15 : decode cX7_canBe 15 = .ok (.imul, 1) := by decide +kernel
theorem dX7_canBe_16 : decode cX7_canBe 16 = .ok (.iconst 1, 1) := by decide +kernel
theorem dX7_canBe_17 : decode cX7_canBe 17 = .ok (.iadd, 1) := by decide +kernel
theorem dX7_canBe_18 : decode cX7_canBe 18 = .ok (.iaload, 1) := by decide +kernel
theorem dX7_canBe_19 : decode cX7_canBe 19 = .ok (.istore_n 3, 1) := by decide +kernel
theorem dX7_canBe_20 : decode cX7_canBe 20 = .ok (.aload_n 0, 1) := by decide +kernel
theorem dX7_canBe_21 : decode cX7_canBe 21 = .ok (.getfield 38, 3) := by decide +kernel
theorem dX7_canBe_24 : decode cX7_canBe 24 = .ok (.iconst 4, 1) := by decide +kernel
theorem dX7_canBe_25 : decode cX7_canBe 25 = .ok (.iload_n 1, 1) := by decide +kernel
theorem dX7_canBe_26 : decode cX7_canBe 26 = .ok (.imul, 1) := by decide +kernel
theorem dX7_canBe_27 : decode cX7_canBe 27 = .ok (.iconst 2, 1) := by decide +kernel
theorem dX7_canBe_28 : decode cX7_canBe 28 = .ok (.iadd, 1) := by decide +kernel
theorem dX7_canBe_29 : decode cX7_canBe 29 = .ok (.iaload, 1) := by decide +kernel
theorem dX7_canBe_30 : decode cX7_canBe 30 = .ok (.istore 4, 2) := by decide +kernel
theorem dX7_canBe_32 : decode cX7_canBe 32 = .ok (.aload_n 0, 1) := by decide +kernel
theorem dX7_canBe_33 : decode cX7_canBe 33 = .ok (.getfield 38, 3) := by decide +kernel
theorem dX7_canBe_36 : decode cX7_canBe 36 = .ok (.iconst 4, 1) := by decide +kernel
theorem dX7_canBe_37 : decode cX7_canBe 37 = .ok (.iload_n 1, 1) := by decide +kernel
theorem dX7_canBe_38 : decode cX7_canBe 38 = .ok (.imul, 1) := by decide +kernel
theorem dX7_canBe_39 : decode cX7_canBe 39 = .ok (.iconst 3, 1) := by decide +kernel
theorem dX7_canBe_40 : decode cX7_canBe 40 = .ok (.iadd, 1) := by decide +kernel
theorem dX7_canBe_41 : decode cX7_canBe 41 = .ok (.iaload, 1) := by decide +kernel
theorem dX7_canBe_42 : decode cX7_canBe 42 = .ok (.istore 5, 2) := by decide +kernel
theorem dX7_canBe_44 : decode cX7_canBe 44 = .ok (.iload_n 2, 1) := by decide +kernel
theorem dX7_canBe_45 : decode cX7_canBe 45 = .ok (.iconst 1, 1) := by decide +kernel
theorem dX7_canBe_46 : decode cX7_canBe 46 = .ok (.if_icmp .ne 13, 3) := by decide +kernel
theorem dX7_canBe_49 : decode cX7_canBe 49 = .ok (.iload_n 3, 1) := by decide +kernel
theorem dX7_canBe_50 : decode cX7_canBe 50 = .ok (.ifCond .eq 7, 3) := by decide +kernel
theorem dX7_canBe_53 : decode cX7_canBe 53 = .ok (.iconst 1, 1) := by decide +kernel
theorem dX7_canBe_54 : decode cX7_canBe 54 = .ok (.goto 4, 3) := by decide +kernel
theorem dX7_canBe_57 : decode cX7_canBe 57 = .ok (.iconst 0, 1) := by decide +kernel
theorem dX7_canBe_58 : decode cX7_canBe 58 = .ok (.ireturn, 1) := by decide +kernel
theorem dX7_canBe_59 : decode cX7_canBe 59 = .ok (.iload_n 3, 1) := by decide +kernel
theorem dX7_canBe_60 : decode cX7_canBe 60 = .ok (.iload 4, 2) := by decide +kernel
theorem dX7_canBe_62 : decode cX7_canBe 62 = .ok (.if_icmp .eq 29, 3) := by decide +kernel
theorem dX7_canBe_65 : decode cX7_canBe 65 = .ok (.iload_n 2, 1) := by decide +kernel
theorem dX7_canBe_66 : decode cX7_canBe 66 = .ok (.ifCond .eq 21, 3) := by decide +kernel
theorem dX7_canBe_69 : decode cX7_canBe 69 = .ok (.iload 5, 2) := by decide +kernel
theorem dX7_canBe_71 : decode cX7_canBe 71 = .ok (.ifCond .eq 20, 3) := by decide +kernel
theorem dX7_canBe_74 : decode cX7_canBe 74 = .ok (.iload 5, 2) := by decide +kernel
