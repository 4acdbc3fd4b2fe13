theorem dX0_init_0 : decode cX0_init 0 = .ok (.aload_n 0, 1) := by decide +kernel
theorem dX0_init_1 : decode cX0_init 1 = .ok (.invokespecial 3, 3) := by decide +kernel
theorem dX0_init_4 : decode cX0_init 4 = .ok (.aload_n 0, 1) := by decide +kernel
theorem dX0_init_5 : decode cX0_init 5 = .ok (.bipush 30, 2) := by decide +kernel
theorem dX0_init_7 : decode cX0_init 7 = .ok (.newarray .long, 2) := by decide +kernel
theorem dX0_init_9 : decode cX0_init 9 = .ok (.putfield 9, 3) := by decide +kernel
theorem dX0_init_12 : decode cX0_init 12 = .ok (.aload_n 0, 1) := by decide +kernel
theorem dX0_init_13 : decode cX0_init 13 = .ok (.bipush 30, 2) := by decide +kernel
theorem dX0_init_15 : decode cX0_init 15 = .ok (.newarray .long, 2) := by decide +kernel
theorem dX0_init_17 : decode cX0_init 17 = .ok (.putfield 15, 3) := by decide +kernel
theorem dX0_init_20 : decode cX0_init 20 = .ok (.aload_n 0, 1) := by decide +kernel
theorem dX0_init_21 : decode cX0_init 21 = .ok (.aload_n 1, 1) := by decide +kernel
theorem dX0_init_22 : decode cX0_init 22 = .ok (.putfield 18, 3) := by decide +kernel
theorem dX0_init_25 : decode cX0_init 25 = .ok (.return_, 1) := by decide +kernel
theorem dX0_fromWeights_0 : decode cX0_fromWeights 0 = .ok (.iload_n 1, 1) := by decide +kernel
theorem dX0_fromWeights_1 : decode cX0_fromWeights 1 = .ok (.ifCond .ne 13, 3) := by decide +kernel
theorem dX0_fromWeights_4 : decode cX0_fromWeights 4 = .ok (.aload_n 2, 1) := by decide +kernel
theorem dX0_fromWeights_5 : decode cX0_fromWeights 5 = .ok (.iconst 0, 1) := by decide +kernel
theorem dX0_fromWeights_6 : decode cX0_fromWeights 6 = .ok (.aload_n 3, 1) := by decide +kernel
theorem dX0_fromWeights_7 : decode cX0_fromWeights 7 = .ok (.iconst 0, 1) := by decide +kernel
theorem dX0_fromWeights_8 : decode cX0_fromWeights 8 = .ok (.bipush 30, 2) := by decide +kernel
theorem dX0_fromWeights_10 : decode cX0_fromWeights 10 = .ok (.invokestatic 22, 3) := by decide +kernel
theorem dX0_fromWeights_13 : decode cX0_fromWeights 13 = .ok (.return_, 1) := by decide +kernel
theorem dX0_fromWeights_14 : decode cX0_fromWeights 14 = .ok (.aload_n 0, 1) := by decide +kernel
theorem dX0_fromWeights_15 : decode cX0_fromWeights 15 = .ok (.aload_n 2, 1) := by decide +kernel
theorem dX0_fromWeights_16 : decode cX0_fromWeights 16 = .ok (.aload_n 0, 1) := by decide +kernel
theorem dX0_fromWeights_17 : decode cX0_fromWeights 17 = .ok (.getfield 9, 3) := by decide +kernel
theorem dX0_fromWeights_20 : decode cX0_fromWeights 20 = .ok (.invokevirtual 28, 3) := by decide +kernel
theorem dX0_fromWeights_23 : decode cX0_fromWeights 23 = .ok (.iload_n 1, 1) := by decide +kernel
theorem dX0_fromWeights_24 : decode cX0_fromWeights 24 = .ok (.iconst 1, 1) := by decide +kernel
theorem dX0_fromWeights_25 : decode cX0_fromWeights 25 = .ok (.if_icmp .ne 27, 3) := by decide +kernel
theorem dX0_fromWeights_28 : decode cX0_fromWeights 28 = .ok (.aload_n 0, 1) := by decide +kernel
theorem dX0_fromWeights_29 : decode cX0_fromWeights 29 = .ok (.aload_n 0, 1) := by decide +kernel
theorem dX0_fromWeights_30 : decode cX0_fromWeights 30 = .ok (.getfield 9, 3) := by decide +kernel
theorem dX0_fromWeights_33 : decode cX0_fromWeights 33 = .ok (.aload_n 0, 1) := by decide +kernel
theorem dX0_fromWeights_34 : decode cX0_fromWeights 34 = .ok (.getfield 15, 3) := by decide +kernel
theorem dX0_fromWeights_37 : decode cX0_fromWeights 37 = .ok (.invokevirtual 32, 3) := by decide +kernel
theorem dX0_fromWeights_40 : decode cX0_fromWeights 40 = .ok (.aload_n 0, 1) := by decide +kernel
theorem dX0_fromWeights_41 : decode cX0_fromWeights 41 = .ok (.aload_n 0, 1) := by decide +kernel
theorem dX0_fromWeights_42 : decode cX0_fromWeights 42 = .ok (.getfield 15, 3) := by decide +kernel
theorem dX0_fromWeights_45 : decode cX0_fromWeights 45 = .ok (.aload_n 3, 1) := by decide +kernel
theorem dX0_fromWeights_46 : decode cX0_fromWeights 46 = .ok (.invokevirtual 35, 3) := by decide +kernel
theorem dX0_fromWeights_49 : decode cX0_fromWeights 49 = .ok (.goto 49, 3) := by decide +kernel
theorem dX0_fromWeights_52 : decode cX0_fromWeights 52 = .ok (.iload_n 1, 1) := by decide +kernel
theorem dX0_fromWeights_53 : decode cX0_fromWeights 53 = .ok (.iconst 2, 1) := by decide +kernel
theorem dX0_fromWeights_54 : decode cX0_fromWeights 54 = .ok (.if_icmp .ne 15, 3) := by decide +kernel
theorem dX0_fromWeights_57 : decode cX0_fromWeights 57 = .ok (.aload_n 0, 1) := by decide +kernel
theorem dX0_fromWeights_58 : decode cX0_fromWeights 58 = .ok (.aload_n 0, 1) := by decide +kernel
theorem dX0_fromWeights_59 : decode cX0_fromWeights 59 = .ok (.getfield 9, 3) := by decide +kernel
theorem dX0_fromWeights_62 : decode cX0_fromWeights 62 = .ok (.aload_n 3, 1) := by decide +kernel
theorem dX0_fromWeights_63 : decode cX0_fromWeights 63 = .ok (.invokevirtual 35, 3) := by decide +kernel
theorem dX0_fromWeights_66 : decode cX0_fromWeights 66 = .ok (.goto 32, 3) := by decide +kernel
theorem dX0_fromWeights_69 : decode cX0_fromWeights 69 = .ok (.iload_n 1, 1) := by decide +kernel
theorem dX0_fromWeights_70 : decode cX0_fromWeights 70 = .ok (.iconst 3, 1) := by decide +kernel
theorem dX0_fromWeights_71 : decode cX0_fromWeights 71 = .ok (.if_icmp .ne 15, 3) := by decide +kernel
theorem dX0_fromWeights_74 : decode cX0_fromWeights 74 = .ok (.aload_n 0, 1) := by decide +kernel
theorem dX0_fromWeights_75 : decode cX0_fromWeights 75 = .ok (.aload_n 0, 1) := by decide +kernel
theorem dX0_fromWeights_76 : decode cX0_fromWeights 76 = .ok (.getfield 9, 3) := by decide +kernel
theorem dX0_fromWeights_79 : decode cX0_fromWeights 79 = .ok (.aload_n 3, 1) := by decide +kernel
theorem dX0_fromWeights_80 : decode cX0_fromWeights 80 = .ok (.invokevirtual 38, 3) := by decide +kernel
theorem dX0_fromWeights_83 : decode cX0_fromWeights 83 = .ok (.goto 15, 3) := by decide +kernel
theorem dX0_fromWeights_86 : decode cX0_fromWeights 86 = .ok (.aload_n 0, 1) := by decide +kernel
theorem dX0_fromWeights_87 : decode cX0_fromWeights 87 = .ok (.getfield 9, 3) := by decide +kernel
theorem dX0_fromWeights_90 : decode cX0_fromWeights 90 = .ok (.iconst 0, 1) := by decide +kernel
theorem dX0_fromWeights_91 : decode cX0_fromWeights 91 = .ok (.aload_n 3, 1) := by decide +kernel
theorem dX0_fromWeights_92 : decode cX0_fromWeights 92 = .ok (.iconst 0, 1) := by decide +kernel
theorem dX0_fromWeights_93 : decode cX0_fromWeights 93 = .ok (.bipush 30, 2) := by decide +kernel
theorem dX0_fromWeights_95 : decode cX0_fromWeights 95 = .ok (.invokestatic 22, 3) := by decide +kernel
theorem dX0_fromWeights_98 : decode cX0_fromWeights 98 = .ok (.return_, 1) := by decide +kernel
theorem dX0_toWeights_0 : decode cX0_toWeights 0 = .ok (.iload_n 1, 1) := by decide +kernel
theorem dX0_toWeights_1 : decode cX0_toWeights 1 = .ok (.ifCond .ne 13, 3) := by decide +kernel
theorem dX0_toWeights_4 : decode cX0_toWeights 4 = .ok (.aload_n 2, 1) := by decide +kernel
theorem dX0_toWeights_5 : decode cX0_toWeights 5 = .ok (.iconst 0, 1) := by decide +kernel
theorem dX0_toWeights_6 : decode cX0_toWeights 6 = .ok (.aload_n 3, 1) := by decide +kernel
theorem dX0_toWeights_7 : decode cX0_toWeights 7 = .ok (.iconst 0, 1) := by decide +kernel
theorem dX0_toWeights_8 : decode cX0_toWeights 8 = .ok (.bipush 30, 2) := by decide +kernel
theorem dX0_toWeights_10 : decode cX0_toWeights 10 = .ok (.invokestatic 22, 3) := by decide +kernel
theorem dX0_toWeights_13 : decode cX0_toWeights 13 = .ok (.return_, 1) := by decide +kernel
theorem dX0_toWeights_14 : decode cX0_toWeights 14 = .ok (.iload_n 1, 1) := by decide +kernel
theorem dX0_toWeights_15 : decode cX0_toWeights 15 = .ok (.iconst 1, 1) := by decide +kernel
theorem dX0_toWeights_16 : decode cX0_toWeights 16 = .ok (.if_icmp .ne 27, 3) := by decide +kernel
theorem dX0_toWeights_19 : decode cX0_toWeights 19 = .ok (.aload_n 0, 1) := by decide +kernel
theorem dX0_toWeights_20 : decode cX0_toWeights 20 = .ok (.aload_n 2, 1) := by decide +kernel
theorem dX0_toWeights_21 : decode cX0_toWeights 21 = .ok (.aload_n 0, 1) := by decide +kernel
theorem dX0_toWeights_22 : decode cX0_toWeights 22 = .ok (.getfield 15, 3) := by decide +kernel
theorem dX0_toWeights_25 : decode cX0_toWeights 25 = .ok (.invokevirtual 41, 3) := by decide +kernel
theorem dX0_toWeights_28 : decode cX0_toWeights 28 = .ok (.aload_n 0, 1) := by decide +kernel
theorem dX0_toWeights_29 : decode cX0_toWeights 29 = .ok (.aload_n 0, 1) := by decide +kernel
theorem dX0_toWeights_30 : decode cX0_toWeights 30 = .ok (.getfield 15, 3) := by decide +kernel
theorem dX0_toWeights_33 : decode cX0_toWeights 33 = .ok (.aload_n 0, 1) := by decide +kernel
theorem dX0_toWeights_34 : decode cX0_toWeights 34 = .ok (.getfield 9, 3) := by decide +kernel
theorem dX0_toWeights_37 : decode cX0_toWeights 37 = .ok (.invokevirtual 32, 3) := by decide +kernel
theorem dX0_toWeights_40 : decode cX0_toWeights 40 = .ok (.goto 49, 3) := by decide +kernel
theorem dX0_toWeights_43 : decode cX0_toWeights 43 = .ok (.iload_n 1, 1) := by decide +kernel
theorem dX0_toWeights_44 : decode cX0_toWeights 44 = .ok (.iconst 2, 1) := by decide +kernel
theorem dX0_toWeights_45 : decode cX0_toWeights 45 = .ok (.if_icmp .ne 15, 3) := by decide +kernel
theorem dX0_toWeights_48 : decode cX0_toWeights 48 = .ok (.aload_n 0, 1) := by decide +kernel
theorem dX0_toWeights_49 : decode cX0_toWeights 49 = .ok (.aload_n 2, 1) := by decide +kernel
theorem dX0_toWeights_50 : decode cX0_toWeights 50 = .ok (.aload_n 0, 1) := by decide +kernel
theorem dX0_toWeights_51 : decode cX0_toWeights 51 = .ok (.getfield 9, 3) := by decide +kernel
theorem dX0_toWeights_54 : decode cX0_toWeights 54 = .ok (.invokevirtual 41, 3) := by decide +kernel
theorem dX0_toWeights_57 : decode cX0_toWeights 57 = .ok (.goto 32, 3) := by decide +kernel
theorem dX0_toWeights_60 : decode cX0_toWeights 60 = .ok (.iload_n 1, 1) := by decide +kernel
theorem dX0_toWeights_61 : decode cX0_toWeights 61 = .ok (.iconst 3, 1) := by decide +kernel
theorem dX0_toWeights_62 : decode cX0_toWeights 62 = .ok (.if_icmp .ne 15, 3) := by decide +kernel
theorem dX0_toWeights_65 : decode cX0_toWeights 65 = .ok (.aload_n 0, 1) := by decide +kernel
theorem dX0_toWeights_66 : decode cX0_toWeights 66 = .ok (.aload_n 2, 1) := by decide +kernel
theorem dX0_toWeights_67 : decode cX0_toWeights 67 = .ok (.aload_n 0, 1) := by decide +kernel
theorem dX0_toWeights_68 : decode cX0_toWeights 68 = .ok (.getfield 9, 3) := by decide +kernel
theorem dX0_toWeights_71 : decode cX0_toWeights 71 = .ok (.invokevirtual 44, 3) := by decide +kernel
theorem dX0_toWeights_74 : decode cX0_toWeights 74 = .ok (.goto 15, 3) := by decide +kernel
theorem dX0_toWeights_77 : decode cX0_toWeights 77 = .ok (.aload_n 2, 1) := by decide +kernel
theorem dX0_toWeights_78 : decode cX0_toWeights 78 = .ok (.iconst 0, 1) := by decide +kernel
theorem dX0_toWeights_79 : decode cX0_toWeights 79 = .ok (.aload_n 0, 1) := by decide +kernel
theorem dX0_toWeights_80 : decode cX0_toWeights 80 = .ok (.getfield 9, 3) := by decide +kernel
theorem dX0_toWeights_83 : decode cX0_toWeights 83 = .ok (.iconst 0, 1) := by decide +kernel
theorem dX0_toWeights_84 : decode cX0_toWeights 84 = .ok (.bipush 30, 2) := by decide +kernel
theorem dX0_toWeights_86 : decode cX0_toWeights 86 = .ok (.invokestatic 22, 3) := by decide +kernel
theorem dX0_toWeights_89 : decode cX0_toWeights 89 = .ok (.aload_n 0, 1) := by decide +kernel
theorem dX0_toWeights_90 : decode cX0_toWeights 90 = .ok (.aload_n 0, 1) := by decide +kernel
theorem dX0_toWeights_91 : decode cX0_toWeights 91 = .ok (.getfield 9, 3) := by decide +kernel
theorem dX0_toWeights_94 : decode cX0_toWeights 94 = .ok (.aload_n 3, 1) := by decide +kernel
theorem dX0_toWeights_95 : decode cX0_toWeights 95 = .ok (.invokevirtual 47, 3) := by decide +kernel
theorem dX0_toWeights_98 : decode cX0_toWeights 98 = .ok (.return_, 1) := by decide +kernel
theorem dX0_startFor_0 : decode cX0_startFor 0 = .ok (.aload_n 0, 1) := by decide +kernel
theorem dX0_startFor_1 : decode cX0_startFor 1 = .ok (.getfield 18, 3) := by decide +kernel
theorem dX0_startFor_4 : decode cX0_startFor 4 = .ok (.getfield 50, 3) := by decide +kernel
theorem dX0_startFor_7 : decode cX0_startFor 7 = .ok (.iload_n 1, 1) := by decide +kernel
theorem dX0_startFor_8 : decode cX0_startFor 8 = .ok (.iaload, 1) := by decide +kernel
theorem dX0_startFor_9 : decode cX0_startFor 9 = .ok (.invokestatic 56, 3) := by decide +kernel
theorem dX0_startFor_12 : decode cX0_startFor 12 = .ok (.ireturn, 1) := by decide +kernel
theorem dX0_endFor_0 : decode cX0_endFor 0 = .ok (.aload_n 0, 1) := by decide +kernel
theorem dX0_endFor_1 : decode cX0_endFor 1 = .ok (.getfield 18, 3) := by decide +kernel
theorem dX0_endFor_4 : decode cX0_endFor 4 = .ok (.getfield 50, 3) := by decide +kernel
theorem dX0_endFor_7 : decode cX0_endFor 7 = .ok (.iload_n 1, 1) := by decide +kernel
theorem dX0_endFor_8 : decode cX0_endFor 8 = .ok (.iaload, 1) := by decide +kernel
theorem dX0_endFor_9 : decode cX0_endFor 9 = .ok (.invokestatic 60, 3) := by decide +kernel
theorem dX0_endFor_12 : decode cX0_endFor 12 = .ok (.ireturn, 1) := by decide +kernel
theorem dX0_tableauxToWeights_0 : decode cX0_tableauxToWeights 0 = .ok (.iconst 0, 1) := by decide +kernel
theorem dX0_tableauxToWeights_1 : decode cX0_tableauxToWeights 1 = .ok (.istore_n 3, 1) := by decide +kernel
theorem dX0_tableauxToWeights_2 : decode cX0_tableauxToWeights 2 = .ok (.iload_n 3, 1) := by decide +kernel
theorem dX0_tableauxToWeights_3 : decode cX0_tableauxToWeights 3 = .ok (.bipush 30, 2) := by decide +kernel
theorem dX0_tableauxToWeights_5 : decode cX0_tableauxToWeights 5 = .ok (.if_icmp .ge 57, 3) := by decide +kernel
theorem dX0_tableauxToWeights_8 : decode cX0_tableauxToWeights 8 = .ok (.lconst 0, 1) := by decide +kernel
theorem dX0_tableauxToWeights_9 : decode cX0_tableauxToWeights 9 = .ok (.lstore 4, 2) := by decide +kernel
theorem dX0_tableauxToWeights_11 : decode cX0_tableauxToWeights 11 = .ok (.aload_n 0, 1) := by decide +kernel
theorem dX0_tableauxToWeights_12 : decode cX0_tableauxToWeights 12 = .ok (.iload_n 3, 1) := by decide +kernel
theorem dX0_tableauxToWeights_13 : decode cX0_tableauxToWeights 13 = .ok (.invokevirtual 63, 3) := by decide +kernel
theorem dX0_tableauxToWeights_16 : decode cX0_tableauxToWeights 16 = .ok (.istore 6, 2) := by decide +kernel
theorem dX0_tableauxToWeights_18 : decode cX0_tableauxToWeights 18 = .ok (.iload 6, 2) := by decide +kernel
theorem dX0_tableauxToWeights_20 : decode cX0_tableauxToWeights 20 = .ok (.iload_n 3, 1) := by decide +kernel
theorem dX0_tableauxToWeights_21 : decode cX0_tableauxToWeights 21 = .ok (.if_icmp .gt 30, 3) := by decide +kernel
theorem dX0_tableauxToWeights_24 : decode cX0_tableauxToWeights 24 = .ok (.lload 4, 2) := by decide +kernel
theorem dX0_tableauxToWeights_26 : decode cX0_tableauxToWeights 26 = .ok (.aload_n 1, 1) := by decide +kernel
theorem dX0_tableauxToWeights_27 : decode cX0_tableauxToWeights 27 = .ok (.iload 6, 2) := by decide +kernel
theorem dX0_tableauxToWeights_29 : decode cX0_tableauxToWeights 29 = .ok (.laload, 1) := by decide +kernel
theorem dX0_tableauxToWeights_30 : decode cX0_tableauxToWeights 30 = .ok (.aload_n 0, 1) := by decide +kernel
theorem dX0_tableauxToWeights_31 : decode cX0_tableauxToWeights 31 = .ok (.getfield 18, 3) := by decide +kernel
theorem dX0_tableauxToWeights_34 : decode cX0_tableauxToWeights 34 = .ok (.iload 6, 2) := by decide +kernel
theorem dX0_tableauxToWeights_36 : decode cX0_tableauxToWeights 36 = .ok (.iload_n 3, 1) := by decide +kernel
theorem dX0_tableauxToWeights_37 : decode cX0_tableauxToWeights 37 = .ok (.invokevirtual 66, 3) := by decide +kernel
theorem dX0_tableauxToWeights_40 : decode cX0_tableauxToWeights 40 = .ok (.i2l, 1) := by decide +kernel
theorem dX0_tableauxToWeights_41 : decode cX0_tableauxToWeights 41 = .ok (.lmul, 1) := by decide +kernel
theorem dX0_tableauxToWeights_42 : decode cX0_tableauxToWeights 42 = .ok (.ladd, 1) := by decide +kernel
theorem dX0_tableauxToWeights_43 : decode cX0_tableauxToWeights 43 = .ok (.lstore 4, 2) := by decide +kernel
theorem dX0_tableauxToWeights_45 : decode cX0_tableauxToWeights 45 = .ok (.iinc 6 1, 3) := by decide +kernel
theorem dX0_tableauxToWeights_48 : decode cX0_tableauxToWeights 48 = .ok (.goto (-30), 3) := by decide +kernel
theorem dX0_tableauxToWeights_51 : decode cX0_tableauxToWeights 51 = .ok (.aload_n 2, 1) := by decide +kernel
theorem dX0_tableauxToWeights_52 : decode cX0_tableauxToWeights 52 = .ok (.iload_n 3, 1) := by decide +kernel
theorem dX0_tableauxToWeights_53 : decode cX0_tableauxToWeights 53 = .ok (.lload 4, 2) := by decide +kernel
theorem dX0_tableauxToWeights_55 : decode cX0_tableauxToWeights 55 = .ok (.lastore, 1) := by decide +kernel
theorem dX0_tableauxToWeights_56 : decode cX0_tableauxToWeights 56 = .ok (.iinc 3 1, 3) := by decide +kernel
theorem dX0_tableauxToWeights_59 : decode cX0_tableauxToWeights 59 = .ok (.goto (-57), 3) := by decide +kernel
theorem dX0_tableauxToWeights_62 : decode cX0_tableauxToWeights 62 = .ok (.return_, 1) := by decide +kernel
theorem dX0_weightsToTableaux_0 : decode cX0_weightsToTableaux 0 = .ok (.iconst 0, 1) := by decide +kernel
theorem dX0_weightsToTableaux_1 : decode cX0_weightsToTableaux 1 = .ok (.istore_n 3, 1) := by decide +kernel
theorem dX0_weightsToTableaux_2 : decode cX0_weightsToTableaux 2 = .ok (.iload_n 3, 1) := by decide +kernel
theorem dX0_weightsToTableaux_3 : decode cX0_weightsToTableaux 3 = .ok (.bipush 30, 2) := by decide +kernel
theorem dX0_weightsToTableaux_5 : decode cX0_weightsToTableaux 5 = .ok (.if_icmp .ge 59, 3) := by decide +kernel
theorem dX0_weightsToTableaux_8 : decode cX0_weightsToTableaux 8 = .ok (.aload_n 1, 1) := by decide +kernel
theorem dX0_weightsToTableaux_9 : decode cX0_weightsToTableaux 9 = .ok (.iload_n 3, 1) := by decide +kernel
theorem dX0_weightsToTableaux_10 : decode cX0_weightsToTableaux 10 = .ok (.laload, 1) := by decide +kernel
theorem dX0_weightsToTableaux_11 : decode cX0_weightsToTableaux 11 = .ok (.lstore 4, 2) := by decide +kernel
theorem dX0_weightsToTableaux_13 : decode cX0_weightsToTableaux 13 = .ok (.aload_n 0, 1) := by decide +kernel
theorem dX0_weightsToTableaux_14 : decode cX0_weightsToTableaux 14 = .ok (.iload_n 3, 1) := by decide +kernel
theorem dX0_weightsToTableaux_15 : decode cX0_weightsToTableaux 15 = .ok (.invokevirtual 63, 3) := by decide +kernel
theorem dX0_weightsToTableaux_18 : decode cX0_weightsToTableaux 18 = .ok (.istore 6, 2) := by decide +kernel
theorem dX0_weightsToTableaux_20 : decode cX0_weightsToTableaux 20 = .ok (.iload 6, 2) := by decide +kernel
theorem dX0_weightsToTableaux_22 : decode cX0_weightsToTableaux 22 = .ok (.iload_n 3, 1) := by decide +kernel
theorem dX0_weightsToTableaux_23 : decode cX0_weightsToTableaux 23 = .ok (.if_icmp .ge 30, 3) := by decide +kernel
theorem dX0_weightsToTableaux_26 : decode cX0_weightsToTableaux 26 = .ok (.lload 4, 2) := by decide +kernel
theorem dX0_weightsToTableaux_28 : decode cX0_weightsToTableaux 28 = .ok (.aload_n 2, 1) := by decide +kernel
theorem dX0_weightsToTableaux_29 : decode cX0_weightsToTableaux 29 = .ok (.iload 6, 2) := by decide +kernel
theorem dX0_weightsToTableaux_31 : decode cX0_weightsToTableaux 31 = .ok (.laload, 1) := by decide +kernel
theorem dX0_weightsToTableaux_32 : decode cX0_weightsToTableaux 32 = .ok (.aload_n 0, 1) := by decide +kernel
theorem dX0_weightsToTableaux_33 : decode cX0_weightsToTableaux 33 = .ok (.getfield 18, 3) := by decide +kernel
theorem dX0_weightsToTableaux_36 : decode cX0_weightsToTableaux 36 = .ok (.iload 6, 2) := by decide +kernel
theorem dX0_weightsToTableaux_38 : decode cX0_weightsToTableaux 38 = .ok (.iload_n 3, 1) := by decide +kernel
theorem dX0_weightsToTableaux_39 : decode cX0_weightsToTableaux 39 = .ok (.invokevirtual 66, 3) := by decide +kernel
theorem dX0_weightsToTableaux_42 : decode cX0_weightsToTableaux 42 = .ok (.i2l, 1) := by decide +kernel
theorem dX0_weightsToTableaux_43 : decode cX0_weightsToTableaux 43 = .ok (.lmul, 1) := by decide +kernel
theorem dX0_weightsToTableaux_44 : decode cX0_weightsToTableaux 44 = .ok (.lsub, 1) := by decide +kernel
theorem dX0_weightsToTableaux_45 : decode cX0_weightsToTableaux 45 = .ok (.lstore 4, 2) := by decide +kernel
theorem dX0_weightsToTableaux_47 : decode cX0_weightsToTableaux 47 = .ok (.iinc 6 1, 3) := by decide +kernel
theorem dX0_weightsToTableaux_50 : decode cX0_weightsToTableaux 50 = .ok (.goto (-30), 3) := by decide +kernel
theorem dX0_weightsToTableaux_53 : decode cX0_weightsToTableaux 53 = .ok (.aload_n 2, 1) := by decide +kernel
theorem dX0_weightsToTableaux_54 : decode cX0_weightsToTableaux 54 = .ok (.iload_n 3, 1) := by decide +kernel
theorem dX0_weightsToTableaux_55 : decode cX0_weightsToTableaux 55 = .ok (.lload 4, 2) := by decide +kernel
theorem dX0_weightsToTableaux_57 : decode cX0_weightsToTableaux 57 = .ok (.lastore, 1) := by decide +kernel
theorem dX0_weightsToTableaux_58 : decode cX0_weightsToTableaux 58 = .ok (.iinc 3 1, 3) := by decide +kernel
theorem dX0_weightsToTableaux_61 : decode cX0_weightsToTableaux 61 = .ok (.goto (-59), 3) := by decide +kernel
theorem dX0_weightsToTableaux_64 : decode cX0_weightsToTableaux 64 = .ok (.return_, 1) := by decide +kernel
theorem dX0_completesToTableaux_0 : decode cX0_completesToTableaux 0 = .ok (.iconst 0, 1) := by decide +kernel
theorem dX0_completesToTableaux_1 : decode cX0_completesToTableaux 1 = .ok (.istore_n 3, 1) := by decide +kernel
theorem dX0_completesToTableaux_2 : decode cX0_completesToTableaux 2 = .ok (.iload_n 3, 1) := by decide +kernel
theorem dX0_completesToTableaux_3 : decode cX0_completesToTableaux 3 = .ok (.bipush 30, 2) := by decide +kernel
theorem dX0_completesToTableaux_5 : decode cX0_completesToTableaux 5 = .ok (.if_icmp .ge 57, 3) := by decide +kernel
theorem dX0_completesToTableaux_8 : decode cX0_completesToTableaux 8 = .ok (.lconst 0, 1) := by decide +kernel
theorem dX0_completesToTableaux_9 : decode cX0_completesToTableaux 9 = .ok (.lstore 4, 2) := by decide +kernel
theorem dX0_completesToTableaux_11 : decode cX0_completesToTableaux 11 = .ok (.iload_n 3, 1) := by decide +kernel
theorem dX0_completesToTableaux_12 : decode cX0_completesToTableaux 12 = .ok (.istore 6, 2) := by decide +kernel
theorem dX0_completesToTableaux_14 : decode cX0_completesToTableaux 14 = .ok (.iload 6, 2) := by decide +kernel
theorem dX0_completesToTableaux_16 : decode cX0_completesToTableaux 16 = .ok (.aload_n 0, 1) := by decide +kernel
theorem dX0_completesToTableaux_17 : decode cX0_completesToTableaux 17 = .ok (.iload_n 3, 1) := by decide +kernel
theorem dX0_completesToTableaux_18 : decode cX0_completesToTableaux 18 = .ok (.invokevirtual 70, 3) := by decide +kernel
theorem dX0_completesToTableaux_21 : decode cX0_completesToTableaux 21 = .ok (.if_icmp .ge 30, 3) := by decide +kernel
theorem dX0_completesToTableaux_24 : decode cX0_completesToTableaux 24 = .ok (.lload 4, 2) := by decide +kernel
theorem dX0_completesToTableaux_26 : decode cX0_completesToTableaux 26 = .ok (.aload_n 1, 1) := by decide +kernel
theorem dX0_completesToTableaux_27 : decode cX0_completesToTableaux 27 = .ok (.iload 6, 2) := by decide +kernel
theorem dX0_completesToTableaux_29 : decode cX0_completesToTableaux 29 = .ok (.laload, 1) := by decide +kernel
theorem dX0_completesToTableaux_30 : decode cX0_completesToTableaux 30 = .ok (.aload_n 0, 1) := by decide +kernel
theorem dX0_completesToTableaux_31 : decode cX0_completesToTableaux 31 = .ok (.getfield 18, 3) := by decide +kernel
theorem dX0_completesToTableaux_34 : decode cX0_completesToTableaux 34 = .ok (.iload_n 3, 1) := by decide +kernel
theorem dX0_completesToTableaux_35 : decode cX0_completesToTableaux 35 = .ok (.iload 6, 2) := by decide +kernel
theorem dX0_completesToTableaux_37 : decode cX0_completesToTableaux 37 = .ok (.invokevirtual 66, 3) := by decide +kernel
theorem dX0_completesToTableaux_40 : decode cX0_completesToTableaux 40 = .ok (.i2l, 1) := by decide +kernel
theorem dX0_completesToTableaux_41 : decode cX0_completesToTableaux 41 = .ok (.lmul, 1) := by decide +kernel
theorem dX0_completesToTableaux_42 : decode cX0_completesToTableaux 42 = .ok (.ladd, 1) := by decide +kernel
theorem dX0_completesToTableaux_43 : decode cX0_completesToTableaux 43 = .ok (.lstore 4, 2) := by decide +kernel
theorem dX0_completesToTableaux_45 : decode cX0_completesToTableaux 45 = .ok (.iinc 6 1, 3) := by decide +kernel
theorem dX0_completesToTableaux_48 : decode cX0_completesToTableaux 48 = .ok (.goto (-34), 3) := by decide +kernel
theorem dX0_completesToTableaux_51 : decode cX0_completesToTableaux 51 = .ok (.aload_n 2, 1) := by decide +kernel
theorem dX0_completesToTableaux_52 : decode cX0_completesToTableaux 52 = .ok (.iload_n 3, 1) := by decide +kernel
theorem dX0_completesToTableaux_53 : decode cX0_completesToTableaux 53 = .ok (.lload 4, 2) := by decide +kernel
theorem dX0_completesToTableaux_55 : decode cX0_completesToTableaux 55 = .ok (.lastore, 1) := by decide +kernel
theorem dX0_completesToTableaux_56 : decode cX0_completesToTableaux 56 = .ok (.iinc 3 1, 3) := by decide +kernel
theorem dX0_completesToTableaux_59 : decode cX0_completesToTableaux 59 = .ok (.goto (-57), 3) := by decide +kernel
theorem dX0_completesToTableaux_62 : decode cX0_completesToTableaux 62 = .ok (.return_, 1) := by decide +kernel
theorem dX0_tableauxToCompletes_0 : decode cX0_tableauxToCompletes 0 = .ok (.bipush 29, 2) := by decide +kernel
theorem dX0_tableauxToCompletes_2 : decode cX0_tableauxToCompletes 2 = .ok (.istore_n 3, 1) := by decide +kernel
theorem dX0_tableauxToCompletes_3 : decode cX0_tableauxToCompletes 3 = .ok (.iload_n 3, 1) := by decide +kernel
theorem dX0_tableauxToCompletes_4 : decode cX0_tableauxToCompletes 4 = .ok (.ifCond .lt 61, 3) := by decide +kernel
theorem dX0_tableauxToCompletes_7 : decode cX0_tableauxToCompletes 7 = .ok (.aload_n 1, 1) := by decide +kernel
theorem dX0_tableauxToCompletes_8 : decode cX0_tableauxToCompletes 8 = .ok (.iload_n 3, 1) := by decide +kernel
theorem dX0_tableauxToCompletes_9 : decode cX0_tableauxToCompletes 9 = .ok (.laload, 1) := by decide +kernel
theorem dX0_tableauxToCompletes_10 : decode cX0_tableauxToCompletes 10 = .ok (.lstore 4, 2) := by decide +kernel
theorem dX0_tableauxToCompletes_12 : decode cX0_tableauxToCompletes 12 = .ok (.iload_n 3, 1) := by decide +kernel
theorem dX0_tableauxToCompletes_13 : decode cX0_tableauxToCompletes 13 = .ok (.iconst 1, 1) := by decide +kernel
theorem dX0_tableauxToCompletes_14 : decode cX0_tableauxToCompletes 14 = .ok (.iadd, 1) := by decide +kernel
theorem dX0_tableauxToCompletes_15 : decode cX0_tableauxToCompletes 15 = .ok (.istore 6, 2) := by decide +kernel
theorem dX0_tableauxToCompletes_17 : decode cX0_tableauxToCompletes 17 = .ok (.iload 6, 2) := by decide +kernel
theorem dX0_tableauxToCompletes_19 : decode cX0_tableauxToCompletes 19 = .ok (.aload_n 0, 1) := by decide +kernel
theorem dX0_tableauxToCompletes_20 : decode cX0_tableauxToCompletes 20 = .ok (.iload_n 3, 1) := by decide +kernel
theorem dX0_tableauxToCompletes_21 : decode cX0_tableauxToCompletes 21 = .ok (.invokevirtual 70, 3) := by decide +kernel
theorem dX0_tableauxToCompletes_24 : decode cX0_tableauxToCompletes 24 = .ok (.if_icmp .ge 30, 3) := by decide +kernel
theorem dX0_tableauxToCompletes_27 : decode cX0_tableauxToCompletes 27 = .ok (.lload 4, 2) := by decide +kernel
theorem dX0_tableauxToCompletes_29 : decode cX0_tableauxToCompletes 29 = .ok (.aload_n 2, 1) := by decide +kernel
theorem dX0_tableauxToCompletes_30 : decode cX0_tableauxToCompletes 30 = .ok (.iload 6, 2) := by decide +kernel
theorem dX0_tableauxToCompletes_32 : decode cX0_tableauxToCompletes 32 = .ok (.laload, 1) := by decide +kernel
theorem dX0_tableauxToCompletes_33 : decode cX0_tableauxToCompletes 33 = .ok (.aload_n 0, 1) := by decide +kernel
theorem dX0_tableauxToCompletes_34 : decode cX0_tableauxToCompletes 34 = .ok (.getfield 18, 3) := by decide +kernel
theorem dX0_tableauxToCompletes_37 : decode cX0_tableauxToCompletes 37 = .ok (.iload_n 3, 1) := by decide +kernel
theorem dX0_tableauxToCompletes_38 : decode cX0_tableauxToCompletes 38 = .ok (.iload 6, 2) := by decide +kernel
theorem dX0_tableauxToCompletes_40 : decode cX0_tableauxToCompletes 40 = .ok (.invokevirtual 66, 3) := by decide +kernel
theorem dX0_tableauxToCompletes_43 : decode cX0_tableauxToCompletes 43 = .ok (.i2l, 1) := by decide +kernel
theorem dX0_tableauxToCompletes_44 : decode cX0_tableauxToCompletes 44 = .ok (.lmul, 1) := by decide +kernel
theorem dX0_tableauxToCompletes_45 : decode cX0_tableauxToCompletes 45 = .ok (.lsub, 1) := by decide +kernel
theorem dX0_tableauxToCompletes_46 : decode cX0_tableauxToCompletes 46 = .ok (.lstore 4, 2) := by decide +kernel
theorem dX0_tableauxToCompletes_48 : decode cX0_tableauxToCompletes 48 = .ok (.iinc 6 1, 3) := by decide +kernel
theorem dX0_tableauxToCompletes_51 : decode cX0_tableauxToCompletes 51 = .ok (.goto (-34), 3) := by decide +kernel
theorem dX0_tableauxToCompletes_54 : decode cX0_tableauxToCompletes 54 = .ok (.aload_n 2, 1) := by decide +kernel
theorem dX0_tableauxToCompletes_55 : decode cX0_tableauxToCompletes 55 = .ok (.iload_n 3, 1) := by decide +kernel
theorem dX0_tableauxToCompletes_56 : decode cX0_tableauxToCompletes 56 = .ok (.lload 4, 2) := by decide +kernel
theorem dX0_tableauxToCompletes_58 : decode cX0_tableauxToCompletes 58 = .ok (.lastore, 1) := by decide +kernel
theorem dX0_tableauxToCompletes_59 : decode cX0_tableauxToCompletes 59 = .ok (.iinc 3 (-1), 3) := by decide +kernel
theorem dX0_tableauxToCompletes_62 : decode cX0_tableauxToCompletes 62 = .ok (.goto (-59), 3) := by decide +kernel
theorem dX0_tableauxToCompletes_65 : decode cX0_tableauxToCompletes 65 = .ok (.return_, 1) := by decide +kernel
theorem dX0_powersToTableaux_0 : decode cX0_powersToTableaux 0 = .ok (.iconst 0, 1) := by decide +kernel
theorem dX0_powersToTableaux_1 : decode cX0_powersToTableaux 1 = .ok (.istore_n 3, 1) := by decide +kernel
theorem dX0_powersToTableaux_2 : decode cX0_powersToTableaux 2 = .ok (.iload_n 3, 1) := by decide +kernel
theorem dX0_powersToTableaux_3 : decode cX0_powersToTableaux 3 = .ok (.bipush 30, 2) := by decide +kernel
theorem dX0_powersToTableaux_5 : decode cX0_powersToTableaux 5 = .ok (.if_icmp .ge 61, 3) := by decide +kernel
theorem dX0_powersToTableaux_8 : decode cX0_powersToTableaux 8 = .ok (.lconst 0, 1) := by decide +kernel
theorem dX0_powersToTableaux_9 : decode cX0_powersToTableaux 9 = .ok (.lstore 4, 2) := by decide +kernel
theorem dX0_powersToTableaux_11 : decode cX0_powersToTableaux 11 = .ok (.aload_n 0, 1) := by decide +kernel
theorem dX0_powersToTableaux_12 : decode cX0_powersToTableaux 12 = .ok (.iload_n 3, 1) := by decide +kernel
theorem dX0_powersToTableaux_13 : decode cX0_powersToTableaux 13 = .ok (.invokevirtual 63, 3) := by decide +kernel
theorem dX0_powersToTableaux_16 : decode cX0_powersToTableaux 16 = .ok (.istore 6, 2) := by decide +kernel
theorem dX0_powersToTableaux_18 : decode cX0_powersToTableaux 18 = .ok (.iload 6, 2) := by decide +kernel
theorem dX0_powersToTableaux_20 : decode cX0_powersToTableaux 20 = .ok (.aload_n 0, 1) := by decide +kernel
theorem dX0_powersToTableaux_21 : decode cX0_powersToTableaux 21 = .ok (.iload_n 3, 1) := by decide +kernel
theorem dX0_powersToTableaux_22 : decode cX0_powersToTableaux 22 = .ok (.invokevirtual 70, 3) := by decide +kernel
theorem dX0_powersToTableaux_25 : decode cX0_powersToTableaux 25 = .ok (.if_icmp .ge 30, 3) := by decide +kernel
theorem dX0_powersToTableaux_28 : decode cX0_powersToTableaux 28 = .ok (.lload 4, 2) := by decide +kernel
theorem dX0_powersToTableaux_30 : decode cX0_powersToTableaux 30 = .ok (.aload_n 1, 1) := by decide +kernel
theorem dX0_powersToTableaux_31 : decode cX0_powersToTableaux 31 = .ok (.iload 6, 2) := by decide +kernel
theorem dX0_powersToTableaux_33 : decode cX0_powersToTableaux 33 = .ok (.laload, 1) := by decide +kernel
theorem dX0_powersToTableaux_34 : decode cX0_powersToTableaux 34 = .ok (.aload_n 0, 1) := by decide +kernel
theorem dX0_powersToTableaux_35 : decode cX0_powersToTableaux 35 = .ok (.getfield 18, 3) := by decide +kernel
theorem dX0_powersToTableaux_38 : decode cX0_powersToTableaux 38 = .ok (.iload_n 3, 1) := by decide +kernel
theorem dX0_powersToTableaux_39 : decode cX0_powersToTableaux 39 = .ok (.iload 6, 2) := by decide +kernel
theorem dX0_powersToTableaux_41 : decode cX0_powersToTableaux 41 = .ok (.invokevirtual 73, 3) := by decide +kernel
theorem dX0_powersToTableaux_44 : decode cX0_powersToTableaux 44 = .ok (.i2l, 1) := by decide +kernel
theorem dX0_powersToTableaux_45 : decode cX0_powersToTableaux 45 = .ok (.lmul, 1) := by decide +kernel
theorem dX0_powersToTableaux_46 : decode cX0_powersToTableaux 46 = .ok (.ladd, 1) := by decide +kernel
theorem dX0_powersToTableaux_47 : decode cX0_powersToTableaux 47 = .ok (.lstore 4, 2) := by decide +kernel
theorem dX0_powersToTableaux_49 : decode cX0_powersToTableaux 49 = .ok (.iinc 6 1, 3) := by decide +kernel
theorem dX0_powersToTableaux_52 : decode cX0_powersToTableaux 52 = .ok (.goto (-34), 3) := by decide +kernel
theorem dX0_powersToTableaux_55 : decode cX0_powersToTableaux 55 = .ok (.aload_n 2, 1) := by decide +kernel
theorem dX0_powersToTableaux_56 : decode cX0_powersToTableaux 56 = .ok (.iload_n 3, 1) := by decide +kernel
theorem dX0_powersToTableaux_57 : decode cX0_powersToTableaux 57 = .ok (.lload 4, 2) := by decide +kernel
theorem dX0_powersToTableaux_59 : decode cX0_powersToTableaux 59 = .ok (.lastore, 1) := by decide +kernel
theorem dX0_powersToTableaux_60 : decode cX0_powersToTableaux 60 = .ok (.iinc 3 1, 3) := by decide +kernel
theorem dX0_powersToTableaux_63 : decode cX0_powersToTableaux 63 = .ok (.goto (-61), 3) := by decide +kernel
theorem dX0_powersToTableaux_66 : decode cX0_powersToTableaux 66 = .ok (.return_, 1) := by decide +kernel
theorem dX0_tableauxToPowers_0 : decode cX0_tableauxToPowers 0 = .ok (.iconst 0, 1) := by decide +kernel
theorem dX0_tableauxToPowers_1 : decode cX0_tableauxToPowers 1 = .ok (.istore_n 3, 1) := by decide +kernel
theorem dX0_tableauxToPowers_2 : decode cX0_tableauxToPowers 2 = .ok (.iload_n 3, 1) := by decide +kernel
theorem dX0_tableauxToPowers_3 : decode cX0_tableauxToPowers 3 = .ok (.bipush 30, 2) := by decide +kernel
theorem dX0_tableauxToPowers_5 : decode cX0_tableauxToPowers 5 = .ok (.if_icmp .ge 89, 3) := by decide +kernel
theorem dX0_tableauxToPowers_8 : decode cX0_tableauxToPowers 8 = .ok (.lconst 0, 1) := by decide +kernel
theorem dX0_tableauxToPowers_9 : decode cX0_tableauxToPowers 9 = .ok (.lstore 4, 2) := by decide +kernel
theorem dX0_tableauxToPowers_11 : decode cX0_tableauxToPowers 11 = .ok (.aload_n 0, 1) := by decide +kernel
theorem dX0_tableauxToPowers_12 : decode cX0_tableauxToPowers 12 = .ok (.iload_n 3, 1) := by decide +kernel
theorem dX0_tableauxToPowers_13 : decode cX0_tableauxToPowers 13 = .ok (.invokevirtual 63, 3) := by decide +kernel
theorem dX0_tableauxToPowers_16 : decode cX0_tableauxToPowers 16 = .ok (.istore 6, 2) := by decide +kernel
theorem dX0_tableauxToPowers_18 : decode cX0_tableauxToPowers 18 = .ok (.iload 6, 2) := by decide +kernel
theorem dX0_tableauxToPowers_20 : decode cX0_tableauxToPowers 20 = .ok (.aload_n 0, 1) := by decide +kernel
theorem dX0_tableauxToPowers_21 : decode cX0_tableauxToPowers 21 = .ok (.iload_n 3, 1) := by decide +kernel
theorem dX0_tableauxToPowers_22 : decode cX0_tableauxToPowers 22 = .ok (.invokevirtual 70, 3) := by decide +kernel
theorem dX0_tableauxToPowers_25 : decode cX0_tableauxToPowers 25 = .ok (.if_icmp .ge 30, 3) := by decide +kernel
theorem dX0_tableauxToPowers_28 : decode cX0_tableauxToPowers 28 = .ok (.lload 4, 2) := by decide +kernel
theorem dX0_tableauxToPowers_30 : decode cX0_tableauxToPowers 30 = .ok (.aload_n 1, 1) := by decide +kernel
theorem dX0_tableauxToPowers_31 : decode cX0_tableauxToPowers 31 = .ok (.iload 6, 2) := by decide +kernel
theorem dX0_tableauxToPowers_33 : decode cX0_tableauxToPowers 33 = .ok (.laload, 1) := by decide +kernel
theorem dX0_tableauxToPowers_34 : decode cX0_tableauxToPowers 34 = .ok (.aload_n 0, 1) := by decide +kernel
theorem dX0_tableauxToPowers_35 : decode cX0_tableauxToPowers 35 = .ok (.getfield 18, 3) := by decide +kernel
theorem dX0_tableauxToPowers_38 : decode cX0_tableauxToPowers 38 = .ok (.iload 6, 2) := by decide +kernel
theorem dX0_tableauxToPowers_40 : decode cX0_tableauxToPowers 40 = .ok (.iload_n 3, 1) := by decide +kernel
theorem dX0_tableauxToPowers_41 : decode cX0_tableauxToPowers 41 = .ok (.invokevirtual 73, 3) := by decide +kernel
theorem dX0_tableauxToPowers_44 : decode cX0_tableauxToPowers 44 = .ok (.i2l, 1) := by decide +kernel
theorem dX0_tableauxToPowers_45 : decode cX0_tableauxToPowers 45 = .ok (.lmul, 1) := by decide +kernel
theorem dX0_tableauxToPowers_46 : decode cX0_tableauxToPowers 46 = .ok (.ladd, 1) := by decide +kernel
theorem dX0_tableauxToPowers_47 : decode cX0_tableauxToPowers 47 = .ok (.lstore 4, 2) := by decide +kernel
theorem dX0_tableauxToPowers_49 : decode cX0_tableauxToPowers 49 = .ok (.iinc 6 1, 3) := by decide +kernel
theorem dX0_tableauxToPowers_52 : decode cX0_tableauxToPowers 52 = .ok (.goto (-34), 3) := by decide +kernel
theorem dX0_tableauxToPowers_55 : decode cX0_tableauxToPowers 55 = .ok (.aload_n 0, 1) := by decide +kernel
theorem dX0_tableauxToPowers_56 : decode cX0_tableauxToPowers 56 = .ok (.getfield 18, 3) := by decide +kernel
theorem dX0_tableauxToPowers_59 : decode cX0_tableauxToPowers 59 = .ok (.getfield 76, 3) := by decide +kernel
theorem dX0_tableauxToPowers_62 : decode cX0_tableauxToPowers 62 = .ok (.iload_n 3, 1) := by decide +kernel
theorem dX0_tableauxToPowers_63 : decode cX0_tableauxToPowers 63 = .ok (.iaload, 1) := by decide +kernel
theorem dX0_tableauxToPowers_64 : decode cX0_tableauxToPowers 64 = .ok (.istore 6, 2) := by decide +kernel
theorem dX0_tableauxToPowers_66 : decode cX0_tableauxToPowers 66 = .ok (.aload_n 2, 1) := by decide +kernel
theorem dX0_tableauxToPowers_67 : decode cX0_tableauxToPowers 67 = .ok (.iload_n 3, 1) := by decide +kernel
theorem dX0_tableauxToPowers_68 : decode cX0_tableauxToPowers 68 = .ok (.iload 6, 2) := by decide +kernel
theorem dX0_tableauxToPowers_70 : decode cX0_tableauxToPowers 70 = .ok (.ifCond .le 16, 3) := by decide +kernel
theorem dX0_tableauxToPowers_73 : decode cX0_tableauxToPowers 73 = .ok (.lload 4, 2) := by decide +kernel
theorem dX0_tableauxToPowers_75 : decode cX0_tableauxToPowers 75 = .ok (.sipush 720, 3) := by decide +kernel
theorem dX0_tableauxToPowers_78 : decode cX0_tableauxToPowers 78 = .ok (.iload 6, 2) := by decide +kernel
theorem dX0_tableauxToPowers_80 : decode cX0_tableauxToPowers 80 = .ok (.idiv, 1) := by decide +kernel
theorem dX0_tableauxToPowers_81 : decode cX0_tableauxToPowers 81 = .ok (.i2l, 1) := by decide +kernel
theorem dX0_tableauxToPowers_82 : decode cX0_tableauxToPowers 82 = .ok (.lmul, 1) := by decide +kernel
theorem dX0_tableauxToPowers_83 : decode cX0_tableauxToPowers 83 = .ok (.goto 4, 3) := by decide +kernel
theorem dX0_tableauxToPowers_86 : decode cX0_tableauxToPowers 86 = .ok (.lconst 0, 1) := by decide +kernel
theorem dX0_tableauxToPowers_87 : decode cX0_tableauxToPowers 87 = .ok (.lastore, 1) := by decide +kernel
theorem dX0_tableauxToPowers_88 : decode cX0_tableauxToPowers 88 = .ok (.iinc 3 1, 3) := by decide +kernel
theorem dX0_tableauxToPowers_91 : decode cX0_tableauxToPowers 91 = .ok (.goto (-89), 3) := by decide +kernel
theorem dX0_tableauxToPowers_94 : decode cX0_tableauxToPowers 94 = .ok (.return_, 1) := by decide +kernel
theorem dX0_conjugate_0 : decode cX0_conjugate 0 = .ok (.iconst 0, 1) := by decide +kernel
theorem dX0_conjugate_1 : decode cX0_conjugate 1 = .ok (.istore_n 3, 1) := by decide +kernel
theorem dX0_conjugate_2 : decode cX0_conjugate 2 = .ok (.iload_n 3, 1) := by decide +kernel
theorem dX0_conjugate_3 : decode cX0_conjugate 3 = .ok (.bipush 30, 2) := by decide +kernel
theorem dX0_conjugate_5 : decode cX0_conjugate 5 = .ok (.if_icmp .ge 35, 3) := by decide +kernel
theorem dX0_conjugate_8 : decode cX0_conjugate 8 = .ok (.aload_n 0, 1) := by decide +kernel
theorem dX0_conjugate_9 : decode cX0_conjugate 9 = .ok (.getfield 18, 3) := by decide +kernel
theorem dX0_conjugate_12 : decode cX0_conjugate 12 = .ok (.getfield 79, 3) := by decide +kernel
theorem dX0_conjugate_15 : decode cX0_conjugate 15 = .ok (.iload_n 3, 1) := by decide +kernel
theorem dX0_conjugate_16 : decode cX0_conjugate 16 = .ok (.iaload, 1) := by decide +kernel
theorem dX0_conjugate_17 : decode cX0_conjugate 17 = .ok (.istore 4, 2) := by decide +kernel
theorem dX0_conjugate_19 : decode cX0_conjugate 19 = .ok (.iload 4, 2) := by decide +kernel
theorem dX0_conjugate_21 : decode cX0_conjugate 21 = .ok (.invokestatic 82, 3) := by decide +kernel
theorem dX0_conjugate_24 : decode cX0_conjugate 24 = .ok (.ifCond .eq 10, 3) := by decide +kernel
theorem dX0_conjugate_27 : decode cX0_conjugate 27 = .ok (.aload_n 2, 1) := by decide +kernel
theorem dX0_conjugate_28 : decode cX0_conjugate 28 = .ok (.iload 4, 2) := by decide +kernel
theorem dX0_conjugate_30 : decode cX0_conjugate 30 = .ok (.aload_n 1, 1) := by decide +kernel
theorem dX0_conjugate_31 : decode cX0_conjugate 31 = .ok (.iload_n 3, 1) := by decide +kernel
theorem dX0_conjugate_32 : decode cX0_conjugate 32 = .ok (.laload, 1) := by decide +kernel
theorem dX0_conjugate_33 : decode cX0_conjugate 33 = .ok (.lastore, 1) := by decide +kernel
theorem dX0_conjugate_34 : decode cX0_conjugate 34 = .ok (.iinc 3 1, 3) := by decide +kernel
theorem dX0_conjugate_37 : decode cX0_conjugate 37 = .ok (.goto (-35), 3) := by decide +kernel
theorem dX0_conjugate_40 : decode cX0_conjugate 40 = .ok (.return_, 1) := by decide +kernel
theorem dX1_init_0 : decode cX1_init 0 = .ok (.aload_n 0, 1) := by decide +kernel
theorem dX1_init_1 : decode cX1_init 1 = .ok (.invokespecial 3, 3) := by decide +kernel
theorem dX1_init_4 : decode cX1_init 4 = .ok (.aload_n 0, 1) := by decide +kernel
theorem dX1_init_5 : decode cX1_init 5 = .ok (.bipush 30, 2) := by decide +kernel
theorem dX1_init_7 : decode cX1_init 7 = .ok (.newarray .int, 2) := by decide +kernel
theorem dX1_init_9 : decode cX1_init 9 = .ok (.putfield 9, 3) := by decide +kernel
theorem dX1_init_12 : decode cX1_init 12 = .ok (.aload_n 0, 1) := by decide +kernel
theorem dX1_init_13 : decode cX1_init 13 = .ok (.bipush 30, 2) := by decide +kernel
theorem dX1_init_15 : decode cX1_init 15 = .ok (.newarray .int, 2) := by decide +kernel
theorem dX1_init_17 : decode cX1_init 17 = .ok (.putfield 15, 3) := by decide +kernel
theorem dX1_init_20 : decode cX1_init 20 = .ok (.aload_n 0, 1) := by decide +kernel
theorem dX1_init_21 : decode cX1_init 21 = .ok (.bipush 30, 2) := by decide +kernel
theorem dX1_init_23 : decode cX1_init 23 = .ok (.newarray .int, 2) := by decide +kernel
theorem dX1_init_25 : decode cX1_init 25 = .ok (.putfield 18, 3) := by decide +kernel
theorem dX1_init_28 : decode cX1_init 28 = .ok (.aload_n 0, 1) := by decide +kernel
theorem dX1_init_29 : decode cX1_init 29 = .ok (.bipush 30, 2) := by decide +kernel
theorem dX1_init_31 : decode cX1_init 31 = .ok (.newarray .int, 2) := by decide +kernel
theorem dX1_init_33 : decode cX1_init 33 = .ok (.putfield 21, 3) := by decide +kernel
theorem dX1_init_36 : decode cX1_init 36 = .ok (.aload_n 0, 1) := by decide +kernel
theorem dX1_init_37 : decode cX1_init 37 = .ok (.bipush 30, 2) := by decide +kernel
theorem dX1_init_39 : decode cX1_init 39 = .ok (.newarray .int, 2) := by decide +kernel
theorem dX1_init_41 : decode cX1_init 41 = .ok (.putfield 24, 3) := by decide +kernel
theorem dX1_init_44 : decode cX1_init 44 = .ok (.aload_n 0, 1) := by decide +kernel
theorem dX1_init_45 : decode cX1_init 45 = .ok (.sipush 900, 3) := by decide +kernel
theorem dX1_init_48 : decode cX1_init 48 = .ok (.newarray .int, 2) := by decide +kernel
theorem dX1_init_50 : decode cX1_init 50 = .ok (.putfield 27, 3) := by decide +kernel
theorem dX1_init_53 : decode cX1_init 53 = .ok (.aload_n 0, 1) := by decide +kernel
theorem dX1_init_54 : decode cX1_init 54 = .ok (.sipush 900, 3) := by decide +kernel
theorem dX1_init_57 : decode cX1_init 57 = .ok (.newarray .int, 2) := by decide +kernel
theorem dX1_init_59 : decode cX1_init 59 = .ok (.putfield 30, 3) := by decide +kernel
theorem dX1_init_62 : decode cX1_init 62 = .ok (.aload_n 0, 1) := by decide +kernel
theorem dX1_init_63 : decode cX1_init 63 = .ok (.sipush 900, 3) := by decide +kernel
theorem dX1_init_66 : decode cX1_init 66 = .ok (.newarray .int, 2) := by decide +kernel
theorem dX1_init_68 : decode cX1_init 68 = .ok (.putfield 33, 3) := by decide +kernel
theorem dX1_init_71 : decode cX1_init 71 = .ok (.iconst 0, 1) := by decide +kernel
theorem dX1_init_72 : decode cX1_init 72 = .ok (.istore_n 1, 1) := by decide +kernel
theorem dX1_init_73 : decode cX1_init 73 = .ok (.iload_n 1, 1) := by decide +kernel
theorem dX1_init_74 : decode cX1_init 74 = .ok (.bipush 30, 2) := by decide +kernel
theorem dX1_init_76 : decode cX1_init 76 = .ok (.if_icmp .ge 14, 3) := by decide +kernel
theorem dX1_init_79 : decode cX1_init 79 = .ok (.aload_n 0, 1) := by decide +kernel
theorem dX1_init_80 : decode cX1_init 80 = .ok (.iload_n 1, 1) := by decide +kernel
theorem dX1_init_81 : decode cX1_init 81 = .ok (.invokevirtual 36, 3) := by decide +kernel
theorem dX1_init_84 : decode cX1_init 84 = .ok (.iinc 1 1, 3) := by decide +kernel
theorem dX1_init_87 : decode cX1_init 87 = .ok (.goto (-14), 3) := by decide +kernel
theorem dX1_init_90 : decode cX1_init 90 = .ok (.iconst 0, 1) := by decide +kernel
theorem dX1_init_91 : decode cX1_init 91 = .ok (.istore_n 1, 1) := by decide +kernel
theorem dX1_init_92 : decode cX1_init 92 = .ok (.iload_n 1, 1) := by decide +kernel
theorem dX1_init_93 : decode cX1_init 93 = .ok (.bipush 30, 2) := by decide +kernel
theorem dX1_init_95 : decode cX1_init 95 = .ok (.if_icmp .ge 75, 3) := by decide +kernel
theorem dX1_init_98 : decode cX1_init 98 = .ok (.aload_n 0, 1) := by decide +kernel
theorem dX1_init_99 : decode cX1_init 99 = .ok (.getfield 21, 3) := by decide +kernel
theorem dX1_init_102 : decode cX1_init 102 = .ok (.iload_n 1, 1) := by decide +kernel
theorem dX1_init_103 : decode cX1_init 103 = .ok (.aload_n 0, 1) := by decide +kernel
theorem dX1_init_104 : decode cX1_init 104 = .ok (.iload_n 1, 1) := by decide +kernel
theorem dX1_init_105 : decode cX1_init 105 = .ok (.invokevirtual 40, 3) := by decide +kernel
theorem dX1_init_108 : decode cX1_init 108 = .ok (.iastore, 1) := by decide +kernel
theorem dX1_init_109 : decode cX1_init 109 = .ok (.iconst 0, 1) := by decide +kernel
theorem dX1_init_110 : decode cX1_init 110 = .ok (.istore_n 2, 1) := by decide +kernel
theorem dX1_init_111 : decode cX1_init 111 = .ok (.iload_n 2, 1) := by decide +kernel
theorem dX1_init_112 : decode cX1_init 112 = .ok (.bipush 30, 2) := by decide +kernel
theorem dX1_init_114 : decode cX1_init 114 = .ok (.if_icmp .ge 50, 3) := by decide +kernel
theorem dX1_init_117 : decode cX1_init 117 = .ok (.aload_n 0, 1) := by decide +kernel
theorem dX1_init_118 : decode cX1_init 118 = .ok (.getfield 27, 3) := by decide +kernel
theorem dX1_init_121 : decode cX1_init 121 = .ok (.iload_n 1, 1) := by decide +kernel
theorem dX1_init_122 : decode cX1_init 122 = .ok (.bipush 30, 2) := by decide +kernel
theorem dX1_init_124 : decode cX1_init 124 = .ok (.imul, 1) := by decide +kernel
theorem dX1_init_125 : decode cX1_init 125 = .ok (.iload_n 2, 1) := by decide +kernel
theorem dX1_init_126 : decode cX1_init 126 = .ok (.iadd, 1) := by decide +kernel
theorem dX1_init_127 : decode cX1_init 127 = .ok (.aload_n 0, 1) := by decide +kernel
theorem dX1_init_128 : decode cX1_init 128 = .ok (.aload_n 0, 1) := by decide +kernel
theorem dX1_init_129 : decode cX1_init 129 = .ok (.getfield 18, 3) := by decide +kernel
theorem dX1_init_132 : decode cX1_init 132 = .ok (.iload_n 1, 1) := by decide +kernel
theorem dX1_init_133 : decode cX1_init 133 = .ok (.iaload, 1) := by decide +kernel
theorem dX1_init_134 : decode cX1_init 134 = .ok (.aload_n 0, 1) := by decide +kernel
theorem dX1_init_135 : decode cX1_init 135 = .ok (.getfield 18, 3) := by decide +kernel
theorem dX1_init_138 : decode cX1_init 138 = .ok (.iload_n 2, 1) := by decide +kernel
theorem dX1_init_139 : decode cX1_init 139 = .ok (.iaload, 1) := by decide +kernel
theorem dX1_init_140 : decode cX1_init 140 = .ok (.iadd, 1) := by decide +kernel
theorem dX1_init_141 : decode cX1_init 141 = .ok (.aload_n 0, 1) := by decide +kernel
theorem dX1_init_142 : decode cX1_init 142 = .ok (.getfield 9, 3) := by decide +kernel
theorem dX1_init_145 : decode cX1_init 145 = .ok (.iload_n 1, 1) := by decide +kernel
theorem dX1_init_146 : decode cX1_init 146 = .ok (.iaload, 1) := by decide +kernel
theorem dX1_init_147 : decode cX1_init 147 = .ok (.aload_n 0, 1) := by decide +kernel
theorem dX1_init_148 : decode cX1_init 148 = .ok (.getfield 9, 3) := by decide +kernel
theorem dX1_init_151 : decode cX1_init 151 = .ok (.iload_n 2, 1) := by decide +kernel
theorem dX1_init_152 : decode cX1_init 152 = .ok (.iaload, 1) := by decide +kernel
theorem dX1_init_153 : decode cX1_init 153 = .ok (.iadd, 1) := by decide +kernel
theorem dX1_init_154 : decode cX1_init 154 = .ok (.invokevirtual 44, 3) := by decide +kernel
theorem dX1_init_157 : decode cX1_init 157 = .ok (.iastore, 1) := by decide +kernel
theorem dX1_init_158 : decode cX1_init 158 = .ok (.iinc 2 1, 3) := by decide +kernel
theorem dX1_init_161 : decode cX1_init 161 = .ok (.goto (-50), 3) := by decide +kernel
theorem dX1_init_164 : decode cX1_init 164 = .ok (.iinc 1 1, 3) := by decide +kernel
theorem dX1_init_167 : decode cX1_init 167 = .ok (.goto (-75), 3) := by decide +kernel
theorem dX1_init_170 : decode cX1_init 170 = .ok (.aload_n 0, 1) := by decide +kernel
theorem dX1_init_171 : decode cX1_init 171 = .ok (.getfield 30, 3) := by decide +kernel
theorem dX1_init_174 : decode cX1_init 174 = .ok (.iconst 0, 1) := by decide +kernel
theorem dX1_init_175 : decode cX1_init 175 = .ok (.iconst 1, 1) := by decide +kernel
theorem dX1_init_176 : decode cX1_init 176 = .ok (.iastore, 1) := by decide +kernel
theorem dX1_init_177 : decode cX1_init 177 = .ok (.aload_n 0, 1) := by decide +kernel
theorem dX1_init_178 : decode cX1_init 178 = .ok (.getfield 33, 3) := by decide +kernel
theorem dX1_init_181 : decode cX1_init 181 = .ok (.iconst 0, 1) := by decide +kernel
theorem dX1_init_182 : decode cX1_init 182 = .ok (.iconst 1, 1) := by decide +kernel
theorem dX1_init_183 : decode cX1_init 183 = .ok (.iastore, 1) := by decide +kernel
theorem dX1_init_184 : decode cX1_init 184 = .ok (.iconst 1, 1) := by decide +kernel
theorem dX1_init_185 : decode cX1_init 185 = .ok (.istore_n 1, 1) := by decide +kernel
theorem dX1_init_186 : decode cX1_init 186 = .ok (.iload_n 1, 1) := by decide +kernel
theorem dX1_init_187 : decode cX1_init 187 = .ok (.bipush 30, 2) := by decide +kernel
theorem dX1_init_189 : decode cX1_init 189 = .ok (.if_icmp .ge 14, 3) := by decide +kernel
theorem dX1_init_192 : decode cX1_init 192 = .ok (.aload_n 0, 1) := by decide +kernel
theorem dX1_init_193 : decode cX1_init 193 = .ok (.iload_n 1, 1) := by decide +kernel
theorem dX1_init_194 : decode cX1_init 194 = .ok (.invokevirtual 48, 3) := by decide +kernel
theorem dX1_init_197 : decode cX1_init 197 = .ok (.iinc 1 1, 3) := by decide +kernel
theorem dX1_init_200 : decode cX1_init 200 = .ok (.goto (-14), 3) := by decide +kernel
theorem dX1_init_203 : decode cX1_init 203 = .ok (.return_, 1) := by decide +kernel
theorem dX1_startOf_0 : decode cX1_startOf 0 = .ok (.iload_n 0, 1) := by decide +kernel
theorem dX1_startOf_1 : decode cX1_startOf 1 = .ok (.ifCond .lt 17, 3) := by decide +kernel
theorem dX1_startOf_4 : decode cX1_startOf 4 = .ok (.iload_n 0, 1) := by decide +kernel
theorem dX1_startOf_5 : decode cX1_startOf 5 = .ok (.bipush 6, 2) := by decide +kernel
theorem dX1_startOf_7 : decode cX1_startOf 7 = .ok (.if_icmp .gt 11, 3) := by decide +kernel
theorem dX1_startOf_10 : decode cX1_startOf 10 = .ok (.getstatic 51, 3) := by decide +kernel
theorem dX1_startOf_13 : decode cX1_startOf 13 = .ok (.iload_n 0, 1) := by decide +kernel
theorem dX1_startOf_14 : decode cX1_startOf 14 = .ok (.iaload, 1) := by decide +kernel
theorem dX1_startOf_15 : decode cX1_startOf 15 = .ok (.goto 4, 3) := by decide +kernel
theorem dX1_startOf_18 : decode cX1_startOf 18 = .ok (.iconst 0, 1) := by decide +kernel
theorem dX1_startOf_19 : decode cX1_startOf 19 = .ok (.ireturn, 1) := by decide +kernel
theorem dX1_endOf_0 : decode cX1_endOf 0 = .ok (.iload_n 0, 1) := by decide +kernel
theorem dX1_endOf_1 : decode cX1_endOf 1 = .ok (.ifCond .lt 19, 3) := by decide +kernel
theorem dX1_endOf_4 : decode cX1_endOf 4 = .ok (.iload_n 0, 1) := by decide +kernel
theorem dX1_endOf_5 : decode cX1_endOf 5 = .ok (.bipush 6, 2) := by decide +kernel
theorem dX1_endOf_7 : decode cX1_endOf 7 = .ok (.if_icmp .gt 13, 3) := by decide +kernel
theorem dX1_endOf_10 : decode cX1_endOf 10 = .ok (.getstatic 51, 3) := by decide +kernel
theorem dX1_endOf_13 : decode cX1_endOf 13 = .ok (.iload_n 0, 1) := by decide +kernel
theorem dX1_endOf_14 : decode cX1_endOf 14 = .ok (.iconst 1, 1) := by decide +kernel
theorem dX1_endOf_15 : decode cX1_endOf 15 = .ok (.iadd, 1) := by decide +kernel
theorem dX1_endOf_16 : decode cX1_endOf 16 = .ok (.iaload, 1) := by decide +kernel
theorem dX1_endOf_17 : decode cX1_endOf 17 = .ok (.goto 4, 3) := by decide +kernel
theorem dX1_endOf_20 : decode cX1_endOf 20 = .ok (.iconst 0, 1) := by decide +kernel
theorem dX1_endOf_21 : decode cX1_endOf 21 = .ok (.ireturn, 1) := by decide +kernel
theorem dX1_isPlace_0 : decode cX1_isPlace 0 = .ok (.iload_n 0, 1) := by decide +kernel
theorem dX1_isPlace_1 : decode cX1_isPlace 1 = .ok (.ifCond .lt 13, 3) := by decide +kernel
theorem dX1_isPlace_4 : decode cX1_isPlace 4 = .ok (.iload_n 0, 1) := by decide +kernel
theorem dX1_isPlace_5 : decode cX1_isPlace 5 = .ok (.bipush 6, 2) := by decide +kernel
theorem dX1_isPlace_7 : decode cX1_isPlace 7 = .ok (.if_icmp .ge 7, 3) := by decide +kernel
theorem dX1_isPlace_10 : decode cX1_isPlace 10 = .ok (.iconst 1, 1) := by decide +kernel
theorem dX1_isPlace_11 : decode cX1_isPlace 11 = .ok (.goto 4, 3) := by decide +kernel
theorem dX1_isPlace_14 : decode cX1_isPlace 14 = .ok (.iconst 0, 1) := by decide +kernel
theorem dX1_isPlace_15 : decode cX1_isPlace 15 = .ok (.ireturn, 1) := by decide +kernel
theorem dX1_partAt_0 : decode cX1_partAt 0 = .ok (.iload_n 1, 1) := by decide +kernel
theorem dX1_partAt_1 : decode cX1_partAt 1 = .ok (.invokestatic 54, 3) := by decide +kernel
theorem dX1_partAt_4 : decode cX1_partAt 4 = .ok (.ifCond .eq 23, 3) := by decide +kernel
theorem dX1_partAt_7 : decode cX1_partAt 7 = .ok (.iload_n 2, 1) := by decide +kernel
theorem dX1_partAt_8 : decode cX1_partAt 8 = .ok (.invokestatic 58, 3) := by decide +kernel
theorem dX1_partAt_11 : decode cX1_partAt 11 = .ok (.ifCond .eq 16, 3) := by decide +kernel
theorem dX1_partAt_14 : decode cX1_partAt 14 = .ok (.getstatic 61, 3) := by decide +kernel
theorem dX1_partAt_17 : decode cX1_partAt 17 = .ok (.iload_n 1, 1) := by decide +kernel
theorem dX1_partAt_18 : decode cX1_partAt 18 = .ok (.bipush 6, 2) := by decide +kernel
theorem dX1_partAt_20 : decode cX1_partAt 20 = .ok (.imul, 1) := by decide +kernel
theorem dX1_partAt_21 : decode cX1_partAt 21 = .ok (.iload_n 2, 1) := by decide +kernel
theorem dX1_partAt_22 : decode cX1_partAt 22 = .ok (.iadd, 1) := by decide +kernel
theorem dX1_partAt_23 : decode cX1_partAt 23 = .ok (.iaload, 1) := by decide +kernel
theorem dX1_partAt_24 : decode cX1_partAt 24 = .ok (.goto 4, 3) := by decide +kernel
theorem dX1_partAt_27 : decode cX1_partAt 27 = .ok (.iconst 0, 1) := by decide +kernel
theorem dX1_partAt_28 : decode cX1_partAt 28 = .ok (.ireturn, 1) := by decide +kernel
theorem dX1_markOf_0 : decode cX1_markOf 0 = .ok (.iload_n 0, 1) := by decide +kernel
theorem dX1_markOf_1 : decode cX1_markOf 1 = .ok (.ifCond .le 19, 3) := by decide +kernel
theorem dX1_markOf_4 : decode cX1_markOf 4 = .ok (.iload_n 0, 1) := by decide +kernel
theorem dX1_markOf_5 : decode cX1_markOf 5 = .ok (.bipush 6, 2) := by decide +kernel
theorem dX1_markOf_7 : decode cX1_markOf 7 = .ok (.if_icmp .gt 13, 3) := by decide +kernel
theorem dX1_markOf_10 : decode cX1_markOf 10 = .ok (.iconst 1, 1) := by decide +kernel
theorem dX1_markOf_11 : decode cX1_markOf 11 = .ok (.iconst 3, 1) := by decide +kernel
theorem dX1_markOf_12 : decode cX1_markOf 12 = .ok (.iload_n 0, 1) := by decide +kernel
theorem dX1_markOf_13 : decode cX1_markOf 13 = .ok (.iconst 1, 1) := by decide +kernel
theorem dX1_markOf_14 : decode cX1_markOf 14 = .ok (.isub, 1) := by decide +kernel
theorem dX1_markOf_15 : decode cX1_markOf 15 = .ok (.imul, 1) := by decide +kernel
theorem dX1_markOf_16 : decode cX1_markOf 16 = .ok (.ishl, 1) := by decide +kernel
theorem dX1_markOf_17 : decode cX1_markOf 17 = .ok (.goto 4, 3) := by decide +kernel
theorem dX1_markOf_20 : decode cX1_markOf 20 = .ok (.iconst 0, 1) := by decide +kernel
theorem dX1_markOf_21 : decode cX1_markOf 21 = .ok (.ireturn, 1) := by decide +kernel
theorem dX1_numberOf_0 : decode cX1_numberOf 0 = .ok (.iload_n 2, 1) := by decide +kernel
theorem dX1_numberOf_1 : decode cX1_numberOf 1 = .ok (.invokestatic 64, 3) := by decide +kernel
theorem dX1_numberOf_4 : decode cX1_numberOf 4 = .ok (.istore_n 3, 1) := by decide +kernel
theorem dX1_numberOf_5 : decode cX1_numberOf 5 = .ok (.iload_n 2, 1) := by decide +kernel
theorem dX1_numberOf_6 : decode cX1_numberOf 6 = .ok (.invokestatic 67, 3) := by decide +kernel
theorem dX1_numberOf_9 : decode cX1_numberOf 9 = .ok (.istore 4, 2) := by decide +kernel
theorem dX1_numberOf_11 : decode cX1_numberOf 11 = .ok (.iload 4, 2) := by decide +kernel
theorem dX1_numberOf_13 : decode cX1_numberOf 13 = .ok (.iload_n 3, 1) := by decide +kernel
theorem dX1_numberOf_14 : decode cX1_numberOf 14 = .ok (.if_icmp .ge 23, 3) := by decide +kernel
theorem dX1_numberOf_17 : decode cX1_numberOf 17 = .ok (.aload_n 0, 1) := by decide +kernel
theorem dX1_numberOf_18 : decode cX1_numberOf 18 = .ok (.getfield 18, 3) := by decide +kernel
theorem dX1_numberOf_21 : decode cX1_numberOf 21 = .ok (.iload 4, 2) := by decide +kernel
theorem dX1_numberOf_23 : decode cX1_numberOf 23 = .ok (.iaload, 1) := by decide +kernel
theorem dX1_numberOf_24 : decode cX1_numberOf 24 = .ok (.iload_n 1, 1) := by decide +kernel
theorem dX1_numberOf_25 : decode cX1_numberOf 25 = .ok (.if_icmp .ne 6, 3) := by decide +kernel
theorem dX1_numberOf_28 : decode cX1_numberOf 28 = .ok (.iload 4, 2) := by decide +kernel
theorem dX1_numberOf_30 : decode cX1_numberOf 30 = .ok (.ireturn, 1) := by decide +kernel
theorem dX1_numberOf_31 : decode cX1_numberOf 31 = .ok (.iinc 4 1, 3) := by decide +kernel
theorem dX1_numberOf_34 : decode cX1_numberOf 34 = .ok (.goto (-23), 3) := by decide +kernel
theorem dX1_numberOf_37 : decode cX1_numberOf 37 = .ok (.iconst (-1), 1) := by decide +kernel
theorem dX1_numberOf_38 : decode cX1_numberOf 38 = .ok (.ireturn, 1) := by decide +kernel
theorem dX1_measure_0 : decode cX1_measure 0 = .ok (.iconst 0, 1) := by decide +kernel
theorem dX1_measure_1 : decode cX1_measure 1 = .ok (.istore_n 2, 1) := by decide +kernel
theorem dX1_measure_2 : decode cX1_measure 2 = .ok (.aload_n 0, 1) := by decide +kernel
theorem dX1_measure_3 : decode cX1_measure 3 = .ok (.getfield 24, 3) := by decide +kernel
theorem dX1_measure_6 : decode cX1_measure 6 = .ok (.iload_n 1, 1) := by decide +kernel
theorem dX1_measure_7 : decode cX1_measure 7 = .ok (.iconst 1, 1) := by decide +kernel
theorem dX1_measure_8 : decode cX1_measure 8 = .ok (.iastore, 1) := by decide +kernel
theorem dX1_measure_9 : decode cX1_measure 9 = .ok (.iconst 0, 1) := by decide +kernel
theorem dX1_measure_10 : decode cX1_measure 10 = .ok (.istore_n 3, 1) := by decide +kernel
theorem dX1_measure_11 : decode cX1_measure 11 = .ok (.iload_n 3, 1) := by decide +kernel
theorem dX1_measure_12 : decode cX1_measure 12 = .ok (.bipush 6, 2) := by decide +kernel
theorem dX1_measure_14 : decode cX1_measure 14 = .ok (.if_icmp .ge 99, 3) := by decide +kernel
theorem dX1_measure_17 : decode cX1_measure 17 = .ok (.aload_n 0, 1) := by decide +kernel
theorem dX1_measure_18 : decode cX1_measure 18 = .ok (.iload_n 1, 1) := by decide +kernel
theorem dX1_measure_19 : decode cX1_measure 19 = .ok (.iload_n 3, 1) := by decide +kernel
theorem dX1_measure_20 : decode cX1_measure 20 = .ok (.invokevirtual 70, 3) := by decide +kernel
theorem dX1_measure_23 : decode cX1_measure 23 = .ok (.ifCond .le 90, 3) := by decide +kernel
theorem dX1_measure_26 : decode cX1_measure 26 = .ok (.aload_n 0, 1) := by decide +kernel
theorem dX1_measure_27 : decode cX1_measure 27 = .ok (.iload_n 1, 1) := by decide +kernel
theorem dX1_measure_28 : decode cX1_measure 28 = .ok (.iload_n 3, 1) := by decide +kernel
theorem dX1_measure_29 : decode cX1_measure 29 = .ok (.invokevirtual 70, 3) := by decide +kernel
theorem dX1_measure_32 : decode cX1_measure 32 = .ok (.istore 4, 2) := by decide +kernel
theorem dX1_measure_34 : decode cX1_measure 34 = .ok (.iload_n 3, 1) := by decide +kernel
theorem dX1_measure_35 : decode cX1_measure 35 = .ok (.ifCond .le 22, 3) := by decide +kernel
theorem dX1_measure_38 : decode cX1_measure 38 = .ok (.aload_n 0, 1) := by decide +kernel
theorem dX1_measure_39 : decode cX1_measure 39 = .ok (.iload_n 1, 1) := by decide +kernel
theorem dX1_measure_40 : decode cX1_measure 40 = .ok (.iload_n 3, 1) := by decide +kernel
theorem dX1_measure_41 : decode cX1_measure 41 = .ok (.iconst 1, 1) := by decide +kernel
theorem dX1_measure_42 : decode cX1_measure 42 = .ok (.isub, 1) := by decide +kernel
theorem dX1_measure_43 : decode cX1_measure 43 = .ok (.invokevirtual 70, 3) := by decide +kernel
theorem dX1_measure_46 : decode cX1_measure 46 = .ok (.iload 4, 2) := by decide +kernel
theorem dX1_measure_48 : decode cX1_measure 48 = .ok (.if_icmp .ne 9, 3) := by decide +kernel
theorem dX1_measure_51 : decode cX1_measure 51 = .ok (.iload_n 2, 1) := by decide +kernel
theorem dX1_measure_52 : decode cX1_measure 52 = .ok (.iconst 1, 1) := by decide +kernel
theorem dX1_measure_53 : decode cX1_measure 53 = .ok (.iadd, 1) := by decide +kernel
theorem dX1_measure_54 : decode cX1_measure 54 = .ok (.goto 4, 3) := by decide +kernel
theorem dX1_measure_57 : decode cX1_measure 57 = .ok (.iconst 1, 1) := by decide +kernel
theorem dX1_measure_58 : decode cX1_measure 58 = .ok (.istore_n 2, 1) := by decide +kernel
theorem dX1_measure_59 : decode cX1_measure 59 = .ok (.aload_n 0, 1) := by decide +kernel
theorem dX1_measure_60 : decode cX1_measure 60 = .ok (.getfield 9, 3) := by decide +kernel
theorem dX1_measure_63 : decode cX1_measure 63 = .ok (.iload_n 1, 1) := by decide +kernel
theorem dX1_measure_64 : decode cX1_measure 64 = .ok (.dup2, 1) := by decide +kernel
theorem dX1_measure_65 : decode cX1_measure 65 = .ok (.iaload, 1) := by decide +kernel
theorem dX1_measure_66 : decode cX1_measure 66 = .ok (.iload 4, 2) := by decide +kernel
theorem dX1_measure_68 : decode cX1_measure 68 = .ok (.iadd, 1) := by decide +kernel
theorem dX1_measure_69 : decode cX1_measure 69 = .ok (.iastore, 1) := by decide +kernel
theorem dX1_measure_70 : decode cX1_measure 70 = .ok (.aload_n 0, 1) := by decide +kernel
theorem dX1_measure_71 : decode cX1_measure 71 = .ok (.getfield 15, 3) := by decide +kernel
theorem dX1_measure_74 : decode cX1_measure 74 = .ok (.iload_n 1, 1) := by decide +kernel
theorem dX1_measure_75 : decode cX1_measure 75 = .ok (.dup2, 1) := by decide +kernel
theorem dX1_measure_76 : decode cX1_measure 76 = .ok (.iaload, 1) := by decide +kernel
theorem dX1_measure_77 : decode cX1_measure 77 = .ok (.iconst 1, 1) := by decide +kernel
theorem dX1_measure_78 : decode cX1_measure 78 = .ok (.iadd, 1) := by decide +kernel
theorem dX1_measure_79 : decode cX1_measure 79 = .ok (.iastore, 1) := by decide +kernel
theorem dX1_measure_80 : decode cX1_measure 80 = .ok (.aload_n 0, 1) := by decide +kernel
theorem dX1_measure_81 : decode cX1_measure 81 = .ok (.getfield 18, 3) := by decide +kernel
theorem dX1_measure_84 : decode cX1_measure 84 = .ok (.iload_n 1, 1) := by decide +kernel
theorem dX1_measure_85 : decode cX1_measure 85 = .ok (.dup2, 1) := by decide +kernel
theorem dX1_measure_86 : decode cX1_measure 86 = .ok (.iaload, 1) := by decide +kernel
theorem dX1_measure_87 : decode cX1_measure 87 = .ok (.iload 4, 2) := by decide +kernel
theorem dX1_measure_89 : decode cX1_measure 89 = .ok (.invokestatic 73, 3) := by decide +kernel
theorem dX1_measure_92 : decode cX1_measure 92 = .ok (.iadd, 1) := by decide +kernel
theorem dX1_measure_93 : decode cX1_measure 93 = .ok (.iastore, 1) := by decide +kernel
theorem dX1_measure_94 : decode cX1_measure 94 = .ok (.aload_n 0, 1) := by decide +kernel
theorem dX1_measure_95 : decode cX1_measure 95 = .ok (.getfield 24, 3) := by decide +kernel
theorem dX1_measure_98 : decode cX1_measure 98 = .ok (.iload_n 1, 1) := by decide +kernel
theorem dX1_measure_99 : decode cX1_measure 99 = .ok (.dup2, 1) := by decide +kernel
theorem dX1_measure_100 : decode cX1_measure 100 = .ok (.iaload, 1) := by decide +kernel
theorem dX1_measure_101 : decode cX1_measure 101 = .ok (.iload 4, 2) := by decide +kernel
theorem dX1_measure_103 : decode cX1_measure 103 = .ok (.iload_n 2, 1) := by decide +kernel
theorem dX1_measure_104 : decode cX1_measure 104 = .ok (.imul, 1) := by decide +kernel
theorem dX1_measure_105 : decode cX1_measure 105 = .ok (.imul, 1) := by decide +kernel
theorem dX1_measure_106 : decode cX1_measure 106 = .ok (.iastore, 1) := by decide +kernel
theorem dX1_measure_107 : decode cX1_measure 107 = .ok (.iinc 3 1, 3) := by decide +kernel
theorem dX1_measure_110 : decode cX1_measure 110 = .ok (.goto (-99), 3) := by decide +kernel
theorem dX1_measure_113 : decode cX1_measure 113 = .ok (.return_, 1) := by decide +kernel
theorem dX1_findConjugate_0 : decode cX1_findConjugate 0 = .ok (.iconst 0, 1) := by decide +kernel
theorem dX1_findConjugate_1 : decode cX1_findConjugate 1 = .ok (.istore_n 2, 1) := by decide +kernel
theorem dX1_findConjugate_2 : decode cX1_findConjugate 2 = .ok (.iconst 1, 1) := by decide +kernel
theorem dX1_findConjugate_3 : decode cX1_findConjugate 3 = .ok (.istore_n 3, 1) := by decide +kernel
theorem dX1_findConjugate_4 : decode cX1_findConjugate 4 = .ok (.iload_n 3, 1) := by decide +kernel
theorem dX1_findConjugate_5 : decode cX1_findConjugate 5 = .ok (.bipush 6, 2) := by decide +kernel
theorem dX1_findConjugate_7 : decode cX1_findConjugate 7 = .ok (.if_icmp .gt 50, 3) := by decide +kernel
theorem dX1_findConjugate_10 : decode cX1_findConjugate 10 = .ok (.iconst 0, 1) := by decide +kernel
theorem dX1_findConjugate_11 : decode cX1_findConjugate 11 = .ok (.istore 4, 2) := by decide +kernel
theorem dX1_findConjugate_13 : decode cX1_findConjugate 13 = .ok (.iconst 0, 1) := by decide +kernel
theorem dX1_findConjugate_14 : decode cX1_findConjugate 14 = .ok (.istore 5, 2) := by decide +kernel
theorem dX1_findConjugate_16 : decode cX1_findConjugate 16 = .ok (.iload 5, 2) := by decide +kernel
theorem dX1_findConjugate_18 : decode cX1_findConjugate 18 = .ok (.bipush 6, 2) := by decide +kernel
theorem dX1_findConjugate_20 : decode cX1_findConjugate 20 = .ok (.if_icmp .ge 23, 3) := by decide +kernel
theorem dX1_findConjugate_23 : decode cX1_findConjugate 23 = .ok (.aload_n 0, 1) := by decide +kernel
theorem dX1_findConjugate_24 : decode cX1_findConjugate 24 = .ok (.iload_n 1, 1) := by decide +kernel
theorem dX1_findConjugate_25 : decode cX1_findConjugate 25 = .ok (.iload 5, 2) := by decide +kernel
theorem dX1_findConjugate_27 : decode cX1_findConjugate 27 = .ok (.invokevirtual 70, 3) := by decide +kernel
theorem dX1_findConjugate_30 : decode cX1_findConjugate 30 = .ok (.iload_n 3, 1) := by decide +kernel
theorem dX1_findConjugate_31 : decode cX1_findConjugate 31 = .ok (.if_icmp .lt 6, 3) := by decide +kernel
theorem dX1_findConjugate_34 : decode cX1_findConjugate 34 = .ok (.iinc 4 1, 3) := by decide +kernel
theorem dX1_findConjugate_37 : decode cX1_findConjugate 37 = .ok (.iinc 5 1, 3) := by decide +kernel
theorem dX1_findConjugate_40 : decode cX1_findConjugate 40 = .ok (.goto (-24), 3) := by decide +kernel
theorem dX1_findConjugate_43 : decode cX1_findConjugate 43 = .ok (.iload_n 2, 1) := by decide +kernel
theorem dX1_findConjugate_44 : decode cX1_findConjugate 44 = .ok (.iload 4, 2) := by decide +kernel
theorem dX1_findConjugate_46 : decode cX1_findConjugate 46 = .ok (.invokestatic 73, 3) := by decide +kernel
theorem dX1_findConjugate_49 : decode cX1_findConjugate 49 = .ok (.iadd, 1) := by decide +kernel
theorem dX1_findConjugate_50 : decode cX1_findConjugate 50 = .ok (.istore_n 2, 1) := by decide +kernel
theorem dX1_findConjugate_51 : decode cX1_findConjugate 51 = .ok (.iinc 3 1, 3) := by decide +kernel
theorem dX1_findConjugate_54 : decode cX1_findConjugate 54 = .ok (.goto (-50), 3) := by decide +kernel
theorem dX1_findConjugate_57 : decode cX1_findConjugate 57 = .ok (.aload_n 0, 1) := by decide +kernel
theorem dX1_findConjugate_58 : decode cX1_findConjugate 58 = .ok (.iload_n 2, 1) := by decide +kernel
theorem dX1_findConjugate_59 : decode cX1_findConjugate 59 = .ok (.aload_n 0, 1) := by decide +kernel
theorem dX1_findConjugate_60 : decode cX1_findConjugate 60 = .ok (.getfield 9, 3) := by decide +kernel
theorem dX1_findConjugate_63 : decode cX1_findConjugate 63 = .ok (.iload_n 1, 1) := by decide +kernel
theorem dX1_findConjugate_64 : decode cX1_findConjugate 64 = .ok (.iaload, 1) := by decide +kernel
theorem dX1_findConjugate_65 : decode cX1_findConjugate 65 = .ok (.invokevirtual 44, 3) := by decide +kernel
theorem dX1_findConjugate_68 : decode cX1_findConjugate 68 = .ok (.ireturn, 1) := by decide +kernel
theorem dX1_joined_0 : decode cX1_joined 0 = .ok (.iload_n 1, 1) := by decide +kernel
theorem dX1_joined_1 : decode cX1_joined 1 = .ok (.invokestatic 54, 3) := by decide +kernel
theorem dX1_joined_4 : decode cX1_joined 4 = .ok (.ifCond .eq 24, 3) := by decide +kernel
theorem dX1_joined_7 : decode cX1_joined 7 = .ok (.iload_n 2, 1) := by decide +kernel
theorem dX1_joined_8 : decode cX1_joined 8 = .ok (.invokestatic 54, 3) := by decide +kernel
theorem dX1_joined_11 : decode cX1_joined 11 = .ok (.ifCond .eq 17, 3) := by decide +kernel
theorem dX1_joined_14 : decode cX1_joined 14 = .ok (.aload_n 0, 1) := by decide +kernel
theorem dX1_joined_15 : decode cX1_joined 15 = .ok (.getfield 27, 3) := by decide +kernel
theorem dX1_joined_18 : decode cX1_joined 18 = .ok (.iload_n 1, 1) := by decide +kernel
theorem dX1_joined_19 : decode cX1_joined 19 = .ok (.bipush 30, 2) := by decide +kernel
theorem dX1_joined_21 : decode cX1_joined 21 = .ok (.imul, 1) := by decide +kernel
theorem dX1_joined_22 : decode cX1_joined 22 = .ok (.iload_n 2, 1) := by decide +kernel
theorem dX1_joined_23 : decode cX1_joined 23 = .ok (.iadd, 1) := by decide +kernel
theorem dX1_joined_24 : decode cX1_joined 24 = .ok (.iaload, 1) := by decide +kernel
theorem dX1_joined_25 : decode cX1_joined 25 = .ok (.goto 4, 3) := by decide +kernel
theorem dX1_joined_28 : decode cX1_joined 28 = .ok (.iconst (-1), 1) := by decide +kernel
theorem dX1_joined_29 : decode cX1_joined 29 = .ok (.ireturn, 1) := by decide +kernel
theorem dX1_multiplied_0 : decode cX1_multiplied 0 = .ok (.iconst 0, 1) := by decide +kernel
theorem dX1_multiplied_1 : decode cX1_multiplied 1 = .ok (.istore_n 3, 1) := by decide +kernel
theorem dX1_multiplied_2 : decode cX1_multiplied 2 = .ok (.iconst 0, 1) := by decide +kernel
theorem dX1_multiplied_3 : decode cX1_multiplied 3 = .ok (.istore 4, 2) := by decide +kernel
theorem dX1_multiplied_5 : decode cX1_multiplied 5 = .ok (.iconst 0, 1) := by decide +kernel
theorem dX1_multiplied_6 : decode cX1_multiplied 6 = .ok (.istore 5, 2) := by decide +kernel
theorem dX1_multiplied_8 : decode cX1_multiplied 8 = .ok (.iload 5, 2) := by decide +kernel
theorem dX1_multiplied_10 : decode cX1_multiplied 10 = .ok (.bipush 6, 2) := by decide +kernel
theorem dX1_multiplied_12 : decode cX1_multiplied 12 = .ok (.if_icmp .ge 38, 3) := by decide +kernel
theorem dX1_multiplied_15 : decode cX1_multiplied 15 = .ok (.iload_n 3, 1) := by decide +kernel
theorem dX1_multiplied_16 : decode cX1_multiplied 16 = .ok (.iload_n 2, 1) := by decide +kernel
theorem dX1_multiplied_17 : decode cX1_multiplied 17 = .ok (.aload_n 0, 1) := by decide +kernel
theorem dX1_multiplied_18 : decode cX1_multiplied 18 = .ok (.iload_n 1, 1) := by decide +kernel
theorem dX1_multiplied_19 : decode cX1_multiplied 19 = .ok (.iload 5, 2) := by decide +kernel
theorem dX1_multiplied_21 : decode cX1_multiplied 21 = .ok (.invokevirtual 70, 3) := by decide +kernel
theorem dX1_multiplied_24 : decode cX1_multiplied 24 = .ok (.imul, 1) := by decide +kernel
theorem dX1_multiplied_25 : decode cX1_multiplied 25 = .ok (.invokestatic 73, 3) := by decide +kernel
theorem dX1_multiplied_28 : decode cX1_multiplied 28 = .ok (.iadd, 1) := by decide +kernel
theorem dX1_multiplied_29 : decode cX1_multiplied 29 = .ok (.istore_n 3, 1) := by decide +kernel
theorem dX1_multiplied_30 : decode cX1_multiplied 30 = .ok (.iload 4, 2) := by decide +kernel
theorem dX1_multiplied_32 : decode cX1_multiplied 32 = .ok (.iload_n 2, 1) := by decide +kernel
theorem dX1_multiplied_33 : decode cX1_multiplied 33 = .ok (.aload_n 0, 1) := by decide +kernel
theorem dX1_multiplied_34 : decode cX1_multiplied 34 = .ok (.iload_n 1, 1) := by decide +kernel
theorem dX1_multiplied_35 : decode cX1_multiplied 35 = .ok (.iload 5, 2) := by decide +kernel
theorem dX1_multiplied_37 : decode cX1_multiplied 37 = .ok (.invokevirtual 70, 3) := by decide +kernel
theorem dX1_multiplied_40 : decode cX1_multiplied 40 = .ok (.imul, 1) := by decide +kernel
theorem dX1_multiplied_41 : decode cX1_multiplied 41 = .ok (.iadd, 1) := by decide +kernel
theorem dX1_multiplied_42 : decode cX1_multiplied 42 = .ok (.istore 4, 2) := by decide +kernel
theorem dX1_multiplied_44 : decode cX1_multiplied 44 = .ok (.iinc 5 1, 3) := by decide +kernel
theorem dX1_multiplied_47 : decode cX1_multiplied 47 = .ok (.goto (-39), 3) := by decide +kernel
theorem dX1_multiplied_50 : decode cX1_multiplied 50 = .ok (.aload_n 0, 1) := by decide +kernel
theorem dX1_multiplied_51 : decode cX1_multiplied 51 = .ok (.iload_n 3, 1) := by decide +kernel
theorem dX1_multiplied_52 : decode cX1_multiplied 52 = .ok (.iload 4, 2) := by decide +kernel
theorem dX1_multiplied_54 : decode cX1_multiplied 54 = .ok (.invokevirtual 44, 3) := by decide +kernel
theorem dX1_multiplied_57 : decode cX1_multiplied 57 = .ok (.ireturn, 1) := by decide +kernel
theorem dX1_kostkaOf_0 : decode cX1_kostkaOf 0 = .ok (.iload_n 1, 1) := by decide +kernel
theorem dX1_kostkaOf_1 : decode cX1_kostkaOf 1 = .ok (.invokestatic 54, 3) := by decide +kernel
theorem dX1_kostkaOf_4 : decode cX1_kostkaOf 4 = .ok (.ifCond .eq 24, 3) := by decide +kernel
theorem dX1_kostkaOf_7 : decode cX1_kostkaOf 7 = .ok (.iload_n 2, 1) := by decide +kernel
theorem dX1_kostkaOf_8 : decode cX1_kostkaOf 8 = .ok (.invokestatic 54, 3) := by decide +kernel
theorem dX1_kostkaOf_11 : decode cX1_kostkaOf 11 = .ok (.ifCond .eq 17, 3) := by decide +kernel
theorem dX1_kostkaOf_14 : decode cX1_kostkaOf 14 = .ok (.aload_n 0, 1) := by decide +kernel
theorem dX1_kostkaOf_15 : decode cX1_kostkaOf 15 = .ok (.getfield 30, 3) := by decide +kernel
theorem dX1_kostkaOf_18 : decode cX1_kostkaOf 18 = .ok (.iload_n 1, 1) := by decide +kernel
theorem dX1_kostkaOf_19 : decode cX1_kostkaOf 19 = .ok (.bipush 30, 2) := by decide +kernel
theorem dX1_kostkaOf_21 : decode cX1_kostkaOf 21 = .ok (.imul, 1) := by decide +kernel
theorem dX1_kostkaOf_22 : decode cX1_kostkaOf 22 = .ok (.iload_n 2, 1) := by decide +kernel
theorem dX1_kostkaOf_23 : decode cX1_kostkaOf 23 = .ok (.iadd, 1) := by decide +kernel
theorem dX1_kostkaOf_24 : decode cX1_kostkaOf 24 = .ok (.iaload, 1) := by decide +kernel
theorem dX1_kostkaOf_25 : decode cX1_kostkaOf 25 = .ok (.goto 4, 3) := by decide +kernel
theorem dX1_kostkaOf_28 : decode cX1_kostkaOf 28 = .ok (.iconst 0, 1) := by decide +kernel
theorem dX1_kostkaOf_29 : decode cX1_kostkaOf 29 = .ok (.ireturn, 1) := by decide +kernel
theorem dX1_characterOf_0 : decode cX1_characterOf 0 = .ok (.iload_n 1, 1) := by decide +kernel
theorem dX1_characterOf_1 : decode cX1_characterOf 1 = .ok (.invokestatic 54, 3) := by decide +kernel
theorem dX1_characterOf_4 : decode cX1_characterOf 4 = .ok (.ifCond .eq 24, 3) := by decide +kernel
theorem dX1_characterOf_7 : decode cX1_characterOf 7 = .ok (.iload_n 2, 1) := by decide +kernel
theorem dX1_characterOf_8 : decode cX1_characterOf 8 = .ok (.invokestatic 54, 3) := by decide +kernel
theorem dX1_characterOf_11 : decode cX1_characterOf 11 = .ok (.ifCond .eq 17, 3) := by decide +kernel
theorem dX1_characterOf_14 : decode cX1_characterOf 14 = .ok (.aload_n 0, 1) := by decide +kernel
theorem dX1_characterOf_15 : decode cX1_characterOf 15 = .ok (.getfield 33, 3) := by decide +kernel
theorem dX1_characterOf_18 : decode cX1_characterOf 18 = .ok (.iload_n 1, 1) := by decide +kernel
theorem dX1_characterOf_19 : decode cX1_characterOf 19 = .ok (.bipush 30, 2) := by decide +kernel
theorem dX1_characterOf_21 : decode cX1_characterOf 21 = .ok (.imul, 1) := by decide +kernel
theorem dX1_characterOf_22 : decode cX1_characterOf 22 = .ok (.iload_n 2, 1) := by decide +kernel
theorem dX1_characterOf_23 : decode cX1_characterOf 23 = .ok (.iadd, 1) := by decide +kernel
theorem dX1_characterOf_24 : decode cX1_characterOf 24 = .ok (.iaload, 1) := by decide +kernel
theorem dX1_characterOf_25 : decode cX1_characterOf 25 = .ok (.goto 4, 3) := by decide +kernel
theorem dX1_characterOf_28 : decode cX1_characterOf 28 = .ok (.iconst 0, 1) := by decide +kernel
theorem dX1_characterOf_29 : decode cX1_characterOf 29 = .ok (.ireturn, 1) := by decide +kernel
theorem dX1_isAbove_0 : decode cX1_isAbove 0 = .ok (.aload_n 0, 1) := by decide +kernel
theorem dX1_isAbove_1 : decode cX1_isAbove 1 = .ok (.getfield 9, 3) := by decide +kernel
theorem dX1_isAbove_4 : decode cX1_isAbove 4 = .ok (.iload_n 1, 1) := by decide +kernel
theorem dX1_isAbove_5 : decode cX1_isAbove 5 = .ok (.iaload, 1) := by decide +kernel
theorem dX1_isAbove_6 : decode cX1_isAbove 6 = .ok (.aload_n 0, 1) := by decide +kernel
theorem dX1_isAbove_7 : decode cX1_isAbove 7 = .ok (.getfield 9, 3) := by decide +kernel
theorem dX1_isAbove_10 : decode cX1_isAbove 10 = .ok (.iload_n 2, 1) := by decide +kernel
theorem dX1_isAbove_11 : decode cX1_isAbove 11 = .ok (.iaload, 1) := by decide +kernel
theorem dX1_isAbove_12 : decode cX1_isAbove 12 = .ok (.if_icmp .eq 5, 3) := by decide +kernel
theorem dX1_isAbove_15 : decode cX1_isAbove 15 = .ok (.iconst 0, 1) := by decide +kernel
theorem dX1_isAbove_16 : decode cX1_isAbove 16 = .ok (.ireturn, 1) := by decide +kernel
theorem dX1_isAbove_17 : decode cX1_isAbove 17 = .ok (.iconst 0, 1) := by decide +kernel
theorem dX1_isAbove_18 : decode cX1_isAbove 18 = .ok (.istore_n 3, 1) := by decide +kernel
theorem dX1_isAbove_19 : decode cX1_isAbove 19 = .ok (.iconst 0, 1) := by decide +kernel
theorem dX1_isAbove_20 : decode cX1_isAbove 20 = .ok (.istore 4, 2) := by decide +kernel
theorem dX1_isAbove_22 : decode cX1_isAbove 22 = .ok (.iload 4, 2) := by decide +kernel
theorem dX1_isAbove_24 : decode cX1_isAbove 24 = .ok (.bipush 6, 2) := by decide +kernel
theorem dX1_isAbove_26 : decode cX1_isAbove 26 = .ok (.if_icmp .ge 33, 3) := by decide +kernel
theorem dX1_isAbove_29 : decode cX1_isAbove 29 = .ok (.iload_n 3, 1) := by decide +kernel
theorem dX1_isAbove_30 : decode cX1_isAbove 30 = .ok (.aload_n 0, 1) := by decide +kernel
theorem dX1_isAbove_31 : decode cX1_isAbove 31 = .ok (.iload_n 1, 1) := by decide +kernel
theorem dX1_isAbove_32 : decode cX1_isAbove 32 = .ok (.iload 4, 2) := by decide +kernel
theorem dX1_isAbove_34 : decode cX1_isAbove 34 = .ok (.invokevirtual 70, 3) := by decide +kernel
theorem dX1_isAbove_37 : decode cX1_isAbove 37 = .ok (.aload_n 0, 1) := by decide +kernel
theorem dX1_isAbove_38 : decode cX1_isAbove 38 = .ok (.iload_n 2, 1) := by decide +kernel
theorem dX1_isAbove_39 : decode cX1_isAbove 39 = .ok (.iload 4, 2) := by decide +kernel
theorem dX1_isAbove_41 : decode cX1_isAbove 41 = .ok (.invokevirtual 70, 3) := by decide +kernel
theorem dX1_isAbove_44 : decode cX1_isAbove 44 = .ok (.isub, 1) := by decide +kernel
theorem dX1_isAbove_45 : decode cX1_isAbove 45 = .ok (.iadd, 1) := by decide +kernel
theorem dX1_isAbove_46 : decode cX1_isAbove 46 = .ok (.istore_n 3, 1) := by decide +kernel
theorem dX1_isAbove_47 : decode cX1_isAbove 47 = .ok (.iload_n 3, 1) := by decide +kernel
theorem dX1_isAbove_48 : decode cX1_isAbove 48 = .ok (.ifCond .ge 5, 3) := by decide +kernel
theorem dX1_isAbove_51 : decode cX1_isAbove 51 = .ok (.iconst 0, 1) := by decide +kernel
theorem dX1_isAbove_52 : decode cX1_isAbove 52 = .ok (.ireturn, 1) := by decide +kernel
theorem dX1_isAbove_53 : decode cX1_isAbove 53 = .ok (.iinc 4 1, 3) := by decide +kernel
theorem dX1_isAbove_56 : decode cX1_isAbove 56 = .ok (.goto (-34), 3) := by decide +kernel
theorem dX1_isAbove_59 : decode cX1_isAbove 59 = .ok (.iconst 1, 1) := by decide +kernel
theorem dX1_isAbove_60 : decode cX1_isAbove 60 = .ok (.ireturn, 1) := by decide +kernel
theorem dX1_fillColumn_0 : decode cX1_fillColumn 0 = .ok (.aload_n 0, 1) := by decide +kernel
theorem dX1_fillColumn_1 : decode cX1_fillColumn 1 = .ok (.iload_n 1, 1) := by decide +kernel
theorem dX1_fillColumn_2 : decode cX1_fillColumn 2 = .ok (.aload_n 0, 1) := by decide +kernel
theorem dX1_fillColumn_3 : decode cX1_fillColumn 3 = .ok (.getfield 15, 3) := by decide +kernel
theorem dX1_fillColumn_6 : decode cX1_fillColumn 6 = .ok (.iload_n 1, 1) := by decide +kernel
theorem dX1_fillColumn_7 : decode cX1_fillColumn 7 = .ok (.iaload, 1) := by decide +kernel
theorem dX1_fillColumn_8 : decode cX1_fillColumn 8 = .ok (.iconst 1, 1) := by decide +kernel
theorem dX1_fillColumn_9 : decode cX1_fillColumn 9 = .ok (.isub, 1) := by decide +kernel
theorem dX1_fillColumn_10 : decode cX1_fillColumn 10 = .ok (.invokevirtual 70, 3) := by decide +kernel
theorem dX1_fillColumn_13 : decode cX1_fillColumn 13 = .ok (.istore_n 2, 1) := by decide +kernel
theorem dX1_fillColumn_14 : decode cX1_fillColumn 14 = .ok (.aload_n 0, 1) := by decide +kernel
theorem dX1_fillColumn_15 : decode cX1_fillColumn 15 = .ok (.getfield 9, 3) := by decide +kernel
theorem dX1_fillColumn_18 : decode cX1_fillColumn 18 = .ok (.iload_n 1, 1) := by decide +kernel
theorem dX1_fillColumn_19 : decode cX1_fillColumn 19 = .ok (.iaload, 1) := by decide +kernel
theorem dX1_fillColumn_20 : decode cX1_fillColumn 20 = .ok (.iload_n 2, 1) := by decide +kernel
theorem dX1_fillColumn_21 : decode cX1_fillColumn 21 = .ok (.isub, 1) := by decide +kernel
theorem dX1_fillColumn_22 : decode cX1_fillColumn 22 = .ok (.istore_n 3, 1) := by decide +kernel
theorem dX1_fillColumn_23 : decode cX1_fillColumn 23 = .ok (.aload_n 0, 1) := by decide +kernel
theorem dX1_fillColumn_24 : decode cX1_fillColumn 24 = .ok (.aload_n 0, 1) := by decide +kernel
theorem dX1_fillColumn_25 : decode cX1_fillColumn 25 = .ok (.getfield 18, 3) := by decide +kernel
theorem dX1_fillColumn_28 : decode cX1_fillColumn 28 = .ok (.iload_n 1, 1) := by decide +kernel
theorem dX1_fillColumn_29 : decode cX1_fillColumn 29 = .ok (.iaload, 1) := by decide +kernel
theorem dX1_fillColumn_30 : decode cX1_fillColumn 30 = .ok (.iload_n 2, 1) := by decide +kernel
theorem dX1_fillColumn_31 : decode cX1_fillColumn 31 = .ok (.invokestatic 73, 3) := by decide +kernel
theorem dX1_fillColumn_34 : decode cX1_fillColumn 34 = .ok (.isub, 1) := by decide +kernel
theorem dX1_fillColumn_35 : decode cX1_fillColumn 35 = .ok (.iload_n 3, 1) := by decide +kernel
theorem dX1_fillColumn_36 : decode cX1_fillColumn 36 = .ok (.invokevirtual 44, 3) := by decide +kernel
theorem dX1_fillColumn_39 : decode cX1_fillColumn 39 = .ok (.istore 4, 2) := by decide +kernel
theorem dX1_fillColumn_41 : decode cX1_fillColumn 41 = .ok (.aload_n 0, 1) := by decide +kernel
theorem dX1_fillColumn_42 : decode cX1_fillColumn 42 = .ok (.getfield 9, 3) := by decide +kernel
theorem dX1_fillColumn_45 : decode cX1_fillColumn 45 = .ok (.iload_n 1, 1) := by decide +kernel
theorem dX1_fillColumn_46 : decode cX1_fillColumn 46 = .ok (.iaload, 1) := by decide +kernel
theorem dX1_fillColumn_47 : decode cX1_fillColumn 47 = .ok (.invokestatic 67, 3) := by decide +kernel
theorem dX1_fillColumn_50 : decode cX1_fillColumn 50 = .ok (.istore 5, 2) := by decide +kernel
theorem dX1_fillColumn_52 : decode cX1_fillColumn 52 = .ok (.iload 5, 2) := by decide +kernel
theorem dX1_fillColumn_54 : decode cX1_fillColumn 54 = .ok (.aload_n 0, 1) := by decide +kernel
theorem dX1_fillColumn_55 : decode cX1_fillColumn 55 = .ok (.getfield 9, 3) := by decide +kernel
theorem dX1_fillColumn_58 : decode cX1_fillColumn 58 = .ok (.iload_n 1, 1) := by decide +kernel
theorem dX1_fillColumn_59 : decode cX1_fillColumn 59 = .ok (.iaload, 1) := by decide +kernel
theorem dX1_fillColumn_60 : decode cX1_fillColumn 60 = .ok (.invokestatic 64, 3) := by decide +kernel
theorem dX1_fillColumn_63 : decode cX1_fillColumn 63 = .ok (.if_icmp .ge 114, 3) := by decide +kernel
theorem dX1_fillColumn_66 : decode cX1_fillColumn 66 = .ok (.iconst 0, 1) := by decide +kernel
theorem dX1_fillColumn_67 : decode cX1_fillColumn 67 = .ok (.istore 6, 2) := by decide +kernel
theorem dX1_fillColumn_69 : decode cX1_fillColumn 69 = .ok (.iconst 0, 1) := by decide +kernel
theorem dX1_fillColumn_70 : decode cX1_fillColumn 70 = .ok (.istore 7, 2) := by decide +kernel
theorem dX1_fillColumn_72 : decode cX1_fillColumn 72 = .ok (.iload_n 3, 1) := by decide +kernel
theorem dX1_fillColumn_73 : decode cX1_fillColumn 73 = .ok (.invokestatic 67, 3) := by decide +kernel
theorem dX1_fillColumn_76 : decode cX1_fillColumn 76 = .ok (.istore 8, 2) := by decide +kernel
theorem dX1_fillColumn_78 : decode cX1_fillColumn 78 = .ok (.iload 8, 2) := by decide +kernel
theorem dX1_fillColumn_80 : decode cX1_fillColumn 80 = .ok (.iload_n 3, 1) := by decide +kernel
theorem dX1_fillColumn_81 : decode cX1_fillColumn 81 = .ok (.invokestatic 64, 3) := by decide +kernel
theorem dX1_fillColumn_84 : decode cX1_fillColumn 84 = .ok (.if_icmp .ge 59, 3) := by decide +kernel
theorem dX1_fillColumn_87 : decode cX1_fillColumn 87 = .ok (.iload 6, 2) := by decide +kernel
theorem dX1_fillColumn_89 : decode cX1_fillColumn 89 = .ok (.aload_n 0, 1) := by decide +kernel
theorem dX1_fillColumn_90 : decode cX1_fillColumn 90 = .ok (.iload 5, 2) := by decide +kernel
theorem dX1_fillColumn_92 : decode cX1_fillColumn 92 = .ok (.iload 8, 2) := by decide +kernel
theorem dX1_fillColumn_94 : decode cX1_fillColumn 94 = .ok (.invokevirtual 76, 3) := by decide +kernel
theorem dX1_fillColumn_97 : decode cX1_fillColumn 97 = .ok (.ifCond .eq 14, 3) := by decide +kernel
theorem dX1_fillColumn_100 : decode cX1_fillColumn 100 = .ok (.aload_n 0, 1) := by decide +kernel
theorem dX1_fillColumn_101 : decode cX1_fillColumn 101 = .ok (.iload 8, 2) := by decide +kernel
theorem dX1_fillColumn_103 : decode cX1_fillColumn 103 = .ok (.iload 4, 2) := by decide +kernel
theorem dX1_fillColumn_105 : decode cX1_fillColumn 105 = .ok (.invokevirtual 80, 3) := by decide +kernel
theorem dX1_fillColumn_108 : decode cX1_fillColumn 108 = .ok (.goto 4, 3) := by decide +kernel
theorem dX1_fillColumn_111 : decode cX1_fillColumn 111 = .ok (.iconst 0, 1) := by decide +kernel
theorem dX1_fillColumn_112 : decode cX1_fillColumn 112 = .ok (.iadd, 1) := by decide +kernel
theorem dX1_fillColumn_113 : decode cX1_fillColumn 113 = .ok (.istore 6, 2) := by decide +kernel
theorem dX1_fillColumn_115 : decode cX1_fillColumn 115 = .ok (.iload 7, 2) := by decide +kernel
theorem dX1_fillColumn_117 : decode cX1_fillColumn 117 = .ok (.aload_n 0, 1) := by decide +kernel
theorem dX1_fillColumn_118 : decode cX1_fillColumn 118 = .ok (.iload 5, 2) := by decide +kernel
theorem dX1_fillColumn_120 : decode cX1_fillColumn 120 = .ok (.iload 8, 2) := by decide +kernel
theorem dX1_fillColumn_122 : decode cX1_fillColumn 122 = .ok (.invokevirtual 83, 3) := by decide +kernel
theorem dX1_fillColumn_125 : decode cX1_fillColumn 125 = .ok (.aload_n 0, 1) := by decide +kernel
theorem dX1_fillColumn_126 : decode cX1_fillColumn 126 = .ok (.iload 8, 2) := by decide +kernel
theorem dX1_fillColumn_128 : decode cX1_fillColumn 128 = .ok (.iload 4, 2) := by decide +kernel
theorem dX1_fillColumn_130 : decode cX1_fillColumn 130 = .ok (.invokevirtual 86, 3) := by decide +kernel
theorem dX1_fillColumn_133 : decode cX1_fillColumn 133 = .ok (.imul, 1) := by decide +kernel
theorem dX1_fillColumn_134 : decode cX1_fillColumn 134 = .ok (.iadd, 1) := by decide +kernel
theorem dX1_fillColumn_135 : decode cX1_fillColumn 135 = .ok (.istore 7, 2) := by decide +kernel
theorem dX1_fillColumn_137 : decode cX1_fillColumn 137 = .ok (.iinc 8 1, 3) := by decide +kernel
theorem dX1_fillColumn_140 : decode cX1_fillColumn 140 = .ok (.goto (-62), 3) := by decide +kernel
theorem dX1_fillColumn_143 : decode cX1_fillColumn 143 = .ok (.aload_n 0, 1) := by decide +kernel
theorem dX1_fillColumn_144 : decode cX1_fillColumn 144 = .ok (.getfield 30, 3) := by decide +kernel
theorem dX1_fillColumn_147 : decode cX1_fillColumn 147 = .ok (.iload 5, 2) := by decide +kernel
theorem dX1_fillColumn_149 : decode cX1_fillColumn 149 = .ok (.bipush 30, 2) := by decide +kernel
theorem dX1_fillColumn_151 : decode cX1_fillColumn 151 = .ok (.imul, 1) := by decide +kernel
theorem dX1_fillColumn_152 : decode cX1_fillColumn 152 = .ok (.iload_n 1, 1) := by decide +kernel
theorem dX1_fillColumn_153 : decode cX1_fillColumn 153 = .ok (.iadd, 1) := by decide +kernel
theorem dX1_fillColumn_154 : decode cX1_fillColumn 154 = .ok (.iload 6, 2) := by decide +kernel
theorem dX1_fillColumn_156 : decode cX1_fillColumn 156 = .ok (.iastore, 1) := by decide +kernel
theorem dX1_fillColumn_157 : decode cX1_fillColumn 157 = .ok (.aload_n 0, 1) := by decide +kernel
theorem dX1_fillColumn_158 : decode cX1_fillColumn 158 = .ok (.getfield 33, 3) := by decide +kernel
theorem dX1_fillColumn_161 : decode cX1_fillColumn 161 = .ok (.iload 5, 2) := by decide +kernel
theorem dX1_fillColumn_163 : decode cX1_fillColumn 163 = .ok (.bipush 30, 2) := by decide +kernel
theorem dX1_fillColumn_165 : decode cX1_fillColumn 165 = .ok (.imul, 1) := by decide +kernel
theorem dX1_fillColumn_166 : decode cX1_fillColumn 166 = .ok (.iload_n 1, 1) := by decide +kernel
theorem dX1_fillColumn_167 : decode cX1_fillColumn 167 = .ok (.iadd, 1) := by decide +kernel
theorem dX1_fillColumn_168 : decode cX1_fillColumn 168 = .ok (.iload 7, 2) := by decide +kernel
theorem dX1_fillColumn_170 : decode cX1_fillColumn 170 = .ok (.iastore, 1) := by decide +kernel
theorem dX1_fillColumn_171 : decode cX1_fillColumn 171 = .ok (.iinc 5 1, 3) := by decide +kernel
theorem dX1_fillColumn_174 : decode cX1_fillColumn 174 = .ok (.goto (-122), 3) := by decide +kernel
theorem dX1_fillColumn_177 : decode cX1_fillColumn 177 = .ok (.return_, 1) := by decide +kernel
theorem dX1_isRowStrip_0 : decode cX1_isRowStrip 0 = .ok (.iconst 0, 1) := by decide +kernel
theorem dX1_isRowStrip_1 : decode cX1_isRowStrip 1 = .ok (.istore_n 3, 1) := by decide +kernel
theorem dX1_isRowStrip_2 : decode cX1_isRowStrip 2 = .ok (.iload_n 3, 1) := by decide +kernel
theorem dX1_isRowStrip_3 : decode cX1_isRowStrip 3 = .ok (.bipush 6, 2) := by decide +kernel
theorem dX1_isRowStrip_5 : decode cX1_isRowStrip 5 = .ok (.if_icmp .ge 43, 3) := by decide +kernel
theorem dX1_isRowStrip_8 : decode cX1_isRowStrip 8 = .ok (.aload_n 0, 1) := by decide +kernel
theorem dX1_isRowStrip_9 : decode cX1_isRowStrip 9 = .ok (.iload_n 2, 1) := by decide +kernel
theorem dX1_isRowStrip_10 : decode cX1_isRowStrip 10 = .ok (.iload_n 3, 1) := by decide +kernel
theorem dX1_isRowStrip_11 : decode cX1_isRowStrip 11 = .ok (.invokevirtual 70, 3) := by decide +kernel
theorem dX1_isRowStrip_14 : decode cX1_isRowStrip 14 = .ok (.aload_n 0, 1) := by decide +kernel
theorem dX1_isRowStrip_15 : decode cX1_isRowStrip 15 = .ok (.iload_n 1, 1) := by decide +kernel
theorem dX1_isRowStrip_16 : decode cX1_isRowStrip 16 = .ok (.iload_n 3, 1) := by decide +kernel
theorem dX1_isRowStrip_17 : decode cX1_isRowStrip 17 = .ok (.invokevirtual 70, 3) := by decide +kernel
theorem dX1_isRowStrip_20 : decode cX1_isRowStrip 20 = .ok (.if_icmp .gt 20, 3) := by decide +kernel
theorem dX1_isRowStrip_23 : decode cX1_isRowStrip 23 = .ok (.aload_n 0, 1) := by decide +kernel
theorem dX1_isRowStrip_24 : decode cX1_isRowStrip 24 = .ok (.iload_n 2, 1) := by decide +kernel
theorem dX1_isRowStrip_25 : decode cX1_isRowStrip 25 = .ok (.iload_n 3, 1) := by decide +kernel
theorem dX1_isRowStrip_26 : decode cX1_isRowStrip 26 = .ok (.invokevirtual 70, 3) := by decide +kernel
theorem dX1_isRowStrip_29 : decode cX1_isRowStrip 29 = .ok (.aload_n 0, 1) := by decide +kernel
theorem dX1_isRowStrip_30 : decode cX1_isRowStrip 30 = .ok (.iload_n 1, 1) := by decide +kernel
theorem dX1_isRowStrip_31 : decode cX1_isRowStrip 31 = .ok (.iload_n 3, 1) := by decide +kernel
theorem dX1_isRowStrip_32 : decode cX1_isRowStrip 32 = .ok (.iconst 1, 1) := by decide +kernel
theorem dX1_isRowStrip_33 : decode cX1_isRowStrip 33 = .ok (.iadd, 1) := by decide +kernel
theorem dX1_isRowStrip_34 : decode cX1_isRowStrip 34 = .ok (.invokevirtual 70, 3) := by decide +kernel
theorem dX1_isRowStrip_37 : decode cX1_isRowStrip 37 = .ok (.if_icmp .ge 5, 3) := by decide +kernel
theorem dX1_isRowStrip_40 : decode cX1_isRowStrip 40 = .ok (.iconst 0, 1) := by decide +kernel
theorem dX1_isRowStrip_41 : decode cX1_isRowStrip 41 = .ok (.ireturn, 1) := by decide +kernel
theorem dX1_isRowStrip_42 : decode cX1_isRowStrip 42 = .ok (.iinc 3 1, 3) := by decide +kernel
theorem dX1_isRowStrip_45 : decode cX1_isRowStrip 45 = .ok (.goto (-43), 3) := by decide +kernel
theorem dX1_isRowStrip_48 : decode cX1_isRowStrip 48 = .ok (.iconst 1, 1) := by decide +kernel
theorem dX1_isRowStrip_49 : decode cX1_isRowStrip 49 = .ok (.ireturn, 1) := by decide +kernel
theorem dX1_rimSign_0 : decode cX1_rimSign 0 = .ok (.bipush 6, 2) := by decide +kernel
theorem dX1_rimSign_2 : decode cX1_rimSign 2 = .ok (.istore_n 3, 1) := by decide +kernel
theorem dX1_rimSign_3 : decode cX1_rimSign 3 = .ok (.iconst (-1), 1) := by decide +kernel
theorem dX1_rimSign_4 : decode cX1_rimSign 4 = .ok (.istore 4, 2) := by decide +kernel
theorem dX1_rimSign_6 : decode cX1_rimSign 6 = .ok (.iconst 0, 1) := by decide +kernel
theorem dX1_rimSign_7 : decode cX1_rimSign 7 = .ok (.istore 5, 2) := by decide +kernel
theorem dX1_rimSign_9 : decode cX1_rimSign 9 = .ok (.iload 5, 2) := by decide +kernel
theorem dX1_rimSign_11 : decode cX1_rimSign 11 = .ok (.bipush 6, 2) := by decide +kernel
theorem dX1_rimSign_13 : decode cX1_rimSign 13 = .ok (.if_icmp .ge 56, 3) := by decide +kernel
theorem dX1_rimSign_16 : decode cX1_rimSign 16 = .ok (.aload_n 0, 1) := by decide +kernel
theorem dX1_rimSign_17 : decode cX1_rimSign 17 = .ok (.iload_n 2, 1) := by decide +kernel
theorem dX1_rimSign_18 : decode cX1_rimSign 18 = .ok (.iload 5, 2) := by decide +kernel
theorem dX1_rimSign_20 : decode cX1_rimSign 20 = .ok (.invokevirtual 70, 3) := by decide +kernel
theorem dX1_rimSign_23 : decode cX1_rimSign 23 = .ok (.aload_n 0, 1) := by decide +kernel
theorem dX1_rimSign_24 : decode cX1_rimSign 24 = .ok (.iload_n 1, 1) := by decide +kernel
theorem dX1_rimSign_25 : decode cX1_rimSign 25 = .ok (.iload 5, 2) := by decide +kernel
theorem dX1_rimSign_27 : decode cX1_rimSign 27 = .ok (.invokevirtual 70, 3) := by decide +kernel
theorem dX1_rimSign_30 : decode cX1_rimSign 30 = .ok (.if_icmp .le 5, 3) := by decide +kernel
theorem dX1_rimSign_33 : decode cX1_rimSign 33 = .ok (.iconst 0, 1) := by decide +kernel
theorem dX1_rimSign_34 : decode cX1_rimSign 34 = .ok (.ireturn, 1) := by decide +kernel
theorem dX1_rimSign_35 : decode cX1_rimSign 35 = .ok (.aload_n 0, 1) := by decide +kernel
theorem dX1_rimSign_36 : decode cX1_rimSign 36 = .ok (.iload_n 2, 1) := by decide +kernel
theorem dX1_rimSign_37 : decode cX1_rimSign 37 = .ok (.iload 5, 2) := by decide +kernel
theorem dX1_rimSign_39 : decode cX1_rimSign 39 = .ok (.invokevirtual 70, 3) := by decide +kernel
theorem dX1_rimSign_42 : decode cX1_rimSign 42 = .ok (.aload_n 0, 1) := by decide +kernel
theorem dX1_rimSign_43 : decode cX1_rimSign 43 = .ok (.iload_n 1, 1) := by decide +kernel
theorem dX1_rimSign_44 : decode cX1_rimSign 44 = .ok (.iload 5, 2) := by decide +kernel
theorem dX1_rimSign_46 : decode cX1_rimSign 46 = .ok (.invokevirtual 70, 3) := by decide +kernel
theorem dX1_rimSign_49 : decode cX1_rimSign 49 = .ok (.if_icmp .ge 14, 3) := by decide +kernel
theorem dX1_rimSign_52 : decode cX1_rimSign 52 = .ok (.iload_n 3, 1) := by decide +kernel
theorem dX1_rimSign_53 : decode cX1_rimSign 53 = .ok (.iload 5, 2) := by decide +kernel
theorem dX1_rimSign_55 : decode cX1_rimSign 55 = .ok (.invokestatic 89, 3) := by decide +kernel
theorem dX1_rimSign_58 : decode cX1_rimSign 58 = .ok (.istore_n 3, 1) := by decide +kernel
theorem dX1_rimSign_59 : decode cX1_rimSign 59 = .ok (.iload 5, 2) := by decide +kernel
theorem dX1_rimSign_61 : decode cX1_rimSign 61 = .ok (.istore 4, 2) := by decide +kernel
theorem dX1_rimSign_63 : decode cX1_rimSign 63 = .ok (.iinc 5 1, 3) := by decide +kernel
theorem dX1_rimSign_66 : decode cX1_rimSign 66 = .ok (.goto (-57), 3) := by decide +kernel
theorem dX1_rimSign_69 : decode cX1_rimSign 69 = .ok (.iload_n 3, 1) := by decide +kernel
theorem dX1_rimSign_70 : decode cX1_rimSign 70 = .ok (.istore 5, 2) := by decide +kernel
theorem dX1_rimSign_72 : decode cX1_rimSign 72 = .ok (.iload 5, 2) := by decide +kernel
theorem dX1_rimSign_74 : decode cX1_rimSign 74 = .ok (.iload 4, 2) := by decide +kernel
theorem dX1_rimSign_76 : decode cX1_rimSign 76 = .ok (.if_icmp .ge 32, 3) := by decide +kernel
theorem dX1_rimSign_79 : decode cX1_rimSign 79 = .ok (.aload_n 0, 1) := by decide +kernel
theorem dX1_rimSign_80 : decode cX1_rimSign 80 = .ok (.iload_n 2, 1) := by decide +kernel
theorem dX1_rimSign_81 : decode cX1_rimSign 81 = .ok (.iload 5, 2) := by decide +kernel
theorem dX1_rimSign_83 : decode cX1_rimSign 83 = .ok (.invokevirtual 70, 3) := by decide +kernel
theorem dX1_rimSign_86 : decode cX1_rimSign 86 = .ok (.aload_n 0, 1) := by decide +kernel
theorem dX1_rimSign_87 : decode cX1_rimSign 87 = .ok (.iload_n 1, 1) := by decide +kernel
theorem dX1_rimSign_88 : decode cX1_rimSign 88 = .ok (.iload 5, 2) := by decide +kernel
theorem dX1_rimSign_90 : decode cX1_rimSign 90 = .ok (.iconst 1, 1) := by decide +kernel
theorem dX1_rimSign_91 : decode cX1_rimSign 91 = .ok (.iadd, 1) := by decide +kernel
theorem dX1_rimSign_92 : decode cX1_rimSign 92 = .ok (.invokevirtual 70, 3) := by decide +kernel
theorem dX1_rimSign_95 : decode cX1_rimSign 95 = .ok (.iconst 1, 1) := by decide +kernel
theorem dX1_rimSign_96 : decode cX1_rimSign 96 = .ok (.isub, 1) := by decide +kernel
theorem dX1_rimSign_97 : decode cX1_rimSign 97 = .ok (.if_icmp .eq 5, 3) := by decide +kernel
theorem dX1_rimSign_100 : decode cX1_rimSign 100 = .ok (.iconst 0, 1) := by decide +kernel
theorem dX1_rimSign_101 : decode cX1_rimSign 101 = .ok (.ireturn, 1) := by decide +kernel
theorem dX1_rimSign_102 : decode cX1_rimSign 102 = .ok (.iinc 5 1, 3) := by decide +kernel
theorem dX1_rimSign_105 : decode cX1_rimSign 105 = .ok (.goto (-33), 3) := by decide +kernel
theorem dX1_rimSign_108 : decode cX1_rimSign 108 = .ok (.iload 4, 2) := by decide +kernel
theorem dX1_rimSign_110 : decode cX1_rimSign 110 = .ok (.iload_n 3, 1) := by decide +kernel
theorem dX1_rimSign_111 : decode cX1_rimSign 111 = .ok (.isub, 1) := by decide +kernel
theorem dX1_rimSign_112 : decode cX1_rimSign 112 = .ok (.iconst 2, 1) := by decide +kernel
theorem dX1_rimSign_113 : decode cX1_rimSign 113 = .ok (.irem, 1) := by decide +kernel
theorem dX1_rimSign_114 : decode cX1_rimSign 114 = .ok (.ifCond .ne 7, 3) := by decide +kernel
theorem dX1_rimSign_117 : decode cX1_rimSign 117 = .ok (.iconst 1, 1) := by decide +kernel
theorem dX1_rimSign_118 : decode cX1_rimSign 118 = .ok (.goto 4, 3) := by decide +kernel
theorem dX1_rimSign_121 : decode cX1_rimSign 121 = .ok (.iconst (-1), 1) := by decide +kernel
theorem dX1_rimSign_122 : decode cX1_rimSign 122 = .ok (.ireturn, 1) := by decide +kernel
theorem dX2_init_0 : decode cX2_init 0 = .ok (.aload_n 0, 1) := by decide +kernel
theorem dX2_init_1 : decode cX2_init 1 = .ok (.invokespecial 3, 3) := by decide +kernel
theorem dX2_init_4 : decode cX2_init 4 = .ok (.aload_n 0, 1) := by decide +kernel
theorem dX2_init_5 : decode cX2_init 5 = .ok (.bipush 7, 2) := by decide +kernel
theorem dX2_init_7 : decode cX2_init 7 = .ok (.bipush 30, 2) := by decide +kernel
theorem dX2_init_9 : decode cX2_init 9 = .ok (.multianewarray 9 2, 4) := by decide +kernel
theorem dX2_init_13 : decode cX2_init 13 = .ok (.putfield 11, 3) := by decide +kernel
theorem dX2_init_16 : decode cX2_init 16 = .ok (.aload_n 0, 1) := by decide +kernel
theorem dX2_init_17 : decode cX2_init 17 = .ok (.bipush 30, 2) := by decide +kernel
theorem dX2_init_19 : decode cX2_init 19 = .ok (.newarray .long, 2) := by decide +kernel
theorem dX2_init_21 : decode cX2_init 21 = .ok (.putfield 16, 3) := by decide +kernel
theorem dX2_init_24 : decode cX2_init 24 = .ok (.aload_n 0, 1) := by decide +kernel
theorem dX2_init_25 : decode cX2_init 25 = .ok (.bipush 30, 2) := by decide +kernel
theorem dX2_init_27 : decode cX2_init 27 = .ok (.newarray .long, 2) := by decide +kernel
theorem dX2_init_29 : decode cX2_init 29 = .ok (.putfield 20, 3) := by decide +kernel
theorem dX2_init_32 : decode cX2_init 32 = .ok (.aload_n 0, 1) := by decide +kernel
theorem dX2_init_33 : decode cX2_init 33 = .ok (.aload_n 1, 1) := by decide +kernel
theorem dX2_init_34 : decode cX2_init 34 = .ok (.putfield 23, 3) := by decide +kernel
theorem dX2_init_37 : decode cX2_init 37 = .ok (.return_, 1) := by decide +kernel
theorem dX2_scalarOf_0 : decode cX2_scalarOf 0 = .ok (.lconst 0, 1) := by decide +kernel
theorem dX2_scalarOf_1 : decode cX2_scalarOf 1 = .ok (.lstore_n 2, 1) := by decide +kernel
theorem dX2_scalarOf_2 : decode cX2_scalarOf 2 = .ok (.iconst 0, 1) := by decide +kernel
theorem dX2_scalarOf_3 : decode cX2_scalarOf 3 = .ok (.istore 4, 2) := by decide +kernel
theorem dX2_scalarOf_5 : decode cX2_scalarOf 5 = .ok (.iload 4, 2) := by decide +kernel
theorem dX2_scalarOf_7 : decode cX2_scalarOf 7 = .ok (.bipush 30, 2) := by decide +kernel
theorem dX2_scalarOf_9 : decode cX2_scalarOf 9 = .ok (.if_icmp .ge 21, 3) := by decide +kernel
theorem dX2_scalarOf_12 : decode cX2_scalarOf 12 = .ok (.lload_n 2, 1) := by decide +kernel
theorem dX2_scalarOf_13 : decode cX2_scalarOf 13 = .ok (.aload_n 0, 1) := by decide +kernel
theorem dX2_scalarOf_14 : decode cX2_scalarOf 14 = .ok (.iload 4, 2) := by decide +kernel
theorem dX2_scalarOf_16 : decode cX2_scalarOf 16 = .ok (.laload, 1) := by decide +kernel
theorem dX2_scalarOf_17 : decode cX2_scalarOf 17 = .ok (.aload_n 1, 1) := by decide +kernel
theorem dX2_scalarOf_18 : decode cX2_scalarOf 18 = .ok (.iload 4, 2) := by decide +kernel
theorem dX2_scalarOf_20 : decode cX2_scalarOf 20 = .ok (.laload, 1) := by decide +kernel
theorem dX2_scalarOf_21 : decode cX2_scalarOf 21 = .ok (.lmul, 1) := by decide +kernel
theorem dX2_scalarOf_22 : decode cX2_scalarOf 22 = .ok (.ladd, 1) := by decide +kernel
theorem dX2_scalarOf_23 : decode cX2_scalarOf 23 = .ok (.lstore_n 2, 1) := by decide +kernel
theorem dX2_scalarOf_24 : decode cX2_scalarOf 24 = .ok (.iinc 4 1, 3) := by decide +kernel
theorem dX2_scalarOf_27 : decode cX2_scalarOf 27 = .ok (.goto (-22), 3) := by decide +kernel
theorem dX2_scalarOf_30 : decode cX2_scalarOf 30 = .ok (.lload_n 2, 1) := by decide +kernel
theorem dX2_scalarOf_31 : decode cX2_scalarOf 31 = .ok (.lreturn, 1) := by decide +kernel
theorem dX2_multiply_0 : decode cX2_multiply 0 = .ok (.aload_n 3, 1) := by decide +kernel
theorem dX2_multiply_1 : decode cX2_multiply 1 = .ok (.lconst 0, 1) := by decide +kernel
theorem dX2_multiply_2 : decode cX2_multiply 2 = .ok (.invokestatic 27, 3) := by decide +kernel
theorem dX2_multiply_5 : decode cX2_multiply 5 = .ok (.iconst 0, 1) := by decide +kernel
theorem dX2_multiply_6 : decode cX2_multiply 6 = .ok (.istore 4, 2) := by decide +kernel
theorem dX2_multiply_8 : decode cX2_multiply 8 = .ok (.iload 4, 2) := by decide +kernel
theorem dX2_multiply_10 : decode cX2_multiply 10 = .ok (.bipush 30, 2) := by decide +kernel
theorem dX2_multiply_12 : decode cX2_multiply 12 = .ok (.if_icmp .ge 30, 3) := by decide +kernel
theorem dX2_multiply_15 : decode cX2_multiply 15 = .ok (.aload_n 1, 1) := by decide +kernel
theorem dX2_multiply_16 : decode cX2_multiply 16 = .ok (.iload 4, 2) := by decide +kernel
theorem dX2_multiply_18 : decode cX2_multiply 18 = .ok (.laload, 1) := by decide +kernel
theorem dX2_multiply_19 : decode cX2_multiply 19 = .ok (.lconst 0, 1) := by decide +kernel
theorem dX2_multiply_20 : decode cX2_multiply 20 = .ok (.lcmp, 1) := by decide +kernel
theorem dX2_multiply_21 : decode cX2_multiply 21 = .ok (.ifCond .eq 15, 3) := by decide +kernel
theorem dX2_multiply_24 : decode cX2_multiply 24 = .ok (.aload_n 0, 1) := by decide +kernel
theorem dX2_multiply_25 : decode cX2_multiply 25 = .ok (.iload 4, 2) := by decide +kernel
theorem dX2_multiply_27 : decode cX2_multiply 27 = .ok (.aload_n 1, 1) := by decide +kernel
theorem dX2_multiply_28 : decode cX2_multiply 28 = .ok (.iload 4, 2) := by decide +kernel
theorem dX2_multiply_30 : decode cX2_multiply 30 = .ok (.laload, 1) := by decide +kernel
theorem dX2_multiply_31 : decode cX2_multiply 31 = .ok (.aload_n 2, 1) := by decide +kernel
theorem dX2_multiply_32 : decode cX2_multiply 32 = .ok (.aload_n 3, 1) := by decide +kernel
theorem dX2_multiply_33 : decode cX2_multiply 33 = .ok (.invokevirtual 33, 3) := by decide +kernel
theorem dX2_multiply_36 : decode cX2_multiply 36 = .ok (.iinc 4 1, 3) := by decide +kernel
theorem dX2_multiply_39 : decode cX2_multiply 39 = .ok (.goto (-31), 3) := by decide +kernel
theorem dX2_multiply_42 : decode cX2_multiply 42 = .ok (.aload_n 3, 1) := by decide +kernel
theorem dX2_multiply_43 : decode cX2_multiply 43 = .ok (.invokestatic 37, 3) := by decide +kernel
theorem dX2_multiply_46 : decode cX2_multiply 46 = .ok (.return_, 1) := by decide +kernel
theorem dX2_addJoined_0 : decode cX2_addJoined 0 = .ok (.bipush 6, 2) := by decide +kernel
theorem dX2_addJoined_2 : decode cX2_addJoined 2 = .ok (.aload_n 0, 1) := by decide +kernel
theorem dX2_addJoined_3 : decode cX2_addJoined 3 = .ok (.getfield 23, 3) := by decide +kernel
theorem dX2_addJoined_6 : decode cX2_addJoined 6 = .ok (.getfield 41, 3) := by decide +kernel
theorem dX2_addJoined_9 : decode cX2_addJoined 9 = .ok (.iload_n 1, 1) := by decide +kernel
theorem dX2_addJoined_10 : decode cX2_addJoined 10 = .ok (.iaload, 1) := by decide +kernel
theorem dX2_addJoined_11 : decode cX2_addJoined 11 = .ok (.isub, 1) := by decide +kernel
theorem dX2_addJoined_12 : decode cX2_addJoined 12 = .ok (.invokestatic 47, 3) := by decide +kernel
theorem dX2_addJoined_15 : decode cX2_addJoined 15 = .ok (.istore 6, 2) := by decide +kernel
theorem dX2_addJoined_17 : decode cX2_addJoined 17 = .ok (.iconst 0, 1) := by decide +kernel
theorem dX2_addJoined_18 : decode cX2_addJoined 18 = .ok (.istore 7, 2) := by decide +kernel
theorem dX2_addJoined_20 : decode cX2_addJoined 20 = .ok (.iload 7, 2) := by decide +kernel
theorem dX2_addJoined_22 : decode cX2_addJoined 22 = .ok (.iload 6, 2) := by decide +kernel
theorem dX2_addJoined_24 : decode cX2_addJoined 24 = .ok (.if_icmp .ge 44, 3) := by decide +kernel
theorem dX2_addJoined_27 : decode cX2_addJoined 27 = .ok (.aload_n 0, 1) := by decide +kernel
theorem dX2_addJoined_28 : decode cX2_addJoined 28 = .ok (.getfield 23, 3) := by decide +kernel
theorem dX2_addJoined_31 : decode cX2_addJoined 31 = .ok (.iload_n 1, 1) := by decide +kernel
theorem dX2_addJoined_32 : decode cX2_addJoined 32 = .ok (.iload 7, 2) := by decide +kernel
theorem dX2_addJoined_34 : decode cX2_addJoined 34 = .ok (.invokevirtual 51, 3) := by decide +kernel
theorem dX2_addJoined_37 : decode cX2_addJoined 37 = .ok (.istore 8, 2) := by decide +kernel
theorem dX2_addJoined_39 : decode cX2_addJoined 39 = .ok (.iload 8, 2) := by decide +kernel
theorem dX2_addJoined_41 : decode cX2_addJoined 41 = .ok (.invokestatic 55, 3) := by decide +kernel
theorem dX2_addJoined_44 : decode cX2_addJoined 44 = .ok (.ifCond .eq 18, 3) := by decide +kernel
theorem dX2_addJoined_47 : decode cX2_addJoined 47 = .ok (.aload 5, 2) := by decide +kernel
theorem dX2_addJoined_49 : decode cX2_addJoined 49 = .ok (.iload 8, 2) := by decide +kernel
theorem dX2_addJoined_51 : decode cX2_addJoined 51 = .ok (.dup2, 1) := by decide +kernel
theorem dX2_addJoined_52 : decode cX2_addJoined 52 = .ok (.laload, 1) := by decide +kernel
theorem dX2_addJoined_53 : decode cX2_addJoined 53 = .ok (.lload_n 2, 1) := by decide +kernel
theorem dX2_addJoined_54 : decode cX2_addJoined 54 = .ok (.aload 4, 2) := by decide +kernel
theorem dX2_addJoined_56 : decode cX2_addJoined 56 = .ok (.iload 7, 2) := by decide +kernel
theorem dX2_addJoined_58 : decode cX2_addJoined 58 = .ok (.laload, 1) := by decide +kernel
theorem dX2_addJoined_59 : decode cX2_addJoined 59 = .ok (.lmul, 1) := by decide +kernel
theorem dX2_addJoined_60 : decode cX2_addJoined 60 = .ok (.ladd, 1) := by decide +kernel
theorem dX2_addJoined_61 : decode cX2_addJoined 61 = .ok (.lastore, 1) := by decide +kernel
theorem dX2_addJoined_62 : decode cX2_addJoined 62 = .ok (.iinc 7 1, 3) := by decide +kernel
theorem dX2_addJoined_65 : decode cX2_addJoined 65 = .ok (.goto (-45), 3) := by decide +kernel
theorem dX2_addJoined_68 : decode cX2_addJoined 68 = .ok (.return_, 1) := by decide +kernel
theorem dX2_divideByCommon_0 : decode cX2_divideByCommon 0 = .ok (.iconst 0, 1) := by decide +kernel
theorem dX2_divideByCommon_1 : decode cX2_divideByCommon 1 = .ok (.istore_n 1, 1) := by decide +kernel
theorem dX2_divideByCommon_2 : decode cX2_divideByCommon 2 = .ok (.iload_n 1, 1) := by decide +kernel
theorem dX2_divideByCommon_3 : decode cX2_divideByCommon 3 = .ok (.bipush 30, 2) := by decide +kernel
theorem dX2_divideByCommon_5 : decode cX2_divideByCommon 5 = .ok (.if_icmp .ge 18, 3) := by decide +kernel
theorem dX2_divideByCommon_8 : decode cX2_divideByCommon 8 = .ok (.aload_n 0, 1) := by decide +kernel
theorem dX2_divideByCommon_9 : decode cX2_divideByCommon 9 = .ok (.iload_n 1, 1) := by decide +kernel
theorem dX2_divideByCommon_10 : decode cX2_divideByCommon 10 = .ok (.dup2, 1) := by decide +kernel
theorem dX2_divideByCommon_11 : decode cX2_divideByCommon 11 = .ok (.laload, 1) := by decide +kernel
theorem dX2_divideByCommon_12 : decode cX2_divideByCommon 12 = .ok (.ldc2_w 59, 3) := by decide +kernel
theorem dX2_divideByCommon_15 : decode cX2_divideByCommon 15 = .ok (.ldiv, 1) := by decide +kernel
theorem dX2_divideByCommon_16 : decode cX2_divideByCommon 16 = .ok (.lastore, 1) := by decide +kernel
theorem dX2_divideByCommon_17 : decode cX2_divideByCommon 17 = .ok (.iinc 1 1, 3) := by decide +kernel
theorem dX2_divideByCommon_20 : decode cX2_divideByCommon 20 = .ok (.goto (-18), 3) := by decide +kernel
theorem dX2_divideByCommon_23 : decode cX2_divideByCommon 23 = .ok (.return_, 1) := by decide +kernel
theorem dX2_scalarWithPower_0 : decode cX2_scalarWithPower 0 = .ok (.aload_n 2, 1) := by decide +kernel
theorem dX2_scalarWithPower_1 : decode cX2_scalarWithPower 1 = .ok (.iload_n 1, 1) := by decide +kernel
theorem dX2_scalarWithPower_2 : decode cX2_scalarWithPower 2 = .ok (.laload, 1) := by decide +kernel
theorem dX2_scalarWithPower_3 : decode cX2_scalarWithPower 3 = .ok (.aload_n 0, 1) := by decide +kernel
theorem dX2_scalarWithPower_4 : decode cX2_scalarWithPower 4 = .ok (.getfield 23, 3) := by decide +kernel
theorem dX2_scalarWithPower_7 : decode cX2_scalarWithPower 7 = .ok (.getfield 61, 3) := by decide +kernel
theorem dX2_scalarWithPower_10 : decode cX2_scalarWithPower 10 = .ok (.iload_n 1, 1) := by decide +kernel
theorem dX2_scalarWithPower_11 : decode cX2_scalarWithPower 11 = .ok (.iaload, 1) := by decide +kernel
theorem dX2_scalarWithPower_12 : decode cX2_scalarWithPower 12 = .ok (.i2l, 1) := by decide +kernel
theorem dX2_scalarWithPower_13 : decode cX2_scalarWithPower 13 = .ok (.lmul, 1) := by decide +kernel
theorem dX2_scalarWithPower_14 : decode cX2_scalarWithPower 14 = .ok (.ldc2_w 59, 3) := by decide +kernel
theorem dX2_scalarWithPower_17 : decode cX2_scalarWithPower 17 = .ok (.ldiv, 1) := by decide +kernel
theorem dX2_scalarWithPower_18 : decode cX2_scalarWithPower 18 = .ok (.lreturn, 1) := by decide +kernel
theorem dX2_stripOff_0 : decode cX2_stripOff 0 = .ok (.iconst 0, 1) := by decide +kernel
theorem dX2_stripOff_1 : decode cX2_stripOff 1 = .ok (.istore 4, 2) := by decide +kernel
theorem dX2_stripOff_3 : decode cX2_stripOff 3 = .ok (.iload 4, 2) := by decide +kernel
theorem dX2_stripOff_5 : decode cX2_stripOff 5 = .ok (.bipush 30, 2) := by decide +kernel
theorem dX2_stripOff_7 : decode cX2_stripOff 7 = .ok (.if_icmp .ge 50, 3) := by decide +kernel
theorem dX2_stripOff_10 : decode cX2_stripOff 10 = .ok (.aload_n 0, 1) := by decide +kernel
theorem dX2_stripOff_11 : decode cX2_stripOff 11 = .ok (.iload 4, 2) := by decide +kernel
theorem dX2_stripOff_13 : decode cX2_stripOff 13 = .ok (.aload_n 1, 1) := by decide +kernel
theorem dX2_stripOff_14 : decode cX2_stripOff 14 = .ok (.aload_n 2, 1) := by decide +kernel
theorem dX2_stripOff_15 : decode cX2_stripOff 15 = .ok (.invokevirtual 64, 3) := by decide +kernel
theorem dX2_stripOff_18 : decode cX2_stripOff 18 = .ok (.lstore 5, 2) := by decide +kernel
theorem dX2_stripOff_20 : decode cX2_stripOff 20 = .ok (.aload_n 0, 1) := by decide +kernel
theorem dX2_stripOff_21 : decode cX2_stripOff 21 = .ok (.getfield 23, 3) := by decide +kernel
theorem dX2_stripOff_24 : decode cX2_stripOff 24 = .ok (.getfield 61, 3) := by decide +kernel
theorem dX2_stripOff_27 : decode cX2_stripOff 27 = .ok (.iload 4, 2) := by decide +kernel
theorem dX2_stripOff_29 : decode cX2_stripOff 29 = .ok (.iaload, 1) := by decide +kernel
theorem dX2_stripOff_30 : decode cX2_stripOff 30 = .ok (.istore 7, 2) := by decide +kernel
theorem dX2_stripOff_32 : decode cX2_stripOff 32 = .ok (.aload_n 3, 1) := by decide +kernel
theorem dX2_stripOff_33 : decode cX2_stripOff 33 = .ok (.iload 4, 2) := by decide +kernel
theorem dX2_stripOff_35 : decode cX2_stripOff 35 = .ok (.iload 7, 2) := by decide +kernel
theorem dX2_stripOff_37 : decode cX2_stripOff 37 = .ok (.ifCond .le 12, 3) := by decide +kernel
theorem dX2_stripOff_40 : decode cX2_stripOff 40 = .ok (.lload 5, 2) := by decide +kernel
theorem dX2_stripOff_42 : decode cX2_stripOff 42 = .ok (.iload 7, 2) := by decide +kernel
theorem dX2_stripOff_44 : decode cX2_stripOff 44 = .ok (.i2l, 1) := by decide +kernel
theorem dX2_stripOff_45 : decode cX2_stripOff 45 = .ok (.ldiv, 1) := by decide +kernel
theorem dX2_stripOff_46 : decode cX2_stripOff 46 = .ok (.goto 4, 3) := by decide +kernel
theorem dX2_stripOff_49 : decode cX2_stripOff 49 = .ok (.lconst 0, 1) := by decide +kernel
theorem dX2_stripOff_50 : decode cX2_stripOff 50 = .ok (.lastore, 1) := by decide +kernel
theorem dX2_stripOff_51 : decode cX2_stripOff 51 = .ok (.iinc 4 1, 3) := by decide +kernel
theorem dX2_stripOff_54 : decode cX2_stripOff 54 = .ok (.goto (-51), 3) := by decide +kernel
theorem dX2_stripOff_57 : decode cX2_stripOff 57 = .ok (.return_, 1) := by decide +kernel
theorem dX2_scalarWithProduct_0 : decode cX2_scalarWithProduct 0 = .ok (.lconst 0, 1) := by decide +kernel
theorem dX2_scalarWithProduct_1 : decode cX2_scalarWithProduct 1 = .ok (.lstore 4, 2) := by decide +kernel
theorem dX2_scalarWithProduct_3 : decode cX2_scalarWithProduct 3 = .ok (.bipush 6, 2) := by decide +kernel
theorem dX2_scalarWithProduct_5 : decode cX2_scalarWithProduct 5 = .ok (.aload_n 0, 1) := by decide +kernel
theorem dX2_scalarWithProduct_6 : decode cX2_scalarWithProduct 6 = .ok (.getfield 23, 3) := by decide +kernel
theorem dX2_scalarWithProduct_9 : decode cX2_scalarWithProduct 9 = .ok (.getfield 41, 3) := by decide +kernel
theorem dX2_scalarWithProduct_12 : decode cX2_scalarWithProduct 12 = .ok (.iload_n 1, 1) := by decide +kernel
theorem dX2_scalarWithProduct_13 : decode cX2_scalarWithProduct 13 = .ok (.iaload, 1) := by decide +kernel
theorem dX2_scalarWithProduct_14 : decode cX2_scalarWithProduct 14 = .ok (.isub, 1) := by decide +kernel
theorem dX2_scalarWithProduct_15 : decode cX2_scalarWithProduct 15 = .ok (.invokestatic 47, 3) := by decide +kernel
theorem dX2_scalarWithProduct_18 : decode cX2_scalarWithProduct 18 = .ok (.istore 6, 2) := by decide +kernel
theorem dX2_scalarWithProduct_20 : decode cX2_scalarWithProduct 20 = .ok (.iconst 0, 1) := by decide +kernel
theorem dX2_scalarWithProduct_21 : decode cX2_scalarWithProduct 21 = .ok (.istore 7, 2) := by decide +kernel
theorem dX2_scalarWithProduct_23 : decode cX2_scalarWithProduct 23 = .ok (.iload 7, 2) := by decide +kernel
theorem dX2_scalarWithProduct_25 : decode cX2_scalarWithProduct 25 = .ok (.iload 6, 2) := by decide +kernel
theorem dX2_scalarWithProduct_27 : decode cX2_scalarWithProduct 27 = .ok (.if_icmp .ge 46, 3) := by decide +kernel
theorem dX2_scalarWithProduct_30 : decode cX2_scalarWithProduct 30 = .ok (.aload_n 0, 1) := by decide +kernel
theorem dX2_scalarWithProduct_31 : decode cX2_scalarWithProduct 31 = .ok (.getfield 23, 3) := by decide +kernel
theorem dX2_scalarWithProduct_34 : decode cX2_scalarWithProduct 34 = .ok (.iload_n 1, 1) := by decide +kernel
theorem dX2_scalarWithProduct_35 : decode cX2_scalarWithProduct 35 = .ok (.iload 7, 2) := by decide +kernel
theorem dX2_scalarWithProduct_37 : decode cX2_scalarWithProduct 37 = .ok (.invokevirtual 51, 3) := by decide +kernel
theorem dX2_scalarWithProduct_40 : decode cX2_scalarWithProduct 40 = .ok (.istore 8, 2) := by decide +kernel
theorem dX2_scalarWithProduct_42 : decode cX2_scalarWithProduct 42 = .ok (.iload 8, 2) := by decide +kernel
theorem dX2_scalarWithProduct_44 : decode cX2_scalarWithProduct 44 = .ok (.invokestatic 55, 3) := by decide +kernel
theorem dX2_scalarWithProduct_47 : decode cX2_scalarWithProduct 47 = .ok (.ifCond .eq 20, 3) := by decide +kernel
theorem dX2_scalarWithProduct_50 : decode cX2_scalarWithProduct 50 = .ok (.lload 4, 2) := by decide +kernel
theorem dX2_scalarWithProduct_52 : decode cX2_scalarWithProduct 52 = .ok (.aload_n 2, 1) := by decide +kernel
theorem dX2_scalarWithProduct_53 : decode cX2_scalarWithProduct 53 = .ok (.iload 7, 2) := by decide +kernel
theorem dX2_scalarWithProduct_55 : decode cX2_scalarWithProduct 55 = .ok (.laload, 1) := by decide +kernel
theorem dX2_scalarWithProduct_56 : decode cX2_scalarWithProduct 56 = .ok (.aload_n 0, 1) := by decide +kernel
theorem dX2_scalarWithProduct_57 : decode cX2_scalarWithProduct 57 = .ok (.iload 8, 2) := by decide +kernel
theorem dX2_scalarWithProduct_59 : decode cX2_scalarWithProduct 59 = .ok (.aload_n 3, 1) := by decide +kernel
theorem dX2_scalarWithProduct_60 : decode cX2_scalarWithProduct 60 = .ok (.invokevirtual 68, 3) := by decide +kernel
theorem dX2_scalarWithProduct_63 : decode cX2_scalarWithProduct 63 = .ok (.lmul, 1) := by decide +kernel
theorem dX2_scalarWithProduct_64 : decode cX2_scalarWithProduct 64 = .ok (.ladd, 1) := by decide +kernel
theorem dX2_scalarWithProduct_65 : decode cX2_scalarWithProduct 65 = .ok (.lstore 4, 2) := by decide +kernel
theorem dX2_scalarWithProduct_67 : decode cX2_scalarWithProduct 67 = .ok (.iinc 7 1, 3) := by decide +kernel
theorem dX2_scalarWithProduct_70 : decode cX2_scalarWithProduct 70 = .ok (.goto (-47), 3) := by decide +kernel
theorem dX2_scalarWithProduct_73 : decode cX2_scalarWithProduct 73 = .ok (.lload 4, 2) := by decide +kernel
theorem dX2_scalarWithProduct_75 : decode cX2_scalarWithProduct 75 = .ok (.lreturn, 1) := by decide +kernel
theorem dX2_meetWith_0 : decode cX2_meetWith 0 = .ok (.iconst 0, 1) := by decide +kernel
theorem dX2_meetWith_1 : decode cX2_meetWith 1 = .ok (.istore 4, 2) := by decide +kernel
theorem dX2_meetWith_3 : decode cX2_meetWith 3 = .ok (.iload 4, 2) := by decide +kernel
theorem dX2_meetWith_5 : decode cX2_meetWith 5 = .ok (.bipush 30, 2) := by decide +kernel
theorem dX2_meetWith_7 : decode cX2_meetWith 7 = .ok (.if_icmp .ge 25, 3) := by decide +kernel
theorem dX2_meetWith_10 : decode cX2_meetWith 10 = .ok (.aload_n 3, 1) := by decide +kernel
theorem dX2_meetWith_11 : decode cX2_meetWith 11 = .ok (.iload 4, 2) := by decide +kernel
theorem dX2_meetWith_13 : decode cX2_meetWith 13 = .ok (.aload_n 1, 1) := by decide +kernel
theorem dX2_meetWith_14 : decode cX2_meetWith 14 = .ok (.iload 4, 2) := by decide +kernel
theorem dX2_meetWith_16 : decode cX2_meetWith 16 = .ok (.laload, 1) := by decide +kernel
theorem dX2_meetWith_17 : decode cX2_meetWith 17 = .ok (.aload_n 0, 1) := by decide +kernel
theorem dX2_meetWith_18 : decode cX2_meetWith 18 = .ok (.iload 4, 2) := by decide +kernel
theorem dX2_meetWith_20 : decode cX2_meetWith 20 = .ok (.aload_n 2, 1) := by decide +kernel
theorem dX2_meetWith_21 : decode cX2_meetWith 21 = .ok (.invokevirtual 68, 3) := by decide +kernel
theorem dX2_meetWith_24 : decode cX2_meetWith 24 = .ok (.lmul, 1) := by decide +kernel
theorem dX2_meetWith_25 : decode cX2_meetWith 25 = .ok (.lastore, 1) := by decide +kernel
theorem dX2_meetWith_26 : decode cX2_meetWith 26 = .ok (.iinc 4 1, 3) := by decide +kernel
theorem dX2_meetWith_29 : decode cX2_meetWith 29 = .ok (.goto (-26), 3) := by decide +kernel
theorem dX2_meetWith_32 : decode cX2_meetWith 32 = .ok (.return_, 1) := by decide +kernel
theorem dX2_plugWith_0 : decode cX2_plugWith 0 = .ok (.iconst 1, 1) := by decide +kernel
theorem dX2_plugWith_1 : decode cX2_plugWith 1 = .ok (.istore 4, 2) := by decide +kernel
theorem dX2_plugWith_3 : decode cX2_plugWith 3 = .ok (.iload 4, 2) := by decide +kernel
theorem dX2_plugWith_5 : decode cX2_plugWith 5 = .ok (.bipush 6, 2) := by decide +kernel
theorem dX2_plugWith_7 : decode cX2_plugWith 7 = .ok (.if_icmp .gt 23, 3) := by decide +kernel
theorem dX2_plugWith_10 : decode cX2_plugWith 10 = .ok (.aload_n 0, 1) := by decide +kernel
theorem dX2_plugWith_11 : decode cX2_plugWith 11 = .ok (.aload_n 2, 1) := by decide +kernel
theorem dX2_plugWith_12 : decode cX2_plugWith 12 = .ok (.iload 4, 2) := by decide +kernel
theorem dX2_plugWith_14 : decode cX2_plugWith 14 = .ok (.aload_n 0, 1) := by decide +kernel
theorem dX2_plugWith_15 : decode cX2_plugWith 15 = .ok (.getfield 11, 3) := by decide +kernel
theorem dX2_plugWith_18 : decode cX2_plugWith 18 = .ok (.iload 4, 2) := by decide +kernel
theorem dX2_plugWith_20 : decode cX2_plugWith 20 = .ok (.aaload, 1) := by decide +kernel
theorem dX2_plugWith_21 : decode cX2_plugWith 21 = .ok (.invokevirtual 72, 3) := by decide +kernel
theorem dX2_plugWith_24 : decode cX2_plugWith 24 = .ok (.iinc 4 1, 3) := by decide +kernel
theorem dX2_plugWith_27 : decode cX2_plugWith 27 = .ok (.goto (-24), 3) := by decide +kernel
theorem dX2_plugWith_30 : decode cX2_plugWith 30 = .ok (.aload_n 3, 1) := by decide +kernel
theorem dX2_plugWith_31 : decode cX2_plugWith 31 = .ok (.lconst 0, 1) := by decide +kernel
theorem dX2_plugWith_32 : decode cX2_plugWith 32 = .ok (.invokestatic 27, 3) := by decide +kernel
theorem dX2_plugWith_35 : decode cX2_plugWith 35 = .ok (.iconst 0, 1) := by decide +kernel
theorem dX2_plugWith_36 : decode cX2_plugWith 36 = .ok (.istore 4, 2) := by decide +kernel
theorem dX2_plugWith_38 : decode cX2_plugWith 38 = .ok (.iload 4, 2) := by decide +kernel
theorem dX2_plugWith_40 : decode cX2_plugWith 40 = .ok (.bipush 30, 2) := by decide +kernel
theorem dX2_plugWith_42 : decode cX2_plugWith 42 = .ok (.if_icmp .ge 59, 3) := by decide +kernel
theorem dX2_plugWith_45 : decode cX2_plugWith 45 = .ok (.aload_n 1, 1) := by decide +kernel
theorem dX2_plugWith_46 : decode cX2_plugWith 46 = .ok (.iload 4, 2) := by decide +kernel
theorem dX2_plugWith_48 : decode cX2_plugWith 48 = .ok (.laload, 1) := by decide +kernel
theorem dX2_plugWith_49 : decode cX2_plugWith 49 = .ok (.lconst 0, 1) := by decide +kernel
theorem dX2_plugWith_50 : decode cX2_plugWith 50 = .ok (.lcmp, 1) := by decide +kernel
theorem dX2_plugWith_51 : decode cX2_plugWith 51 = .ok (.ifCond .eq 44, 3) := by decide +kernel
theorem dX2_plugWith_54 : decode cX2_plugWith 54 = .ok (.aload_n 0, 1) := by decide +kernel
theorem dX2_plugWith_55 : decode cX2_plugWith 55 = .ok (.iload 4, 2) := by decide +kernel
theorem dX2_plugWith_57 : decode cX2_plugWith 57 = .ok (.invokevirtual 76, 3) := by decide +kernel
theorem dX2_plugWith_60 : decode cX2_plugWith 60 = .ok (.iconst 0, 1) := by decide +kernel
theorem dX2_plugWith_61 : decode cX2_plugWith 61 = .ok (.istore 5, 2) := by decide +kernel
theorem dX2_plugWith_63 : decode cX2_plugWith 63 = .ok (.iload 5, 2) := by decide +kernel
theorem dX2_plugWith_65 : decode cX2_plugWith 65 = .ok (.bipush 30, 2) := by decide +kernel
theorem dX2_plugWith_67 : decode cX2_plugWith 67 = .ok (.if_icmp .ge 28, 3) := by decide +kernel
theorem dX2_plugWith_70 : decode cX2_plugWith 70 = .ok (.aload_n 3, 1) := by decide +kernel
theorem dX2_plugWith_71 : decode cX2_plugWith 71 = .ok (.iload 5, 2) := by decide +kernel
theorem dX2_plugWith_73 : decode cX2_plugWith 73 = .ok (.dup2, 1) := by decide +kernel
theorem dX2_plugWith_74 : decode cX2_plugWith 74 = .ok (.laload, 1) := by decide +kernel
theorem dX2_plugWith_75 : decode cX2_plugWith 75 = .ok (.aload_n 1, 1) := by decide +kernel
theorem dX2_plugWith_76 : decode cX2_plugWith 76 = .ok (.iload 4, 2) := by decide +kernel
theorem dX2_plugWith_78 : decode cX2_plugWith 78 = .ok (.laload, 1) := by decide +kernel
theorem dX2_plugWith_79 : decode cX2_plugWith 79 = .ok (.aload_n 0, 1) := by decide +kernel
theorem dX2_plugWith_80 : decode cX2_plugWith 80 = .ok (.getfield 16, 3) := by decide +kernel
theorem dX2_plugWith_83 : decode cX2_plugWith 83 = .ok (.iload 5, 2) := by decide +kernel
theorem dX2_plugWith_85 : decode cX2_plugWith 85 = .ok (.laload, 1) := by decide +kernel
theorem dX2_plugWith_86 : decode cX2_plugWith 86 = .ok (.lmul, 1) := by decide +kernel
theorem dX2_plugWith_87 : decode cX2_plugWith 87 = .ok (.ladd, 1) := by decide +kernel
theorem dX2_plugWith_88 : decode cX2_plugWith 88 = .ok (.lastore, 1) := by decide +kernel
theorem dX2_plugWith_89 : decode cX2_plugWith 89 = .ok (.iinc 5 1, 3) := by decide +kernel
theorem dX2_plugWith_92 : decode cX2_plugWith 92 = .ok (.goto (-29), 3) := by decide +kernel
theorem dX2_plugWith_95 : decode cX2_plugWith 95 = .ok (.iinc 4 1, 3) := by decide +kernel
theorem dX2_plugWith_98 : decode cX2_plugWith 98 = .ok (.goto (-60), 3) := by decide +kernel
theorem dX2_plugWith_101 : decode cX2_plugWith 101 = .ok (.aload_n 3, 1) := by decide +kernel
theorem dX2_plugWith_102 : decode cX2_plugWith 102 = .ok (.invokestatic 37, 3) := by decide +kernel
theorem dX2_plugWith_105 : decode cX2_plugWith 105 = .ok (.return_, 1) := by decide +kernel
theorem dX2_plugPower_0 : decode cX2_plugPower 0 = .ok (.aload_n 0, 1) := by decide +kernel
theorem dX2_plugPower_1 : decode cX2_plugPower 1 = .ok (.getfield 16, 3) := by decide +kernel
theorem dX2_plugPower_4 : decode cX2_plugPower 4 = .ok (.lconst 0, 1) := by decide +kernel
theorem dX2_plugPower_5 : decode cX2_plugPower 5 = .ok (.invokestatic 27, 3) := by decide +kernel
theorem dX2_plugPower_8 : decode cX2_plugPower 8 = .ok (.aload_n 0, 1) := by decide +kernel
theorem dX2_plugPower_9 : decode cX2_plugPower 9 = .ok (.getfield 16, 3) := by decide +kernel
theorem dX2_plugPower_12 : decode cX2_plugPower 12 = .ok (.iconst 0, 1) := by decide +kernel
theorem dX2_plugPower_13 : decode cX2_plugPower 13 = .ok (.ldc2_w 59, 3) := by decide +kernel
theorem dX2_plugPower_16 : decode cX2_plugPower 16 = .ok (.lastore, 1) := by decide +kernel
theorem dX2_plugPower_17 : decode cX2_plugPower 17 = .ok (.iconst 0, 1) := by decide +kernel
theorem dX2_plugPower_18 : decode cX2_plugPower 18 = .ok (.istore_n 2, 1) := by decide +kernel
theorem dX2_plugPower_19 : decode cX2_plugPower 19 = .ok (.iload_n 2, 1) := by decide +kernel
theorem dX2_plugPower_20 : decode cX2_plugPower 20 = .ok (.aload_n 0, 1) := by decide +kernel
theorem dX2_plugPower_21 : decode cX2_plugPower 21 = .ok (.getfield 23, 3) := by decide +kernel
theorem dX2_plugPower_24 : decode cX2_plugPower 24 = .ok (.getfield 80, 3) := by decide +kernel
theorem dX2_plugPower_27 : decode cX2_plugPower 27 = .ok (.iload_n 1, 1) := by decide +kernel
theorem dX2_plugPower_28 : decode cX2_plugPower 28 = .ok (.iaload, 1) := by decide +kernel
theorem dX2_plugPower_29 : decode cX2_plugPower 29 = .ok (.if_icmp .ge 62, 3) := by decide +kernel
theorem dX2_plugPower_32 : decode cX2_plugPower 32 = .ok (.aload_n 0, 1) := by decide +kernel
theorem dX2_plugPower_33 : decode cX2_plugPower 33 = .ok (.getfield 23, 3) := by decide +kernel
theorem dX2_plugPower_36 : decode cX2_plugPower 36 = .ok (.iload_n 1, 1) := by decide +kernel
theorem dX2_plugPower_37 : decode cX2_plugPower 37 = .ok (.iload_n 2, 1) := by decide +kernel
theorem dX2_plugPower_38 : decode cX2_plugPower 38 = .ok (.invokevirtual 83, 3) := by decide +kernel
theorem dX2_plugPower_41 : decode cX2_plugPower 41 = .ok (.istore_n 3, 1) := by decide +kernel
theorem dX2_plugPower_42 : decode cX2_plugPower 42 = .ok (.iload_n 3, 1) := by decide +kernel
theorem dX2_plugPower_43 : decode cX2_plugPower 43 = .ok (.ifCond .le 42, 3) := by decide +kernel
theorem dX2_plugPower_46 : decode cX2_plugPower 46 = .ok (.iload_n 3, 1) := by decide +kernel
theorem dX2_plugPower_47 : decode cX2_plugPower 47 = .ok (.bipush 6, 2) := by decide +kernel
theorem dX2_plugPower_49 : decode cX2_plugPower 49 = .ok (.if_icmp .gt 36, 3) := by decide +kernel
theorem dX2_plugPower_52 : decode cX2_plugPower 52 = .ok (.aload_n 0, 1) := by decide +kernel
theorem dX2_plugPower_53 : decode cX2_plugPower 53 = .ok (.aload_n 0, 1) := by decide +kernel
theorem dX2_plugPower_54 : decode cX2_plugPower 54 = .ok (.getfield 11, 3) := by decide +kernel
theorem dX2_plugPower_57 : decode cX2_plugPower 57 = .ok (.iload_n 3, 1) := by decide +kernel
theorem dX2_plugPower_58 : decode cX2_plugPower 58 = .ok (.aaload, 1) := by decide +kernel
theorem dX2_plugPower_59 : decode cX2_plugPower 59 = .ok (.aload_n 0, 1) := by decide +kernel
theorem dX2_plugPower_60 : decode cX2_plugPower 60 = .ok (.getfield 16, 3) := by decide +kernel
theorem dX2_plugPower_63 : decode cX2_plugPower 63 = .ok (.aload_n 0, 1) := by decide +kernel
theorem dX2_plugPower_64 : decode cX2_plugPower 64 = .ok (.getfield 20, 3) := by decide +kernel
theorem dX2_plugPower_67 : decode cX2_plugPower 67 = .ok (.invokevirtual 86, 3) := by decide +kernel
theorem dX2_plugPower_70 : decode cX2_plugPower 70 = .ok (.aload_n 0, 1) := by decide +kernel
theorem dX2_plugPower_71 : decode cX2_plugPower 71 = .ok (.getfield 20, 3) := by decide +kernel
theorem dX2_plugPower_74 : decode cX2_plugPower 74 = .ok (.iconst 0, 1) := by decide +kernel
theorem dX2_plugPower_75 : decode cX2_plugPower 75 = .ok (.aload_n 0, 1) := by decide +kernel
theorem dX2_plugPower_76 : decode cX2_plugPower 76 = .ok (.getfield 16, 3) := by decide +kernel
theorem dX2_plugPower_79 : decode cX2_plugPower 79 = .ok (.iconst 0, 1) := by decide +kernel
theorem dX2_plugPower_80 : decode cX2_plugPower 80 = .ok (.bipush 30, 2) := by decide +kernel
theorem dX2_plugPower_82 : decode cX2_plugPower 82 = .ok (.invokestatic 90, 3) := by decide +kernel
theorem dX2_plugPower_85 : decode cX2_plugPower 85 = .ok (.iinc 2 1, 3) := by decide +kernel
theorem dX2_plugPower_88 : decode cX2_plugPower 88 = .ok (.goto (-69), 3) := by decide +kernel
theorem dX2_plugPower_91 : decode cX2_plugPower 91 = .ok (.return_, 1) := by decide +kernel
theorem dX2_stretch_0 : decode cX2_stretch 0 = .ok (.aload_n 3, 1) := by decide +kernel
theorem dX2_stretch_1 : decode cX2_stretch 1 = .ok (.lconst 0, 1) := by decide +kernel
theorem dX2_stretch_2 : decode cX2_stretch 2 = .ok (.invokestatic 27, 3) := by decide +kernel
theorem dX2_stretch_5 : decode cX2_stretch 5 = .ok (.iconst 0, 1) := by decide +kernel
theorem dX2_stretch_6 : decode cX2_stretch 6 = .ok (.istore 4, 2) := by decide +kernel
theorem dX2_stretch_8 : decode cX2_stretch 8 = .ok (.iload 4, 2) := by decide +kernel
theorem dX2_stretch_10 : decode cX2_stretch 10 = .ok (.bipush 30, 2) := by decide +kernel
theorem dX2_stretch_12 : decode cX2_stretch 12 = .ok (.if_icmp .ge 37, 3) := by decide +kernel
theorem dX2_stretch_15 : decode cX2_stretch 15 = .ok (.aload_n 0, 1) := by decide +kernel
theorem dX2_stretch_16 : decode cX2_stretch 16 = .ok (.getfield 23, 3) := by decide +kernel
theorem dX2_stretch_19 : decode cX2_stretch 19 = .ok (.iload 4, 2) := by decide +kernel
theorem dX2_stretch_21 : decode cX2_stretch 21 = .ok (.iload_n 2, 1) := by decide +kernel
theorem dX2_stretch_22 : decode cX2_stretch 22 = .ok (.invokevirtual 96, 3) := by decide +kernel
theorem dX2_stretch_25 : decode cX2_stretch 25 = .ok (.istore 5, 2) := by decide +kernel
theorem dX2_stretch_27 : decode cX2_stretch 27 = .ok (.iload 5, 2) := by decide +kernel
theorem dX2_stretch_29 : decode cX2_stretch 29 = .ok (.invokestatic 55, 3) := by decide +kernel
theorem dX2_stretch_32 : decode cX2_stretch 32 = .ok (.ifCond .eq 11, 3) := by decide +kernel
theorem dX2_stretch_35 : decode cX2_stretch 35 = .ok (.aload_n 3, 1) := by decide +kernel
theorem dX2_stretch_36 : decode cX2_stretch 36 = .ok (.iload 5, 2) := by decide +kernel
theorem dX2_stretch_38 : decode cX2_stretch 38 = .ok (.aload_n 1, 1) := by decide +kernel
theorem dX2_stretch_39 : decode cX2_stretch 39 = .ok (.iload 4, 2) := by decide +kernel
theorem dX2_stretch_41 : decode cX2_stretch 41 = .ok (.laload, 1) := by decide +kernel
theorem dX2_stretch_42 : decode cX2_stretch 42 = .ok (.lastore, 1) := by decide +kernel
theorem dX2_stretch_43 : decode cX2_stretch 43 = .ok (.iinc 4 1, 3) := by decide +kernel
theorem dX2_stretch_46 : decode cX2_stretch 46 = .ok (.goto (-38), 3) := by decide +kernel
theorem dX2_stretch_49 : decode cX2_stretch 49 = .ok (.return_, 1) := by decide +kernel
theorem dX2_valueAt_0 : decode cX2_valueAt 0 = .ok (.lconst 0, 1) := by decide +kernel
theorem dX2_valueAt_1 : decode cX2_valueAt 1 = .ok (.lstore 8, 2) := by decide +kernel
theorem dX2_valueAt_3 : decode cX2_valueAt 3 = .ok (.iconst 0, 1) := by decide +kernel
theorem dX2_valueAt_4 : decode cX2_valueAt 4 = .ok (.istore 10, 2) := by decide +kernel
theorem dX2_valueAt_6 : decode cX2_valueAt 6 = .ok (.iload 10, 2) := by decide +kernel
theorem dX2_valueAt_8 : decode cX2_valueAt 8 = .ok (.bipush 6, 2) := by decide +kernel
theorem dX2_valueAt_10 : decode cX2_valueAt 10 = .ok (.if_icmp .gt 137, 3) := by decide +kernel
theorem dX2_valueAt_13 : decode cX2_valueAt 13 = .ok (.iconst 0, 1) := by decide +kernel
theorem dX2_valueAt_14 : decode cX2_valueAt 14 = .ok (.istore 11, 2) := by decide +kernel
theorem dX2_valueAt_16 : decode cX2_valueAt 16 = .ok (.iload 10, 2) := by decide +kernel
theorem dX2_valueAt_18 : decode cX2_valueAt 18 = .ok (.iload 11, 2) := by decide +kernel
theorem dX2_valueAt_20 : decode cX2_valueAt 20 = .ok (.iadd, 1) := by decide +kernel
theorem dX2_valueAt_21 : decode cX2_valueAt 21 = .ok (.bipush 6, 2) := by decide +kernel
theorem dX2_valueAt_23 : decode cX2_valueAt 23 = .ok (.if_icmp .gt 118, 3) := by decide +kernel
theorem dX2_valueAt_26 : decode cX2_valueAt 26 = .ok (.iconst 0, 1) := by decide +kernel
theorem dX2_valueAt_27 : decode cX2_valueAt 27 = .ok (.istore 12, 2) := by decide +kernel
theorem dX2_valueAt_29 : decode cX2_valueAt 29 = .ok (.iload 10, 2) := by decide +kernel
theorem dX2_valueAt_31 : decode cX2_valueAt 31 = .ok (.iload 11, 2) := by decide +kernel
theorem dX2_valueAt_33 : decode cX2_valueAt 33 = .ok (.iadd, 1) := by decide +kernel
theorem dX2_valueAt_34 : decode cX2_valueAt 34 = .ok (.iload 12, 2) := by decide +kernel
theorem dX2_valueAt_36 : decode cX2_valueAt 36 = .ok (.iadd, 1) := by decide +kernel
theorem dX2_valueAt_37 : decode cX2_valueAt 37 = .ok (.bipush 6, 2) := by decide +kernel
theorem dX2_valueAt_39 : decode cX2_valueAt 39 = .ok (.if_icmp .gt 96, 3) := by decide +kernel
theorem dX2_valueAt_42 : decode cX2_valueAt 42 = .ok (.iload 10, 2) := by decide +kernel
theorem dX2_valueAt_44 : decode cX2_valueAt 44 = .ok (.invokestatic 99, 3) := by decide +kernel
theorem dX2_valueAt_47 : decode cX2_valueAt 47 = .ok (.iload 11, 2) := by decide +kernel
theorem dX2_valueAt_49 : decode cX2_valueAt 49 = .ok (.invokestatic 99, 3) := by decide +kernel
theorem dX2_valueAt_52 : decode cX2_valueAt 52 = .ok (.iadd, 1) := by decide +kernel
theorem dX2_valueAt_53 : decode cX2_valueAt 53 = .ok (.iload 12, 2) := by decide +kernel
theorem dX2_valueAt_55 : decode cX2_valueAt 55 = .ok (.invokestatic 99, 3) := by decide +kernel
theorem dX2_valueAt_58 : decode cX2_valueAt 58 = .ok (.iadd, 1) := by decide +kernel
theorem dX2_valueAt_59 : decode cX2_valueAt 59 = .ok (.istore 13, 2) := by decide +kernel
theorem dX2_valueAt_61 : decode cX2_valueAt 61 = .ok (.aload_n 0, 1) := by decide +kernel
theorem dX2_valueAt_62 : decode cX2_valueAt 62 = .ok (.getfield 23, 3) := by decide +kernel
theorem dX2_valueAt_65 : decode cX2_valueAt 65 = .ok (.iload 13, 2) := by decide +kernel
theorem dX2_valueAt_67 : decode cX2_valueAt 67 = .ok (.iload 10, 2) := by decide +kernel
theorem dX2_valueAt_69 : decode cX2_valueAt 69 = .ok (.iload 11, 2) := by decide +kernel
theorem dX2_valueAt_71 : decode cX2_valueAt 71 = .ok (.iadd, 1) := by decide +kernel
theorem dX2_valueAt_72 : decode cX2_valueAt 72 = .ok (.iload 12, 2) := by decide +kernel
theorem dX2_valueAt_74 : decode cX2_valueAt 74 = .ok (.iadd, 1) := by decide +kernel
theorem dX2_valueAt_75 : decode cX2_valueAt 75 = .ok (.invokevirtual 102, 3) := by decide +kernel
theorem dX2_valueAt_78 : decode cX2_valueAt 78 = .ok (.istore 14, 2) := by decide +kernel
theorem dX2_valueAt_80 : decode cX2_valueAt 80 = .ok (.iload 14, 2) := by decide +kernel
theorem dX2_valueAt_82 : decode cX2_valueAt 82 = .ok (.invokestatic 55, 3) := by decide +kernel
theorem dX2_valueAt_85 : decode cX2_valueAt 85 = .ok (.ifCond .eq 44, 3) := by decide +kernel
theorem dX2_valueAt_88 : decode cX2_valueAt 88 = .ok (.aload_n 1, 1) := by decide +kernel
theorem dX2_valueAt_89 : decode cX2_valueAt 89 = .ok (.iload 14, 2) := by decide +kernel
theorem dX2_valueAt_91 : decode cX2_valueAt 91 = .ok (.laload, 1) := by decide +kernel
theorem dX2_valueAt_92 : decode cX2_valueAt 92 = .ok (.lconst 0, 1) := by decide +kernel
theorem dX2_valueAt_93 : decode cX2_valueAt 93 = .ok (.lcmp, 1) := by decide +kernel
theorem dX2_valueAt_94 : decode cX2_valueAt 94 = .ok (.ifCond .eq 35, 3) := by decide +kernel
theorem dX2_valueAt_97 : decode cX2_valueAt 97 = .ok (.lload 8, 2) := by decide +kernel
theorem dX2_valueAt_99 : decode cX2_valueAt 99 = .ok (.aload_n 1, 1) := by decide +kernel
theorem dX2_valueAt_100 : decode cX2_valueAt 100 = .ok (.iload 14, 2) := by decide +kernel
theorem dX2_valueAt_102 : decode cX2_valueAt 102 = .ok (.laload, 1) := by decide +kernel
theorem dX2_valueAt_103 : decode cX2_valueAt 103 = .ok (.lload_n 2, 1) := by decide +kernel
theorem dX2_valueAt_104 : decode cX2_valueAt 104 = .ok (.iload 10, 2) := by decide +kernel
theorem dX2_valueAt_106 : decode cX2_valueAt 106 = .ok (.invokestatic 105, 3) := by decide +kernel
theorem dX2_valueAt_109 : decode cX2_valueAt 109 = .ok (.lmul, 1) := by decide +kernel
theorem dX2_valueAt_110 : decode cX2_valueAt 110 = .ok (.lload 4, 2) := by decide +kernel
theorem dX2_valueAt_112 : decode cX2_valueAt 112 = .ok (.iload 11, 2) := by decide +kernel
theorem dX2_valueAt_114 : decode cX2_valueAt 114 = .ok (.invokestatic 105, 3) := by decide +kernel
theorem dX2_valueAt_117 : decode cX2_valueAt 117 = .ok (.lmul, 1) := by decide +kernel
theorem dX2_valueAt_118 : decode cX2_valueAt 118 = .ok (.lload 6, 2) := by decide +kernel
theorem dX2_valueAt_120 : decode cX2_valueAt 120 = .ok (.iload 12, 2) := by decide +kernel
theorem dX2_valueAt_122 : decode cX2_valueAt 122 = .ok (.invokestatic 105, 3) := by decide +kernel
theorem dX2_valueAt_125 : decode cX2_valueAt 125 = .ok (.lmul, 1) := by decide +kernel
theorem dX2_valueAt_126 : decode cX2_valueAt 126 = .ok (.ladd, 1) := by decide +kernel
theorem dX2_valueAt_127 : decode cX2_valueAt 127 = .ok (.lstore 8, 2) := by decide +kernel
theorem dX2_valueAt_129 : decode cX2_valueAt 129 = .ok (.iinc 12 1, 3) := by decide +kernel
theorem dX2_valueAt_132 : decode cX2_valueAt 132 = .ok (.goto (-103), 3) := by decide +kernel
theorem dX2_valueAt_135 : decode cX2_valueAt 135 = .ok (.iinc 11 1, 3) := by decide +kernel
theorem dX2_valueAt_138 : decode cX2_valueAt 138 = .ok (.goto (-122), 3) := by decide +kernel
theorem dX2_valueAt_141 : decode cX2_valueAt 141 = .ok (.iinc 10 1, 3) := by decide +kernel
theorem dX2_valueAt_144 : decode cX2_valueAt 144 = .ok (.goto (-138), 3) := by decide +kernel
theorem dX2_valueAt_147 : decode cX2_valueAt 147 = .ok (.lload 8, 2) := by decide +kernel
theorem dX2_valueAt_149 : decode cX2_valueAt 149 = .ok (.lreturn, 1) := by decide +kernel
theorem dX2_powerOf_0 : decode cX2_powerOf 0 = .ok (.lconst 1, 1) := by decide +kernel
theorem dX2_powerOf_1 : decode cX2_powerOf 1 = .ok (.lstore_n 3, 1) := by decide +kernel
theorem dX2_powerOf_2 : decode cX2_powerOf 2 = .ok (.iconst 0, 1) := by decide +kernel
theorem dX2_powerOf_3 : decode cX2_powerOf 3 = .ok (.istore 5, 2) := by decide +kernel
theorem dX2_powerOf_5 : decode cX2_powerOf 5 = .ok (.iload 5, 2) := by decide +kernel
theorem dX2_powerOf_7 : decode cX2_powerOf 7 = .ok (.iload_n 2, 1) := by decide +kernel
theorem dX2_powerOf_8 : decode cX2_powerOf 8 = .ok (.if_icmp .ge 13, 3) := by decide +kernel
theorem dX2_powerOf_11 : decode cX2_powerOf 11 = .ok (.lload_n 3, 1) := by decide +kernel
theorem dX2_powerOf_12 : decode cX2_powerOf 12 = .ok (.lload_n 0, 1) := by decide +kernel
theorem dX2_powerOf_13 : decode cX2_powerOf 13 = .ok (.lmul, 1) := by decide +kernel
theorem dX2_powerOf_14 : decode cX2_powerOf 14 = .ok (.lstore_n 3, 1) := by decide +kernel
theorem dX2_powerOf_15 : decode cX2_powerOf 15 = .ok (.iinc 5 1, 3) := by decide +kernel
theorem dX2_powerOf_18 : decode cX2_powerOf 18 = .ok (.goto (-13), 3) := by decide +kernel
theorem dX2_powerOf_21 : decode cX2_powerOf 21 = .ok (.lload_n 3, 1) := by decide +kernel
theorem dX2_powerOf_22 : decode cX2_powerOf 22 = .ok (.lreturn, 1) := by decide +kernel
theorem dJ7_fill_d0a16_0 : decode cJ7_fill_d0a16 0 = .ok (.iconst 0, 1) := by decide +kernel
theorem dJ7_fill_d0a16_1 : decode cJ7_fill_d0a16 1 = .ok (.istore_n 3, 1) := by decide +kernel
theorem dJ7_fill_d0a16_2 : decode cJ7_fill_d0a16 2 = .ok (.aload_n 0, 1) := by decide +kernel
theorem dJ7_fill_d0a16_3 : decode cJ7_fill_d0a16 3 = .ok (.arraylength, 1) := by decide +kernel
theorem dJ7_fill_d0a16_4 : decode cJ7_fill_d0a16 4 = .ok (.istore 4, 2) := by decide +kernel
theorem dJ7_fill_d0a16_6 : decode cJ7_fill_d0a16 6 = .ok (.iload_n 3, 1) := by decide +kernel
theorem dJ7_fill_d0a16_7 : decode cJ7_fill_d0a16 7 = .ok (.iload 4, 2) := by decide +kernel
theorem dJ7_fill_d0a16_9 : decode cJ7_fill_d0a16 9 = .ok (.if_icmp .ge 13, 3) := by decide +kernel
theorem dJ7_fill_d0a16_12 : decode cJ7_fill_d0a16 12 = .ok (.aload_n 0, 1) := by decide +kernel
theorem dJ7_fill_d0a16_13 : decode cJ7_fill_d0a16 13 = .ok (.iload_n 3, 1) := by decide +kernel
theorem dJ7_fill_d0a16_14 : decode cJ7_fill_d0a16 14 = .ok (.lload_n 1, 1) := by decide +kernel
theorem dJ7_fill_d0a16_15 : decode cJ7_fill_d0a16 15 = .ok (.lastore, 1) := by decide +kernel
theorem dJ7_fill_d0a16_16 : decode cJ7_fill_d0a16 16 = .ok (.iinc 3 1, 3) := by decide +kernel
theorem dJ7_fill_d0a16_19 : decode cJ7_fill_d0a16 19 = .ok (.goto (-13), 3) := by decide +kernel
theorem dJ7_fill_d0a16_22 : decode cJ7_fill_d0a16 22 = .ok (.return_, 1) := by decide +kernel
theorem dJ9_abs_067f4_0 : decode cJ9_abs_067f4 0 = .ok (.lload_n 0, 1) := by decide +kernel
theorem dJ9_abs_067f4_1 : decode cJ9_abs_067f4 1 = .ok (.lconst 0, 1) := by decide +kernel
theorem dJ9_abs_067f4_2 : decode cJ9_abs_067f4 2 = .ok (.lcmp, 1) := by decide +kernel
theorem dJ9_abs_067f4_3 : decode cJ9_abs_067f4 3 = .ok (.ifCond .ge 8, 3) := by decide +kernel
theorem dJ9_abs_067f4_6 : decode cJ9_abs_067f4 6 = .ok (.lload_n 0, 1) := by decide +kernel
theorem dJ9_abs_067f4_7 : decode cJ9_abs_067f4 7 = .ok (.lneg, 1) := by decide +kernel
theorem dJ9_abs_067f4_8 : decode cJ9_abs_067f4 8 = .ok (.goto 4, 3) := by decide +kernel
theorem dJ9_abs_067f4_11 : decode cJ9_abs_067f4 11 = .ok (.lload_n 0, 1) := by decide +kernel
theorem dJ9_abs_067f4_12 : decode cJ9_abs_067f4 12 = .ok (.lreturn, 1) := by decide +kernel
theorem dJ9_min_7cf53_0 : decode cJ9_min_7cf53 0 = .ok (.iload_n 0, 1) := by decide +kernel
theorem dJ9_min_7cf53_1 : decode cJ9_min_7cf53 1 = .ok (.iload_n 1, 1) := by decide +kernel
theorem dJ9_min_7cf53_2 : decode cJ9_min_7cf53 2 = .ok (.if_icmp .gt 7, 3) := by decide +kernel
theorem dJ9_min_7cf53_5 : decode cJ9_min_7cf53 5 = .ok (.iload_n 0, 1) := by decide +kernel
theorem dJ9_min_7cf53_6 : decode cJ9_min_7cf53 6 = .ok (.goto 4, 3) := by decide +kernel
theorem dJ9_min_7cf53_9 : decode cJ9_min_7cf53 9 = .ok (.iload_n 1, 1) := by decide +kernel
theorem dJ9_min_7cf53_10 : decode cJ9_min_7cf53 10 = .ok (.ireturn, 1) := by decide +kernel
