theorem dX3_init_0 : decode cX3_init 0 = .ok (.aload_n 0, 1) := by decide +kernel
theorem dX3_init_1 : decode cX3_init 1 = .ok (.invokespecial 1, 3) := by decide +kernel
theorem dX3_init_4 : decode cX3_init 4 = .ok (.aload_n 0, 1) := by decide +kernel
theorem dX3_init_5 : decode cX3_init 5 = .ok (.new 7, 3) := by decide +kernel
theorem dX3_init_8 : decode cX3_init 8 = .ok (.dup, 1) := by decide +kernel
theorem dX3_init_9 : decode cX3_init 9 = .ok (.invokespecial 9, 3) := by decide +kernel
theorem dX3_init_12 : decode cX3_init 12 = .ok (.putfield 10, 3) := by decide +kernel
theorem dX3_init_15 : decode cX3_init 15 = .ok (.aload_n 0, 1) := by decide +kernel
theorem dX3_init_16 : decode cX3_init 16 = .ok (.new 16, 3) := by decide +kernel
theorem dX3_init_19 : decode cX3_init 19 = .ok (.dup, 1) := by decide +kernel
theorem dX3_init_20 : decode cX3_init 20 = .ok (.aload_n 0, 1) := by decide +kernel
theorem dX3_init_21 : decode cX3_init 21 = .ok (.getfield 10, 3) := by decide +kernel
theorem dX3_init_24 : decode cX3_init 24 = .ok (.invokespecial 18, 3) := by decide +kernel
theorem dX3_init_27 : decode cX3_init 27 = .ok (.putfield 21, 3) := by decide +kernel
theorem dX3_init_30 : decode cX3_init 30 = .ok (.aload_n 0, 1) := by decide +kernel
theorem dX3_init_31 : decode cX3_init 31 = .ok (.new 25, 3) := by decide +kernel
theorem dX3_init_34 : decode cX3_init 34 = .ok (.dup, 1) := by decide +kernel
theorem dX3_init_35 : decode cX3_init 35 = .ok (.aload_n 0, 1) := by decide +kernel
theorem dX3_init_36 : decode cX3_init 36 = .ok (.getfield 10, 3) := by decide +kernel
theorem dX3_init_39 : decode cX3_init 39 = .ok (.invokespecial 27, 3) := by decide +kernel
theorem dX3_init_42 : decode cX3_init 42 = .ok (.putfield 28, 3) := by decide +kernel
theorem dX3_init_45 : decode cX3_init 45 = .ok (.aload_n 0, 1) := by decide +kernel
theorem dX3_init_46 : decode cX3_init 46 = .ok (.bipush 8, 2) := by decide +kernel
theorem dX3_init_48 : decode cX3_init 48 = .ok (.bipush 30, 2) := by decide +kernel
theorem dX3_init_50 : decode cX3_init 50 = .ok (.multianewarray 32 2, 4) := by decide +kernel
theorem dX3_init_54 : decode cX3_init 54 = .ok (.putfield 34, 3) := by decide +kernel
theorem dX3_init_57 : decode cX3_init 57 = .ok (.aload_n 0, 1) := by decide +kernel
theorem dX3_init_58 : decode cX3_init 58 = .ok (.bipush 16, 2) := by decide +kernel
theorem dX3_init_60 : decode cX3_init 60 = .ok (.bipush 30, 2) := by decide +kernel
theorem dX3_init_62 : decode cX3_init 62 = .ok (.multianewarray 32 2, 4) := by decide +kernel
theorem dX3_init_66 : decode cX3_init 66 = .ok (.putfield 37, 3) := by decide +kernel
theorem dX3_init_69 : decode cX3_init 69 = .ok (.aload_n 0, 1) := by decide +kernel
theorem dX3_init_70 : decode cX3_init 70 = .ok (.iconst 2, 1) := by decide +kernel
theorem dX3_init_71 : decode cX3_init 71 = .ok (.newarray .boolean, 2) := by decide +kernel
theorem dX3_init_73 : decode cX3_init 73 = .ok (.putfield 40, 3) := by decide +kernel
theorem dX3_init_76 : decode cX3_init 76 = .ok (.aload_n 0, 1) := by decide +kernel
theorem dX3_init_77 : decode cX3_init 77 = .ok (.bipush 30, 2) := by decide +kernel
theorem dX3_init_79 : decode cX3_init 79 = .ok (.newarray .long, 2) := by decide +kernel
theorem dX3_init_81 : decode cX3_init 81 = .ok (.putfield 44, 3) := by decide +kernel
theorem dX3_init_84 : decode cX3_init 84 = .ok (.aload_n 0, 1) := by decide +kernel
theorem dX3_init_85 : decode cX3_init 85 = .ok (.bipush 30, 2) := by decide +kernel
theorem dX3_init_87 : decode cX3_init 87 = .ok (.newarray .long, 2) := by decide +kernel
theorem dX3_init_89 : decode cX3_init 89 = .ok (.putfield 48, 3) := by decide +kernel
theorem dX3_init_92 : decode cX3_init 92 = .ok (.aload_n 0, 1) := by decide +kernel
theorem dX3_init_93 : decode cX3_init 93 = .ok (.bipush 30, 2) := by decide +kernel
theorem dX3_init_95 : decode cX3_init 95 = .ok (.newarray .long, 2) := by decide +kernel
theorem dX3_init_97 : decode cX3_init 97 = .ok (.putfield 51, 3) := by decide +kernel
theorem dX3_init_100 : decode cX3_init 100 = .ok (.return_, 1) := by decide +kernel
theorem dX3_part_0 : decode cX3_part 0 = .ok (.iload_n 1, 1) := by decide +kernel
theorem dX3_part_1 : decode cX3_part 1 = .ok (.invokestatic 54, 3) := by decide +kernel
theorem dX3_part_4 : decode cX3_part 4 = .ok (.ifCond .ne 5, 3) := by decide +kernel
theorem dX3_part_7 : decode cX3_part 7 = .ok (.iconst (-1), 1) := by decide +kernel
theorem dX3_part_8 : decode cX3_part 8 = .ok (.ireturn, 1) := by decide +kernel
theorem dX3_part_9 : decode cX3_part 9 = .ok (.iload_n 2, 1) := by decide +kernel
theorem dX3_part_10 : decode cX3_part 10 = .ok (.ifCond .lt 9, 3) := by decide +kernel
theorem dX3_part_13 : decode cX3_part 13 = .ok (.iload_n 2, 1) := by decide +kernel
theorem dX3_part_14 : decode cX3_part 14 = .ok (.bipush 6, 2) := by decide +kernel
theorem dX3_part_16 : decode cX3_part 16 = .ok (.if_icmp .lt 6, 3) := by decide +kernel
theorem dX3_part_19 : decode cX3_part 19 = .ok (.bipush (-2), 2) := by decide +kernel
theorem dX3_part_21 : decode cX3_part 21 = .ok (.ireturn, 1) := by decide +kernel
theorem dX3_part_22 : decode cX3_part 22 = .ok (.aload_n 0, 1) := by decide +kernel
theorem dX3_part_23 : decode cX3_part 23 = .ok (.getfield 10, 3) := by decide +kernel
theorem dX3_part_26 : decode cX3_part 26 = .ok (.iload_n 1, 1) := by decide +kernel
theorem dX3_part_27 : decode cX3_part 27 = .ok (.iload_n 2, 1) := by decide +kernel
theorem dX3_part_28 : decode cX3_part 28 = .ok (.invokevirtual 58, 3) := by decide +kernel
theorem dX3_part_31 : decode cX3_part 31 = .ok (.ireturn, 1) := by decide +kernel
theorem dX3_about_0 : decode cX3_about 0 = .ok (.iload_n 1, 1) := by decide +kernel
theorem dX3_about_1 : decode cX3_about 1 = .ok (.invokestatic 54, 3) := by decide +kernel
theorem dX3_about_4 : decode cX3_about 4 = .ok (.ifCond .ne 5, 3) := by decide +kernel
theorem dX3_about_7 : decode cX3_about 7 = .ok (.iconst (-1), 1) := by decide +kernel
theorem dX3_about_8 : decode cX3_about 8 = .ok (.ireturn, 1) := by decide +kernel
theorem dX3_about_9 : decode cX3_about 9 = .ok (.iload_n 2, 1) := by decide +kernel
theorem dX3_about_10 : decode cX3_about 10 = .ok (.tableswitch 97 0 4 #[34, 44, 54, 64, 74], 34) := by decide +kernel
theorem dX3_about_44 : decode cX3_about 44 = .ok (.aload_n 0, 1) := by decide +kernel
theorem dX3_about_45 : decode cX3_about 45 = .ok (.getfield 10, 3) := by decide +kernel
theorem dX3_about_48 : decode cX3_about 48 = .ok (.getfield 62, 3) := by decide +kernel
theorem dX3_about_51 : decode cX3_about 51 = .ok (.iload_n 1, 1) := by decide +kernel
theorem dX3_about_52 : decode cX3_about 52 = .ok (.iaload, 1) := by decide +kernel
theorem dX3_about_53 : decode cX3_about 53 = .ok (.ireturn, 1) := by decide +kernel
theorem dX3_about_54 : decode cX3_about 54 = .ok (.aload_n 0, 1) := by decide +kernel
theorem dX3_about_55 : decode cX3_about 55 = .ok (.getfield 10, 3) := by decide +kernel
theorem dX3_about_58 : decode cX3_about 58 = .ok (.getfield 66, 3) := by decide +kernel
theorem dX3_about_61 : decode cX3_about 61 = .ok (.iload_n 1, 1) := by decide +kernel
theorem dX3_about_62 : decode cX3_about 62 = .ok (.iaload, 1) := by decide +kernel
theorem dX3_about_63 : decode cX3_about 63 = .ok (.ireturn, 1) := by decide +kernel
theorem dX3_about_64 : decode cX3_about 64 = .ok (.aload_n 0, 1) := by decide +kernel
theorem dX3_about_65 : decode cX3_about 65 = .ok (.getfield 10, 3) := by decide +kernel
theorem dX3_about_68 : decode cX3_about 68 = .ok (.getfield 69, 3) := by decide +kernel
theorem dX3_about_71 : decode cX3_about 71 = .ok (.iload_n 1, 1) := by decide +kernel
theorem dX3_about_72 : decode cX3_about 72 = .ok (.iaload, 1) := by decide +kernel
theorem dX3_about_73 : decode cX3_about 73 = .ok (.ireturn, 1) := by decide +kernel
theorem dX3_about_74 : decode cX3_about 74 = .ok (.aload_n 0, 1) := by decide +kernel
theorem dX3_about_75 : decode cX3_about 75 = .ok (.getfield 10, 3) := by decide +kernel
theorem dX3_about_78 : decode cX3_about 78 = .ok (.getfield 72, 3) := by decide +kernel
theorem dX3_about_81 : decode cX3_about 81 = .ok (.iload_n 1, 1) := by decide +kernel
theorem dX3_about_82 : decode cX3_about 82 = .ok (.iaload, 1) := by decide +kernel
theorem dX3_about_83 : decode cX3_about 83 = .ok (.ireturn, 1) := by decide +kernel
theorem dX3_about_84 : decode cX3_about 84 = .ok (.aload_n 0, 1) := by decide +kernel
theorem dX3_about_85 : decode cX3_about 85 = .ok (.getfield 10, 3) := by decide +kernel
theorem dX3_about_88 : decode cX3_about 88 = .ok (.iload_n 1, 1) := by decide +kernel
theorem dX3_about_89 : decode cX3_about 89 = .ok (.aload_n 0, 1) := by decide +kernel
theorem dX3_about_90 : decode cX3_about 90 = .ok (.getfield 10, 3) := by decide +kernel
theorem dX3_about_93 : decode cX3_about 93 = .ok (.getfield 62, 3) := by decide +kernel
theorem dX3_about_96 : decode cX3_about 96 = .ok (.iload_n 1, 1) := by decide +kernel
theorem dX3_about_97 : decode cX3_about 97 = .ok (.iaload, 1) := by decide +kernel
theorem dX3_about_98 : decode cX3_about 98 = .ok (.invokestatic 75, 3) := by decide +kernel
theorem dX3_about_101 : decode cX3_about 101 = .ok (.iconst 1, 1) := by decide +kernel
theorem dX3_about_102 : decode cX3_about 102 = .ok (.isub, 1) := by decide +kernel
theorem dX3_about_103 : decode cX3_about 103 = .ok (.invokevirtual 79, 3) := by decide +kernel
theorem dX3_about_106 : decode cX3_about 106 = .ok (.ireturn, 1) := by decide +kernel
theorem dX3_about_107 : decode cX3_about 107 = .ok (.bipush (-2), 2) := by decide +kernel
theorem dX3_about_109 : decode cX3_about 109 = .ok (.ireturn, 1) := by decide +kernel
theorem dX3_kostka_0 : decode cX3_kostka 0 = .ok (.iload_n 1, 1) := by decide +kernel
theorem dX3_kostka_1 : decode cX3_kostka 1 = .ok (.invokestatic 54, 3) := by decide +kernel
theorem dX3_kostka_4 : decode cX3_kostka 4 = .ok (.ifCond .eq 10, 3) := by decide +kernel
theorem dX3_kostka_7 : decode cX3_kostka 7 = .ok (.iload_n 2, 1) := by decide +kernel
theorem dX3_kostka_8 : decode cX3_kostka 8 = .ok (.invokestatic 54, 3) := by decide +kernel
theorem dX3_kostka_11 : decode cX3_kostka 11 = .ok (.ifCond .ne 5, 3) := by decide +kernel
theorem dX3_kostka_14 : decode cX3_kostka 14 = .ok (.iconst (-1), 1) := by decide +kernel
theorem dX3_kostka_15 : decode cX3_kostka 15 = .ok (.ireturn, 1) := by decide +kernel
theorem dX3_kostka_16 : decode cX3_kostka 16 = .ok (.aload_n 0, 1) := by decide +kernel
theorem dX3_kostka_17 : decode cX3_kostka 17 = .ok (.getfield 10, 3) := by decide +kernel
theorem dX3_kostka_20 : decode cX3_kostka 20 = .ok (.iload_n 1, 1) := by decide +kernel
theorem dX3_kostka_21 : decode cX3_kostka 21 = .ok (.iload_n 2, 1) := by decide +kernel
theorem dX3_kostka_22 : decode cX3_kostka 22 = .ok (.invokevirtual 79, 3) := by decide +kernel
theorem dX3_kostka_25 : decode cX3_kostka 25 = .ok (.ireturn, 1) := by decide +kernel
theorem dX3_character_0 : decode cX3_character 0 = .ok (.iload_n 1, 1) := by decide +kernel
theorem dX3_character_1 : decode cX3_character 1 = .ok (.invokestatic 54, 3) := by decide +kernel
theorem dX3_character_4 : decode cX3_character 4 = .ok (.ifCond .eq 10, 3) := by decide +kernel
theorem dX3_character_7 : decode cX3_character 7 = .ok (.iload_n 2, 1) := by decide +kernel
theorem dX3_character_8 : decode cX3_character 8 = .ok (.invokestatic 54, 3) := by decide +kernel
theorem dX3_character_11 : decode cX3_character 11 = .ok (.ifCond .ne 5, 3) := by decide +kernel
theorem dX3_character_14 : decode cX3_character 14 = .ok (.iconst (-1), 1) := by decide +kernel
theorem dX3_character_15 : decode cX3_character 15 = .ok (.ireturn, 1) := by decide +kernel
theorem dX3_character_16 : decode cX3_character 16 = .ok (.aload_n 0, 1) := by decide +kernel
theorem dX3_character_17 : decode cX3_character 17 = .ok (.getfield 10, 3) := by decide +kernel
theorem dX3_character_20 : decode cX3_character 20 = .ok (.iload_n 1, 1) := by decide +kernel
theorem dX3_character_21 : decode cX3_character 21 = .ok (.iload_n 2, 1) := by decide +kernel
theorem dX3_character_22 : decode cX3_character 22 = .ok (.invokevirtual 82, 3) := by decide +kernel
theorem dX3_character_25 : decode cX3_character 25 = .ok (.sipush 1000, 3) := by decide +kernel
theorem dX3_character_28 : decode cX3_character 28 = .ok (.iadd, 1) := by decide +kernel
theorem dX3_character_29 : decode cX3_character 29 = .ok (.ireturn, 1) := by decide +kernel
theorem dX3_above_0 : decode cX3_above 0 = .ok (.iload_n 1, 1) := by decide +kernel
theorem dX3_above_1 : decode cX3_above 1 = .ok (.invokestatic 54, 3) := by decide +kernel
theorem dX3_above_4 : decode cX3_above 4 = .ok (.ifCond .eq 10, 3) := by decide +kernel
theorem dX3_above_7 : decode cX3_above 7 = .ok (.iload_n 2, 1) := by decide +kernel
theorem dX3_above_8 : decode cX3_above 8 = .ok (.invokestatic 54, 3) := by decide +kernel
theorem dX3_above_11 : decode cX3_above 11 = .ok (.ifCond .ne 5, 3) := by decide +kernel
theorem dX3_above_14 : decode cX3_above 14 = .ok (.iconst (-1), 1) := by decide +kernel
theorem dX3_above_15 : decode cX3_above 15 = .ok (.ireturn, 1) := by decide +kernel
theorem dX3_above_16 : decode cX3_above 16 = .ok (.aload_n 0, 1) := by decide +kernel
theorem dX3_above_17 : decode cX3_above 17 = .ok (.getfield 10, 3) := by decide +kernel
theorem dX3_above_20 : decode cX3_above 20 = .ok (.iload_n 1, 1) := by decide +kernel
theorem dX3_above_21 : decode cX3_above 21 = .ok (.iload_n 2, 1) := by decide +kernel
theorem dX3_above_22 : decode cX3_above 22 = .ok (.invokevirtual 85, 3) := by decide +kernel
theorem dX3_above_25 : decode cX3_above 25 = .ok (.ifCond .eq 7, 3) := by decide +kernel
theorem dX3_above_28 : decode cX3_above 28 = .ok (.iconst 1, 1) := by decide +kernel
theorem dX3_above_29 : decode cX3_above 29 = .ok (.goto 4, 3) := by decide +kernel
theorem dX3_above_32 : decode cX3_above 32 = .ok (.iconst 0, 1) := by decide +kernel
theorem dX3_above_33 : decode cX3_above 33 = .ok (.ireturn, 1) := by decide +kernel
theorem dX3_put_0 : decode cX3_put 0 = .ok (.iload_n 1, 1) := by decide +kernel
theorem dX3_put_1 : decode cX3_put 1 = .ok (.invokestatic 89, 3) := by decide +kernel
theorem dX3_put_4 : decode cX3_put 4 = .ok (.ifCond .eq 17, 3) := by decide +kernel
theorem dX3_put_7 : decode cX3_put 7 = .ok (.iload_n 2, 1) := by decide +kernel
theorem dX3_put_8 : decode cX3_put 8 = .ok (.invokestatic 92, 3) := by decide +kernel
theorem dX3_put_11 : decode cX3_put 11 = .ok (.ifCond .eq 10, 3) := by decide +kernel
theorem dX3_put_14 : decode cX3_put 14 = .ok (.iload_n 3, 1) := by decide +kernel
theorem dX3_put_15 : decode cX3_put 15 = .ok (.invokestatic 54, 3) := by decide +kernel
theorem dX3_put_18 : decode cX3_put 18 = .ok (.ifCond .ne 5, 3) := by decide +kernel
theorem dX3_put_21 : decode cX3_put 21 = .ok (.iconst (-1), 1) := by decide +kernel
theorem dX3_put_22 : decode cX3_put 22 = .ok (.ireturn, 1) := by decide +kernel
theorem dX3_put_23 : decode cX3_put 23 = .ok (.iload 4, 2) := by decide +kernel
theorem dX3_put_25 : decode cX3_put 25 = .ok (.i2l, 1) := by decide +kernel
theorem dX3_put_26 : decode cX3_put 26 = .ok (.ldc2_w 95, 3) := by decide +kernel
theorem dX3_put_29 : decode cX3_put 29 = .ok (.invokestatic 97, 3) := by decide +kernel
theorem dX3_put_32 : decode cX3_put 32 = .ok (.ifCond .ne 6, 3) := by decide +kernel
theorem dX3_put_35 : decode cX3_put 35 = .ok (.bipush (-2), 2) := by decide +kernel
theorem dX3_put_37 : decode cX3_put 37 = .ok (.ireturn, 1) := by decide +kernel
theorem dX3_put_38 : decode cX3_put 38 = .ok (.aload_n 0, 1) := by decide +kernel
theorem dX3_put_39 : decode cX3_put 39 = .ok (.getfield 44, 3) := by decide +kernel
theorem dX3_put_42 : decode cX3_put 42 = .ok (.lconst 0, 1) := by decide +kernel
theorem dX3_put_43 : decode cX3_put 43 = .ok (.invokestatic 101, 3) := by decide +kernel
theorem dX3_put_46 : decode cX3_put 46 = .ok (.aload_n 0, 1) := by decide +kernel
theorem dX3_put_47 : decode cX3_put 47 = .ok (.getfield 44, 3) := by decide +kernel
theorem dX3_put_50 : decode cX3_put 50 = .ok (.iload_n 3, 1) := by decide +kernel
theorem dX3_put_51 : decode cX3_put 51 = .ok (.iload 4, 2) := by decide +kernel
theorem dX3_put_53 : decode cX3_put 53 = .ok (.i2l, 1) := by decide +kernel
theorem dX3_put_54 : decode cX3_put 54 = .ok (.lastore, 1) := by decide +kernel
theorem dX3_put_55 : decode cX3_put 55 = .ok (.aload_n 0, 1) := by decide +kernel
theorem dX3_put_56 : decode cX3_put 56 = .ok (.getfield 21, 3) := by decide +kernel
theorem dX3_put_59 : decode cX3_put 59 = .ok (.iload_n 2, 1) := by decide +kernel
theorem dX3_put_60 : decode cX3_put 60 = .ok (.aload_n 0, 1) := by decide +kernel
theorem dX3_put_61 : decode cX3_put 61 = .ok (.getfield 44, 3) := by decide +kernel
theorem dX3_put_64 : decode cX3_put 64 = .ok (.aload_n 0, 1) := by decide +kernel
theorem dX3_put_65 : decode cX3_put 65 = .ok (.getfield 51, 3) := by decide +kernel
theorem dX3_put_68 : decode cX3_put 68 = .ok (.invokevirtual 107, 3) := by decide +kernel
theorem dX3_put_71 : decode cX3_put 71 = .ok (.aload_n 0, 1) := by decide +kernel
theorem dX3_put_72 : decode cX3_put 72 = .ok (.iload_n 1, 1) := by decide +kernel
theorem dX3_put_73 : decode cX3_put 73 = .ok (.invokevirtual 111, 3) := by decide +kernel
theorem dX3_put_76 : decode cX3_put 76 = .ok (.ireturn, 1) := by decide +kernel
theorem dX3_add_0 : decode cX3_add 0 = .ok (.iload_n 1, 1) := by decide +kernel
theorem dX3_add_1 : decode cX3_add 1 = .ok (.invokestatic 89, 3) := by decide +kernel
theorem dX3_add_4 : decode cX3_add 4 = .ok (.ifCond .eq 10, 3) := by decide +kernel
theorem dX3_add_7 : decode cX3_add 7 = .ok (.iload_n 2, 1) := by decide +kernel
theorem dX3_add_8 : decode cX3_add 8 = .ok (.invokestatic 89, 3) := by decide +kernel
theorem dX3_add_11 : decode cX3_add 11 = .ok (.ifCond .ne 5, 3) := by decide +kernel
theorem dX3_add_14 : decode cX3_add 14 = .ok (.iconst (-1), 1) := by decide +kernel
theorem dX3_add_15 : decode cX3_add 15 = .ok (.ireturn, 1) := by decide +kernel
theorem dX3_add_16 : decode cX3_add 16 = .ok (.iload_n 3, 1) := by decide +kernel
theorem dX3_add_17 : decode cX3_add 17 = .ok (.i2l, 1) := by decide +kernel
theorem dX3_add_18 : decode cX3_add 18 = .ok (.ldc2_w 95, 3) := by decide +kernel
theorem dX3_add_21 : decode cX3_add 21 = .ok (.invokestatic 97, 3) := by decide +kernel
theorem dX3_add_24 : decode cX3_add 24 = .ok (.ifCond .ne 6, 3) := by decide +kernel
theorem dX3_add_27 : decode cX3_add 27 = .ok (.bipush (-2), 2) := by decide +kernel
theorem dX3_add_29 : decode cX3_add 29 = .ok (.ireturn, 1) := by decide +kernel
theorem dX3_add_30 : decode cX3_add 30 = .ok (.iconst 0, 1) := by decide +kernel
theorem dX3_add_31 : decode cX3_add 31 = .ok (.istore 4, 2) := by decide +kernel
theorem dX3_add_33 : decode cX3_add 33 = .ok (.iload 4, 2) := by decide +kernel
theorem dX3_add_35 : decode cX3_add 35 = .ok (.bipush 30, 2) := by decide +kernel
theorem dX3_add_37 : decode cX3_add 37 = .ok (.if_icmp .ge 38, 3) := by decide +kernel
theorem dX3_add_40 : decode cX3_add 40 = .ok (.aload_n 0, 1) := by decide +kernel
theorem dX3_add_41 : decode cX3_add 41 = .ok (.getfield 51, 3) := by decide +kernel
theorem dX3_add_44 : decode cX3_add 44 = .ok (.iload 4, 2) := by decide +kernel
theorem dX3_add_46 : decode cX3_add 46 = .ok (.aload_n 0, 1) := by decide +kernel
theorem dX3_add_47 : decode cX3_add 47 = .ok (.getfield 34, 3) := by decide +kernel
theorem dX3_add_50 : decode cX3_add 50 = .ok (.iload_n 1, 1) := by decide +kernel
theorem dX3_add_51 : decode cX3_add 51 = .ok (.aaload, 1) := by decide +kernel
theorem dX3_add_52 : decode cX3_add 52 = .ok (.iload 4, 2) := by decide +kernel
theorem dX3_add_54 : decode cX3_add 54 = .ok (.laload, 1) := by decide +kernel
theorem dX3_add_55 : decode cX3_add 55 = .ok (.iload_n 3, 1) := by decide +kernel
theorem dX3_add_56 : decode cX3_add 56 = .ok (.i2l, 1) := by decide +kernel
theorem dX3_add_57 : decode cX3_add 57 = .ok (.aload_n 0, 1) := by decide +kernel
theorem dX3_add_58 : decode cX3_add 58 = .ok (.getfield 34, 3) := by decide +kernel
theorem dX3_add_61 : decode cX3_add 61 = .ok (.iload_n 2, 1) := by decide +kernel
theorem dX3_add_62 : decode cX3_add 62 = .ok (.aaload, 1) := by decide +kernel
theorem dX3_add_63 : decode cX3_add 63 = .ok (.iload 4, 2) := by decide +kernel
theorem dX3_add_65 : decode cX3_add 65 = .ok (.laload, 1) := by decide +kernel
theorem dX3_add_66 : decode cX3_add 66 = .ok (.lmul, 1) := by decide +kernel
theorem dX3_add_67 : decode cX3_add 67 = .ok (.ladd, 1) := by decide +kernel
theorem dX3_add_68 : decode cX3_add 68 = .ok (.lastore, 1) := by decide +kernel
theorem dX3_add_69 : decode cX3_add 69 = .ok (.iinc 4 1, 3) := by decide +kernel
theorem dX3_add_72 : decode cX3_add 72 = .ok (.goto (-39), 3) := by decide +kernel
theorem dX3_add_75 : decode cX3_add 75 = .ok (.aload_n 0, 1) := by decide +kernel
theorem dX3_add_76 : decode cX3_add 76 = .ok (.iload_n 1, 1) := by decide +kernel
theorem dX3_add_77 : decode cX3_add 77 = .ok (.invokevirtual 111, 3) := by decide +kernel
theorem dX3_add_80 : decode cX3_add 80 = .ok (.ireturn, 1) := by decide +kernel
theorem dX3_degree_0 : decode cX3_degree 0 = .ok (.iload_n 1, 1) := by decide +kernel
theorem dX3_degree_1 : decode cX3_degree 1 = .ok (.invokestatic 89, 3) := by decide +kernel
theorem dX3_degree_4 : decode cX3_degree 4 = .ok (.ifCond .ne 5, 3) := by decide +kernel
theorem dX3_degree_7 : decode cX3_degree 7 = .ok (.iconst (-1), 1) := by decide +kernel
theorem dX3_degree_8 : decode cX3_degree 8 = .ok (.ireturn, 1) := by decide +kernel
theorem dX3_degree_9 : decode cX3_degree 9 = .ok (.aload_n 0, 1) := by decide +kernel
theorem dX3_degree_10 : decode cX3_degree 10 = .ok (.aload_n 0, 1) := by decide +kernel
theorem dX3_degree_11 : decode cX3_degree 11 = .ok (.getfield 34, 3) := by decide +kernel
theorem dX3_degree_14 : decode cX3_degree 14 = .ok (.iload_n 1, 1) := by decide +kernel
theorem dX3_degree_15 : decode cX3_degree 15 = .ok (.aaload, 1) := by decide +kernel
theorem dX3_degree_16 : decode cX3_degree 16 = .ok (.invokevirtual 114, 3) := by decide +kernel
theorem dX3_degree_19 : decode cX3_degree 19 = .ok (.ireturn, 1) := by decide +kernel
theorem dX3_coefficient_0 : decode cX3_coefficient 0 = .ok (.iload_n 1, 1) := by decide +kernel
theorem dX3_coefficient_1 : decode cX3_coefficient 1 = .ok (.invokestatic 89, 3) := by decide +kernel
theorem dX3_coefficient_4 : decode cX3_coefficient 4 = .ok (.ifCond .eq 17, 3) := by decide +kernel
theorem dX3_coefficient_7 : decode cX3_coefficient 7 = .ok (.iload_n 2, 1) := by decide +kernel
theorem dX3_coefficient_8 : decode cX3_coefficient 8 = .ok (.invokestatic 92, 3) := by decide +kernel
theorem dX3_coefficient_11 : decode cX3_coefficient 11 = .ok (.ifCond .eq 10, 3) := by decide +kernel
theorem dX3_coefficient_14 : decode cX3_coefficient 14 = .ok (.iload_n 3, 1) := by decide +kernel
theorem dX3_coefficient_15 : decode cX3_coefficient 15 = .ok (.invokestatic 54, 3) := by decide +kernel
theorem dX3_coefficient_18 : decode cX3_coefficient 18 = .ok (.ifCond .ne 7, 3) := by decide +kernel
theorem dX3_coefficient_21 : decode cX3_coefficient 21 = .ok (.ldc2_w 118, 3) := by decide +kernel
theorem dX3_coefficient_24 : decode cX3_coefficient 24 = .ok (.lreturn, 1) := by decide +kernel
theorem dX3_coefficient_25 : decode cX3_coefficient 25 = .ok (.iload 4, 2) := by decide +kernel
theorem dX3_coefficient_27 : decode cX3_coefficient 27 = .ok (.ifCond .eq 13, 3) := by decide +kernel
theorem dX3_coefficient_30 : decode cX3_coefficient 30 = .ok (.iload 4, 2) := by decide +kernel
theorem dX3_coefficient_32 : decode cX3_coefficient 32 = .ok (.iconst 1, 1) := by decide +kernel
theorem dX3_coefficient_33 : decode cX3_coefficient 33 = .ok (.if_icmp .eq 7, 3) := by decide +kernel
theorem dX3_coefficient_36 : decode cX3_coefficient 36 = .ok (.ldc2_w 120, 3) := by decide +kernel
theorem dX3_coefficient_39 : decode cX3_coefficient 39 = .ok (.lreturn, 1) := by decide +kernel
theorem dX3_coefficient_40 : decode cX3_coefficient 40 = .ok (.aload_n 0, 1) := by decide +kernel
theorem dX3_coefficient_41 : decode cX3_coefficient 41 = .ok (.getfield 21, 3) := by decide +kernel
theorem dX3_coefficient_44 : decode cX3_coefficient 44 = .ok (.iload_n 2, 1) := by decide +kernel
theorem dX3_coefficient_45 : decode cX3_coefficient 45 = .ok (.aload_n 0, 1) := by decide +kernel
theorem dX3_coefficient_46 : decode cX3_coefficient 46 = .ok (.getfield 34, 3) := by decide +kernel
theorem dX3_coefficient_49 : decode cX3_coefficient 49 = .ok (.iload_n 1, 1) := by decide +kernel
theorem dX3_coefficient_50 : decode cX3_coefficient 50 = .ok (.aaload, 1) := by decide +kernel
theorem dX3_coefficient_51 : decode cX3_coefficient 51 = .ok (.aload_n 0, 1) := by decide +kernel
theorem dX3_coefficient_52 : decode cX3_coefficient 52 = .ok (.getfield 51, 3) := by decide +kernel
theorem dX3_coefficient_55 : decode cX3_coefficient 55 = .ok (.invokevirtual 122, 3) := by decide +kernel
theorem dX3_coefficient_58 : decode cX3_coefficient 58 = .ok (.iload_n 2, 1) := by decide +kernel
theorem dX3_coefficient_59 : decode cX3_coefficient 59 = .ok (.iconst 3, 1) := by decide +kernel
theorem dX3_coefficient_60 : decode cX3_coefficient 60 = .ok (.if_icmp .ne 9, 3) := by decide +kernel
theorem dX3_coefficient_63 : decode cX3_coefficient 63 = .ok (.ldc2_w 125, 3) := by decide +kernel
theorem dX3_coefficient_66 : decode cX3_coefficient 66 = .ok (.goto 4, 3) := by decide +kernel
theorem dX3_coefficient_69 : decode cX3_coefficient 69 = .ok (.lconst 1, 1) := by decide +kernel
theorem dX3_coefficient_70 : decode cX3_coefficient 70 = .ok (.lstore 5, 2) := by decide +kernel
theorem dX3_coefficient_72 : decode cX3_coefficient 72 = .ok (.aload_n 0, 1) := by decide +kernel
theorem dX3_coefficient_73 : decode cX3_coefficient 73 = .ok (.getfield 51, 3) := by decide +kernel
theorem dX3_coefficient_76 : decode cX3_coefficient 76 = .ok (.iload_n 3, 1) := by decide +kernel
theorem dX3_coefficient_77 : decode cX3_coefficient 77 = .ok (.laload, 1) := by decide +kernel
theorem dX3_coefficient_78 : decode cX3_coefficient 78 = .ok (.lload 5, 2) := by decide +kernel
theorem dX3_coefficient_80 : decode cX3_coefficient 80 = .ok (.invokestatic 127, 3) := by decide +kernel
theorem dX3_coefficient_83 : decode cX3_coefficient 83 = .ok (.lstore 7, 2) := by decide +kernel
theorem dX3_coefficient_85 : decode cX3_coefficient 85 = .ok (.lload 7, 2) := by decide +kernel
theorem dX3_coefficient_87 : decode cX3_coefficient 87 = .ok (.lconst 0, 1) := by decide +kernel
theorem dX3_coefficient_88 : decode cX3_coefficient 88 = .ok (.lcmp, 1) := by decide +kernel
theorem dX3_coefficient_89 : decode cX3_coefficient 89 = .ok (.ifCond .ne 5, 3) := by decide +kernel
theorem dX3_coefficient_92 : decode cX3_coefficient 92 = .ok (.lconst 0, 1) := by decide +kernel
theorem dX3_coefficient_93 : decode cX3_coefficient 93 = .ok (.lreturn, 1) := by decide +kernel
theorem dX3_coefficient_94 : decode cX3_coefficient 94 = .ok (.iload 4, 2) := by decide +kernel
theorem dX3_coefficient_96 : decode cX3_coefficient 96 = .ok (.ifCond .ne 15, 3) := by decide +kernel
theorem dX3_coefficient_99 : decode cX3_coefficient 99 = .ok (.aload_n 0, 1) := by decide +kernel
theorem dX3_coefficient_100 : decode cX3_coefficient 100 = .ok (.getfield 51, 3) := by decide +kernel
theorem dX3_coefficient_103 : decode cX3_coefficient 103 = .ok (.iload_n 3, 1) := by decide +kernel
theorem dX3_coefficient_104 : decode cX3_coefficient 104 = .ok (.laload, 1) := by decide +kernel
theorem dX3_coefficient_105 : decode cX3_coefficient 105 = .ok (.lload 7, 2) := by decide +kernel
theorem dX3_coefficient_107 : decode cX3_coefficient 107 = .ok (.ldiv, 1) := by decide +kernel
theorem dX3_coefficient_108 : decode cX3_coefficient 108 = .ok (.goto 8, 3) := by decide +kernel
theorem dX3_coefficient_111 : decode cX3_coefficient 111 = .ok (.lload 5, 2) := by decide +kernel
theorem dX3_coefficient_113 : decode cX3_coefficient 113 = .ok (.lload 7, 2) := by decide +kernel
theorem dX3_coefficient_115 : decode cX3_coefficient 115 = .ok (.ldiv, 1) := by decide +kernel
theorem dX3_coefficient_116 : decode cX3_coefficient 116 = .ok (.lreturn, 1) := by decide +kernel
theorem dX3_next_0 : decode cX3_next 0 = .ok (.iload_n 1, 1) := by decide +kernel
theorem dX3_next_1 : decode cX3_next 1 = .ok (.invokestatic 89, 3) := by decide +kernel
theorem dX3_next_4 : decode cX3_next 4 = .ok (.ifCond .eq 10, 3) := by decide +kernel
theorem dX3_next_7 : decode cX3_next 7 = .ok (.iload_n 2, 1) := by decide +kernel
theorem dX3_next_8 : decode cX3_next 8 = .ok (.invokestatic 92, 3) := by decide +kernel
theorem dX3_next_11 : decode cX3_next 11 = .ok (.ifCond .ne 5, 3) := by decide +kernel
theorem dX3_next_14 : decode cX3_next 14 = .ok (.iconst (-1), 1) := by decide +kernel
theorem dX3_next_15 : decode cX3_next 15 = .ok (.ireturn, 1) := by decide +kernel
theorem dX3_next_16 : decode cX3_next 16 = .ok (.iload_n 3, 1) := by decide +kernel
theorem dX3_next_17 : decode cX3_next 17 = .ok (.ifCond .lt 9, 3) := by decide +kernel
theorem dX3_next_20 : decode cX3_next 20 = .ok (.iload_n 3, 1) := by decide +kernel
theorem dX3_next_21 : decode cX3_next 21 = .ok (.bipush 30, 2) := by decide +kernel
theorem dX3_next_23 : decode cX3_next 23 = .ok (.if_icmp .le 6, 3) := by decide +kernel
theorem dX3_next_26 : decode cX3_next 26 = .ok (.bipush (-2), 2) := by decide +kernel
theorem dX3_next_28 : decode cX3_next 28 = .ok (.ireturn, 1) := by decide +kernel
theorem dX3_next_29 : decode cX3_next 29 = .ok (.aload_n 0, 1) := by decide +kernel
theorem dX3_next_30 : decode cX3_next 30 = .ok (.getfield 21, 3) := by decide +kernel
theorem dX3_next_33 : decode cX3_next 33 = .ok (.iload_n 2, 1) := by decide +kernel
theorem dX3_next_34 : decode cX3_next 34 = .ok (.aload_n 0, 1) := by decide +kernel
theorem dX3_next_35 : decode cX3_next 35 = .ok (.getfield 34, 3) := by decide +kernel
theorem dX3_next_38 : decode cX3_next 38 = .ok (.iload_n 1, 1) := by decide +kernel
theorem dX3_next_39 : decode cX3_next 39 = .ok (.aaload, 1) := by decide +kernel
theorem dX3_next_40 : decode cX3_next 40 = .ok (.aload_n 0, 1) := by decide +kernel
theorem dX3_next_41 : decode cX3_next 41 = .ok (.getfield 51, 3) := by decide +kernel
theorem dX3_next_44 : decode cX3_next 44 = .ok (.invokevirtual 122, 3) := by decide +kernel
theorem dX3_next_47 : decode cX3_next 47 = .ok (.iload_n 3, 1) := by decide +kernel
theorem dX3_next_48 : decode cX3_next 48 = .ok (.istore 4, 2) := by decide +kernel
theorem dX3_next_50 : decode cX3_next 50 = .ok (.iload 4, 2) := by decide +kernel
theorem dX3_next_52 : decode cX3_next 52 = .ok (.bipush 30, 2) := by decide +kernel
theorem dX3_next_54 : decode cX3_next 54 = .ok (.if_icmp .ge 24, 3) := by decide +kernel
theorem dX3_next_57 : decode cX3_next 57 = .ok (.aload_n 0, 1) := by decide +kernel
theorem dX3_next_58 : decode cX3_next 58 = .ok (.getfield 51, 3) := by decide +kernel
theorem dX3_next_61 : decode cX3_next 61 = .ok (.iload 4, 2) := by decide +kernel
theorem dX3_next_63 : decode cX3_next 63 = .ok (.laload, 1) := by decide +kernel
theorem dX3_next_64 : decode cX3_next 64 = .ok (.lconst 0, 1) := by decide +kernel
theorem dX3_next_65 : decode cX3_next 65 = .ok (.lcmp, 1) := by decide +kernel
theorem dX3_next_66 : decode cX3_next 66 = .ok (.ifCond .eq 6, 3) := by decide +kernel
theorem dX3_next_69 : decode cX3_next 69 = .ok (.iload 4, 2) := by decide +kernel
theorem dX3_next_71 : decode cX3_next 71 = .ok (.ireturn, 1) := by decide +kernel
theorem dX3_next_72 : decode cX3_next 72 = .ok (.iinc 4 1, 3) := by decide +kernel
theorem dX3_next_75 : decode cX3_next 75 = .ok (.goto (-25), 3) := by decide +kernel
theorem dX3_next_78 : decode cX3_next 78 = .ok (.bipush (-6), 2) := by decide +kernel
theorem dX3_next_80 : decode cX3_next 80 = .ok (.ireturn, 1) := by decide +kernel
theorem dX3_value_0 : decode cX3_value 0 = .ok (.iload_n 1, 1) := by decide +kernel
theorem dX3_value_1 : decode cX3_value 1 = .ok (.invokestatic 89, 3) := by decide +kernel
theorem dX3_value_4 : decode cX3_value 4 = .ok (.ifCond .ne 7, 3) := by decide +kernel
theorem dX3_value_7 : decode cX3_value 7 = .ok (.ldc2_w 118, 3) := by decide +kernel
theorem dX3_value_10 : decode cX3_value 10 = .ok (.lreturn, 1) := by decide +kernel
theorem dX3_value_11 : decode cX3_value 11 = .ok (.iload_n 2, 1) := by decide +kernel
theorem dX3_value_12 : decode cX3_value 12 = .ok (.i2l, 1) := by decide +kernel
theorem dX3_value_13 : decode cX3_value 13 = .ok (.ldc2_w 131, 3) := by decide +kernel
theorem dX3_value_16 : decode cX3_value 16 = .ok (.invokestatic 97, 3) := by decide +kernel
theorem dX3_value_19 : decode cX3_value 19 = .ok (.ifCond .eq 26, 3) := by decide +kernel
theorem dX3_value_22 : decode cX3_value 22 = .ok (.iload_n 3, 1) := by decide +kernel
theorem dX3_value_23 : decode cX3_value 23 = .ok (.i2l, 1) := by decide +kernel
theorem dX3_value_24 : decode cX3_value 24 = .ok (.ldc2_w 131, 3) := by decide +kernel
theorem dX3_value_27 : decode cX3_value 27 = .ok (.invokestatic 97, 3) := by decide +kernel
theorem dX3_value_30 : decode cX3_value 30 = .ok (.ifCond .eq 15, 3) := by decide +kernel
theorem dX3_value_33 : decode cX3_value 33 = .ok (.iload 4, 2) := by decide +kernel
theorem dX3_value_35 : decode cX3_value 35 = .ok (.i2l, 1) := by decide +kernel
theorem dX3_value_36 : decode cX3_value 36 = .ok (.ldc2_w 131, 3) := by decide +kernel
theorem dX3_value_39 : decode cX3_value 39 = .ok (.invokestatic 97, 3) := by decide +kernel
theorem dX3_value_42 : decode cX3_value 42 = .ok (.ifCond .ne 7, 3) := by decide +kernel
theorem dX3_value_45 : decode cX3_value 45 = .ok (.ldc2_w 120, 3) := by decide +kernel
theorem dX3_value_48 : decode cX3_value 48 = .ok (.lreturn, 1) := by decide +kernel
theorem dX3_value_49 : decode cX3_value 49 = .ok (.aload_n 0, 1) := by decide +kernel
theorem dX3_value_50 : decode cX3_value 50 = .ok (.getfield 28, 3) := by decide +kernel
theorem dX3_value_53 : decode cX3_value 53 = .ok (.aload_n 0, 1) := by decide +kernel
theorem dX3_value_54 : decode cX3_value 54 = .ok (.getfield 34, 3) := by decide +kernel
theorem dX3_value_57 : decode cX3_value 57 = .ok (.iload_n 1, 1) := by decide +kernel
theorem dX3_value_58 : decode cX3_value 58 = .ok (.aaload, 1) := by decide +kernel
theorem dX3_value_59 : decode cX3_value 59 = .ok (.iload_n 2, 1) := by decide +kernel
theorem dX3_value_60 : decode cX3_value 60 = .ok (.i2l, 1) := by decide +kernel
theorem dX3_value_61 : decode cX3_value 61 = .ok (.iload_n 3, 1) := by decide +kernel
theorem dX3_value_62 : decode cX3_value 62 = .ok (.i2l, 1) := by decide +kernel
theorem dX3_value_63 : decode cX3_value 63 = .ok (.iload 4, 2) := by decide +kernel
theorem dX3_value_65 : decode cX3_value 65 = .ok (.i2l, 1) := by decide +kernel
theorem dX3_value_66 : decode cX3_value 66 = .ok (.invokevirtual 133, 3) := by decide +kernel
theorem dX3_value_69 : decode cX3_value 69 = .ok (.lreturn, 1) := by decide +kernel
theorem dX3_scalar_0 : decode cX3_scalar 0 = .ok (.iload_n 1, 1) := by decide +kernel
theorem dX3_scalar_1 : decode cX3_scalar 1 = .ok (.invokestatic 89, 3) := by decide +kernel
theorem dX3_scalar_4 : decode cX3_scalar 4 = .ok (.ifCond .eq 10, 3) := by decide +kernel
theorem dX3_scalar_7 : decode cX3_scalar 7 = .ok (.iload_n 2, 1) := by decide +kernel
theorem dX3_scalar_8 : decode cX3_scalar 8 = .ok (.invokestatic 89, 3) := by decide +kernel
theorem dX3_scalar_11 : decode cX3_scalar 11 = .ok (.ifCond .ne 7, 3) := by decide +kernel
theorem dX3_scalar_14 : decode cX3_scalar 14 = .ok (.ldc2_w 118, 3) := by decide +kernel
theorem dX3_scalar_17 : decode cX3_scalar 17 = .ok (.lreturn, 1) := by decide +kernel
theorem dX3_scalar_18 : decode cX3_scalar 18 = .ok (.aload_n 0, 1) := by decide +kernel
theorem dX3_scalar_19 : decode cX3_scalar 19 = .ok (.getfield 21, 3) := by decide +kernel
theorem dX3_scalar_22 : decode cX3_scalar 22 = .ok (.iconst 4, 1) := by decide +kernel
theorem dX3_scalar_23 : decode cX3_scalar 23 = .ok (.aload_n 0, 1) := by decide +kernel
theorem dX3_scalar_24 : decode cX3_scalar 24 = .ok (.getfield 34, 3) := by decide +kernel
theorem dX3_scalar_27 : decode cX3_scalar 27 = .ok (.iload_n 1, 1) := by decide +kernel
theorem dX3_scalar_28 : decode cX3_scalar 28 = .ok (.aaload, 1) := by decide +kernel
theorem dX3_scalar_29 : decode cX3_scalar 29 = .ok (.aload_n 0, 1) := by decide +kernel
theorem dX3_scalar_30 : decode cX3_scalar 30 = .ok (.getfield 44, 3) := by decide +kernel
theorem dX3_scalar_33 : decode cX3_scalar 33 = .ok (.invokevirtual 122, 3) := by decide +kernel
theorem dX3_scalar_36 : decode cX3_scalar 36 = .ok (.aload_n 0, 1) := by decide +kernel
theorem dX3_scalar_37 : decode cX3_scalar 37 = .ok (.getfield 21, 3) := by decide +kernel
theorem dX3_scalar_40 : decode cX3_scalar 40 = .ok (.iconst 4, 1) := by decide +kernel
theorem dX3_scalar_41 : decode cX3_scalar 41 = .ok (.aload_n 0, 1) := by decide +kernel
theorem dX3_scalar_42 : decode cX3_scalar 42 = .ok (.getfield 34, 3) := by decide +kernel
theorem dX3_scalar_45 : decode cX3_scalar 45 = .ok (.iload_n 2, 1) := by decide +kernel
theorem dX3_scalar_46 : decode cX3_scalar 46 = .ok (.aaload, 1) := by decide +kernel
theorem dX3_scalar_47 : decode cX3_scalar 47 = .ok (.aload_n 0, 1) := by decide +kernel
theorem dX3_scalar_48 : decode cX3_scalar 48 = .ok (.getfield 48, 3) := by decide +kernel
theorem dX3_scalar_51 : decode cX3_scalar 51 = .ok (.invokevirtual 122, 3) := by decide +kernel
theorem dX3_scalar_54 : decode cX3_scalar 54 = .ok (.aload_n 0, 1) := by decide +kernel
theorem dX3_scalar_55 : decode cX3_scalar 55 = .ok (.getfield 44, 3) := by decide +kernel
theorem dX3_scalar_58 : decode cX3_scalar 58 = .ok (.aload_n 0, 1) := by decide +kernel
theorem dX3_scalar_59 : decode cX3_scalar 59 = .ok (.getfield 48, 3) := by decide +kernel
theorem dX3_scalar_62 : decode cX3_scalar 62 = .ok (.invokestatic 137, 3) := by decide +kernel
theorem dX3_scalar_65 : decode cX3_scalar 65 = .ok (.lreturn, 1) := by decide +kernel
theorem dX3_times_0 : decode cX3_times 0 = .ok (.iload_n 1, 1) := by decide +kernel
theorem dX3_times_1 : decode cX3_times 1 = .ok (.invokestatic 89, 3) := by decide +kernel
theorem dX3_times_4 : decode cX3_times 4 = .ok (.ifCond .eq 17, 3) := by decide +kernel
theorem dX3_times_7 : decode cX3_times 7 = .ok (.iload_n 2, 1) := by decide +kernel
theorem dX3_times_8 : decode cX3_times 8 = .ok (.invokestatic 89, 3) := by decide +kernel
theorem dX3_times_11 : decode cX3_times 11 = .ok (.ifCond .eq 10, 3) := by decide +kernel
theorem dX3_times_14 : decode cX3_times 14 = .ok (.iload_n 3, 1) := by decide +kernel
theorem dX3_times_15 : decode cX3_times 15 = .ok (.invokestatic 89, 3) := by decide +kernel
theorem dX3_times_18 : decode cX3_times 18 = .ok (.ifCond .ne 5, 3) := by decide +kernel
theorem dX3_times_21 : decode cX3_times 21 = .ok (.iconst (-1), 1) := by decide +kernel
theorem dX3_times_22 : decode cX3_times 22 = .ok (.ireturn, 1) := by decide +kernel
theorem dX3_times_23 : decode cX3_times 23 = .ok (.aload_n 0, 1) := by decide +kernel
theorem dX3_times_24 : decode cX3_times 24 = .ok (.aload_n 0, 1) := by decide +kernel
theorem dX3_times_25 : decode cX3_times 25 = .ok (.getfield 34, 3) := by decide +kernel
theorem dX3_times_28 : decode cX3_times 28 = .ok (.iload_n 2, 1) := by decide +kernel
theorem dX3_times_29 : decode cX3_times 29 = .ok (.aaload, 1) := by decide +kernel
theorem dX3_times_30 : decode cX3_times 30 = .ok (.invokevirtual 114, 3) := by decide +kernel
theorem dX3_times_33 : decode cX3_times 33 = .ok (.istore 4, 2) := by decide +kernel
theorem dX3_times_35 : decode cX3_times 35 = .ok (.aload_n 0, 1) := by decide +kernel
theorem dX3_times_36 : decode cX3_times 36 = .ok (.aload_n 0, 1) := by decide +kernel
theorem dX3_times_37 : decode cX3_times 37 = .ok (.getfield 34, 3) := by decide +kernel
theorem dX3_times_40 : decode cX3_times 40 = .ok (.iload_n 3, 1) := by decide +kernel
theorem dX3_times_41 : decode cX3_times 41 = .ok (.aaload, 1) := by decide +kernel
theorem dX3_times_42 : decode cX3_times 42 = .ok (.invokevirtual 114, 3) := by decide +kernel
theorem dX3_times_45 : decode cX3_times 45 = .ok (.istore 5, 2) := by decide +kernel
theorem dX3_times_47 : decode cX3_times 47 = .ok (.iload 4, 2) := by decide +kernel
theorem dX3_times_49 : decode cX3_times 49 = .ok (.bipush (-6), 2) := by decide +kernel
theorem dX3_times_51 : decode cX3_times 51 = .ok (.if_icmp .eq 23, 3) := by decide +kernel
theorem dX3_times_54 : decode cX3_times 54 = .ok (.iload 5, 2) := by decide +kernel
theorem dX3_times_56 : decode cX3_times 56 = .ok (.bipush (-6), 2) := by decide +kernel
theorem dX3_times_58 : decode cX3_times 58 = .ok (.if_icmp .eq 16, 3) := by decide +kernel
theorem dX3_times_61 : decode cX3_times 61 = .ok (.iload 4, 2) := by decide +kernel
theorem dX3_times_63 : decode cX3_times 63 = .ok (.iload 5, 2) := by decide +kernel
theorem dX3_times_65 : decode cX3_times 65 = .ok (.iadd, 1) := by decide +kernel
theorem dX3_times_66 : decode cX3_times 66 = .ok (.bipush 6, 2) := by decide +kernel
theorem dX3_times_68 : decode cX3_times 68 = .ok (.if_icmp .le 6, 3) := by decide +kernel
theorem dX3_times_71 : decode cX3_times 71 = .ok (.bipush (-4), 2) := by decide +kernel
theorem dX3_times_73 : decode cX3_times 73 = .ok (.ireturn, 1) := by decide +kernel
theorem dX3_times_74 : decode cX3_times 74 = .ok (.aload_n 0, 1) := by decide +kernel
theorem dX3_times_75 : decode cX3_times 75 = .ok (.iload_n 2, 1) := by decide +kernel
theorem dX3_times_76 : decode cX3_times 76 = .ok (.iload_n 3, 1) := by decide +kernel
theorem dX3_times_77 : decode cX3_times 77 = .ok (.invokevirtual 141, 3) := by decide +kernel
theorem dX3_times_80 : decode cX3_times 80 = .ok (.aload_n 0, 1) := by decide +kernel
theorem dX3_times_81 : decode cX3_times 81 = .ok (.getfield 28, 3) := by decide +kernel
theorem dX3_times_84 : decode cX3_times 84 = .ok (.aload_n 0, 1) := by decide +kernel
theorem dX3_times_85 : decode cX3_times 85 = .ok (.getfield 44, 3) := by decide +kernel
theorem dX3_times_88 : decode cX3_times 88 = .ok (.aload_n 0, 1) := by decide +kernel
theorem dX3_times_89 : decode cX3_times 89 = .ok (.getfield 48, 3) := by decide +kernel
theorem dX3_times_92 : decode cX3_times 92 = .ok (.aload_n 0, 1) := by decide +kernel
theorem dX3_times_93 : decode cX3_times 93 = .ok (.getfield 51, 3) := by decide +kernel
theorem dX3_times_96 : decode cX3_times 96 = .ok (.invokevirtual 145, 3) := by decide +kernel
theorem dX3_times_99 : decode cX3_times 99 = .ok (.aload_n 0, 1) := by decide +kernel
theorem dX3_times_100 : decode cX3_times 100 = .ok (.iload_n 1, 1) := by decide +kernel
theorem dX3_times_101 : decode cX3_times 101 = .ok (.invokevirtual 149, 3) := by decide +kernel
theorem dX3_times_104 : decode cX3_times 104 = .ok (.ireturn, 1) := by decide +kernel
theorem dX3_turn_0 : decode cX3_turn 0 = .ok (.iload_n 1, 1) := by decide +kernel
theorem dX3_turn_1 : decode cX3_turn 1 = .ok (.invokestatic 89, 3) := by decide +kernel
theorem dX3_turn_4 : decode cX3_turn 4 = .ok (.ifCond .eq 10, 3) := by decide +kernel
theorem dX3_turn_7 : decode cX3_turn 7 = .ok (.iload_n 2, 1) := by decide +kernel
theorem dX3_turn_8 : decode cX3_turn 8 = .ok (.invokestatic 89, 3) := by decide +kernel
theorem dX3_turn_11 : decode cX3_turn 11 = .ok (.ifCond .ne 5, 3) := by decide +kernel
theorem dX3_turn_14 : decode cX3_turn 14 = .ok (.iconst (-1), 1) := by decide +kernel
theorem dX3_turn_15 : decode cX3_turn 15 = .ok (.ireturn, 1) := by decide +kernel
theorem dX3_turn_16 : decode cX3_turn 16 = .ok (.aload_n 0, 1) := by decide +kernel
theorem dX3_turn_17 : decode cX3_turn 17 = .ok (.getfield 21, 3) := by decide +kernel
theorem dX3_turn_20 : decode cX3_turn 20 = .ok (.iconst 1, 1) := by decide +kernel
theorem dX3_turn_21 : decode cX3_turn 21 = .ok (.aload_n 0, 1) := by decide +kernel
theorem dX3_turn_22 : decode cX3_turn 22 = .ok (.getfield 34, 3) := by decide +kernel
theorem dX3_turn_25 : decode cX3_turn 25 = .ok (.iload_n 2, 1) := by decide +kernel
theorem dX3_turn_26 : decode cX3_turn 26 = .ok (.aaload, 1) := by decide +kernel
theorem dX3_turn_27 : decode cX3_turn 27 = .ok (.aload_n 0, 1) := by decide +kernel
theorem dX3_turn_28 : decode cX3_turn 28 = .ok (.getfield 44, 3) := by decide +kernel
theorem dX3_turn_31 : decode cX3_turn 31 = .ok (.invokevirtual 122, 3) := by decide +kernel
theorem dX3_turn_34 : decode cX3_turn 34 = .ok (.aload_n 0, 1) := by decide +kernel
theorem dX3_turn_35 : decode cX3_turn 35 = .ok (.getfield 21, 3) := by decide +kernel
theorem dX3_turn_38 : decode cX3_turn 38 = .ok (.iconst 2, 1) := by decide +kernel
theorem dX3_turn_39 : decode cX3_turn 39 = .ok (.aload_n 0, 1) := by decide +kernel
theorem dX3_turn_40 : decode cX3_turn 40 = .ok (.getfield 44, 3) := by decide +kernel
theorem dX3_turn_43 : decode cX3_turn 43 = .ok (.aload_n 0, 1) := by decide +kernel
theorem dX3_turn_44 : decode cX3_turn 44 = .ok (.getfield 51, 3) := by decide +kernel
theorem dX3_turn_47 : decode cX3_turn 47 = .ok (.invokevirtual 107, 3) := by decide +kernel
theorem dX3_turn_50 : decode cX3_turn 50 = .ok (.aload_n 0, 1) := by decide +kernel
theorem dX3_turn_51 : decode cX3_turn 51 = .ok (.iload_n 1, 1) := by decide +kernel
theorem dX3_turn_52 : decode cX3_turn 52 = .ok (.invokevirtual 111, 3) := by decide +kernel
theorem dX3_turn_55 : decode cX3_turn 55 = .ok (.ireturn, 1) := by decide +kernel
theorem dX3_strip_0 : decode cX3_strip 0 = .ok (.iload_n 1, 1) := by decide +kernel
theorem dX3_strip_1 : decode cX3_strip 1 = .ok (.invokestatic 89, 3) := by decide +kernel
theorem dX3_strip_4 : decode cX3_strip 4 = .ok (.ifCond .eq 17, 3) := by decide +kernel
theorem dX3_strip_7 : decode cX3_strip 7 = .ok (.iload_n 2, 1) := by decide +kernel
theorem dX3_strip_8 : decode cX3_strip 8 = .ok (.invokestatic 89, 3) := by decide +kernel
theorem dX3_strip_11 : decode cX3_strip 11 = .ok (.ifCond .eq 10, 3) := by decide +kernel
theorem dX3_strip_14 : decode cX3_strip 14 = .ok (.iload_n 3, 1) := by decide +kernel
theorem dX3_strip_15 : decode cX3_strip 15 = .ok (.invokestatic 89, 3) := by decide +kernel
theorem dX3_strip_18 : decode cX3_strip 18 = .ok (.ifCond .ne 5, 3) := by decide +kernel
theorem dX3_strip_21 : decode cX3_strip 21 = .ok (.iconst (-1), 1) := by decide +kernel
theorem dX3_strip_22 : decode cX3_strip 22 = .ok (.ireturn, 1) := by decide +kernel
theorem dX3_strip_23 : decode cX3_strip 23 = .ok (.aload_n 0, 1) := by decide +kernel
theorem dX3_strip_24 : decode cX3_strip 24 = .ok (.iload_n 2, 1) := by decide +kernel
theorem dX3_strip_25 : decode cX3_strip 25 = .ok (.iload_n 3, 1) := by decide +kernel
theorem dX3_strip_26 : decode cX3_strip 26 = .ok (.invokevirtual 141, 3) := by decide +kernel
theorem dX3_strip_29 : decode cX3_strip 29 = .ok (.aload_n 0, 1) := by decide +kernel
theorem dX3_strip_30 : decode cX3_strip 30 = .ok (.getfield 28, 3) := by decide +kernel
theorem dX3_strip_33 : decode cX3_strip 33 = .ok (.aload_n 0, 1) := by decide +kernel
theorem dX3_strip_34 : decode cX3_strip 34 = .ok (.getfield 44, 3) := by decide +kernel
theorem dX3_strip_37 : decode cX3_strip 37 = .ok (.aload_n 0, 1) := by decide +kernel
theorem dX3_strip_38 : decode cX3_strip 38 = .ok (.getfield 48, 3) := by decide +kernel
theorem dX3_strip_41 : decode cX3_strip 41 = .ok (.aload_n 0, 1) := by decide +kernel
theorem dX3_strip_42 : decode cX3_strip 42 = .ok (.getfield 51, 3) := by decide +kernel
theorem dX3_strip_45 : decode cX3_strip 45 = .ok (.invokevirtual 152, 3) := by decide +kernel
theorem dX3_strip_48 : decode cX3_strip 48 = .ok (.aload_n 0, 1) := by decide +kernel
theorem dX3_strip_49 : decode cX3_strip 49 = .ok (.iload_n 1, 1) := by decide +kernel
theorem dX3_strip_50 : decode cX3_strip 50 = .ok (.invokevirtual 149, 3) := by decide +kernel
theorem dX3_strip_53 : decode cX3_strip 53 = .ok (.ireturn, 1) := by decide +kernel
theorem dX3_meet_0 : decode cX3_meet 0 = .ok (.iload_n 1, 1) := by decide +kernel
theorem dX3_meet_1 : decode cX3_meet 1 = .ok (.invokestatic 89, 3) := by decide +kernel
theorem dX3_meet_4 : decode cX3_meet 4 = .ok (.ifCond .eq 17, 3) := by decide +kernel
theorem dX3_meet_7 : decode cX3_meet 7 = .ok (.iload_n 2, 1) := by decide +kernel
theorem dX3_meet_8 : decode cX3_meet 8 = .ok (.invokestatic 89, 3) := by decide +kernel
theorem dX3_meet_11 : decode cX3_meet 11 = .ok (.ifCond .eq 10, 3) := by decide +kernel
theorem dX3_meet_14 : decode cX3_meet 14 = .ok (.iload_n 3, 1) := by decide +kernel
theorem dX3_meet_15 : decode cX3_meet 15 = .ok (.invokestatic 89, 3) := by decide +kernel
theorem dX3_meet_18 : decode cX3_meet 18 = .ok (.ifCond .ne 5, 3) := by decide +kernel
theorem dX3_meet_21 : decode cX3_meet 21 = .ok (.iconst (-1), 1) := by decide +kernel
theorem dX3_meet_22 : decode cX3_meet 22 = .ok (.ireturn, 1) := by decide +kernel
theorem dX3_meet_23 : decode cX3_meet 23 = .ok (.aload_n 0, 1) := by decide +kernel
theorem dX3_meet_24 : decode cX3_meet 24 = .ok (.iload_n 2, 1) := by decide +kernel
theorem dX3_meet_25 : decode cX3_meet 25 = .ok (.iload_n 3, 1) := by decide +kernel
theorem dX3_meet_26 : decode cX3_meet 26 = .ok (.invokevirtual 141, 3) := by decide +kernel
theorem dX3_meet_29 : decode cX3_meet 29 = .ok (.aload_n 0, 1) := by decide +kernel
theorem dX3_meet_30 : decode cX3_meet 30 = .ok (.getfield 28, 3) := by decide +kernel
theorem dX3_meet_33 : decode cX3_meet 33 = .ok (.aload_n 0, 1) := by decide +kernel
theorem dX3_meet_34 : decode cX3_meet 34 = .ok (.getfield 44, 3) := by decide +kernel
theorem dX3_meet_37 : decode cX3_meet 37 = .ok (.aload_n 0, 1) := by decide +kernel
theorem dX3_meet_38 : decode cX3_meet 38 = .ok (.getfield 48, 3) := by decide +kernel
theorem dX3_meet_41 : decode cX3_meet 41 = .ok (.aload_n 0, 1) := by decide +kernel
theorem dX3_meet_42 : decode cX3_meet 42 = .ok (.getfield 51, 3) := by decide +kernel
theorem dX3_meet_45 : decode cX3_meet 45 = .ok (.invokevirtual 155, 3) := by decide +kernel
theorem dX3_meet_48 : decode cX3_meet 48 = .ok (.aload_n 0, 1) := by decide +kernel
theorem dX3_meet_49 : decode cX3_meet 49 = .ok (.iload_n 1, 1) := by decide +kernel
theorem dX3_meet_50 : decode cX3_meet 50 = .ok (.invokevirtual 149, 3) := by decide +kernel
theorem dX3_meet_53 : decode cX3_meet 53 = .ok (.ireturn, 1) := by decide +kernel
theorem dX3_plug_0 : decode cX3_plug 0 = .ok (.iload_n 1, 1) := by decide +kernel
theorem dX3_plug_1 : decode cX3_plug 1 = .ok (.invokestatic 89, 3) := by decide +kernel
theorem dX3_plug_4 : decode cX3_plug 4 = .ok (.ifCond .eq 17, 3) := by decide +kernel
theorem dX3_plug_7 : decode cX3_plug 7 = .ok (.iload_n 2, 1) := by decide +kernel
theorem dX3_plug_8 : decode cX3_plug 8 = .ok (.invokestatic 89, 3) := by decide +kernel
theorem dX3_plug_11 : decode cX3_plug 11 = .ok (.ifCond .eq 10, 3) := by decide +kernel
theorem dX3_plug_14 : decode cX3_plug 14 = .ok (.iload_n 3, 1) := by decide +kernel
theorem dX3_plug_15 : decode cX3_plug 15 = .ok (.invokestatic 89, 3) := by decide +kernel
theorem dX3_plug_18 : decode cX3_plug 18 = .ok (.ifCond .ne 5, 3) := by decide +kernel
theorem dX3_plug_21 : decode cX3_plug 21 = .ok (.iconst (-1), 1) := by decide +kernel
theorem dX3_plug_22 : decode cX3_plug 22 = .ok (.ireturn, 1) := by decide +kernel
theorem dX3_plug_23 : decode cX3_plug 23 = .ok (.aload_n 0, 1) := by decide +kernel
theorem dX3_plug_24 : decode cX3_plug 24 = .ok (.getfield 34, 3) := by decide +kernel
theorem dX3_plug_27 : decode cX3_plug 27 = .ok (.iload_n 2, 1) := by decide +kernel
theorem dX3_plug_28 : decode cX3_plug 28 = .ok (.aaload, 1) := by decide +kernel
theorem dX3_plug_29 : decode cX3_plug 29 = .ok (.ldc2_w 95, 3) := by decide +kernel
theorem dX3_plug_32 : decode cX3_plug 32 = .ok (.invokestatic 158, 3) := by decide +kernel
theorem dX3_plug_35 : decode cX3_plug 35 = .ok (.ifCond .eq 18, 3) := by decide +kernel
theorem dX3_plug_38 : decode cX3_plug 38 = .ok (.aload_n 0, 1) := by decide +kernel
theorem dX3_plug_39 : decode cX3_plug 39 = .ok (.getfield 34, 3) := by decide +kernel
theorem dX3_plug_42 : decode cX3_plug 42 = .ok (.iload_n 3, 1) := by decide +kernel
theorem dX3_plug_43 : decode cX3_plug 43 = .ok (.aaload, 1) := by decide +kernel
theorem dX3_plug_44 : decode cX3_plug 44 = .ok (.ldc2_w 131, 3) := by decide +kernel
theorem dX3_plug_47 : decode cX3_plug 47 = .ok (.invokestatic 158, 3) := by decide +kernel
theorem dX3_plug_50 : decode cX3_plug 50 = .ok (.ifCond .ne 6, 3) := by decide +kernel
theorem dX3_plug_53 : decode cX3_plug 53 = .ok (.bipush (-3), 2) := by decide +kernel
theorem dX3_plug_55 : decode cX3_plug 55 = .ok (.ireturn, 1) := by decide +kernel
theorem dX3_plug_56 : decode cX3_plug 56 = .ok (.aload_n 0, 1) := by decide +kernel
theorem dX3_plug_57 : decode cX3_plug 57 = .ok (.aload_n 0, 1) := by decide +kernel
theorem dX3_plug_58 : decode cX3_plug 58 = .ok (.getfield 34, 3) := by decide +kernel
theorem dX3_plug_61 : decode cX3_plug 61 = .ok (.iload_n 2, 1) := by decide +kernel
theorem dX3_plug_62 : decode cX3_plug 62 = .ok (.aaload, 1) := by decide +kernel
theorem dX3_plug_63 : decode cX3_plug 63 = .ok (.invokevirtual 114, 3) := by decide +kernel
theorem dX3_plug_66 : decode cX3_plug 66 = .ok (.istore 4, 2) := by decide +kernel
theorem dX3_plug_68 : decode cX3_plug 68 = .ok (.aload_n 0, 1) := by decide +kernel
theorem dX3_plug_69 : decode cX3_plug 69 = .ok (.aload_n 0, 1) := by decide +kernel
theorem dX3_plug_70 : decode cX3_plug 70 = .ok (.getfield 34, 3) := by decide +kernel
theorem dX3_plug_73 : decode cX3_plug 73 = .ok (.iload_n 3, 1) := by decide +kernel
theorem dX3_plug_74 : decode cX3_plug 74 = .ok (.aaload, 1) := by decide +kernel
theorem dX3_plug_75 : decode cX3_plug 75 = .ok (.invokevirtual 114, 3) := by decide +kernel
theorem dX3_plug_78 : decode cX3_plug 78 = .ok (.istore 5, 2) := by decide +kernel
theorem dX3_plug_80 : decode cX3_plug 80 = .ok (.iload 4, 2) := by decide +kernel
theorem dX3_plug_82 : decode cX3_plug 82 = .ok (.ifCond .le 21, 3) := by decide +kernel
theorem dX3_plug_85 : decode cX3_plug 85 = .ok (.iload 5, 2) := by decide +kernel
theorem dX3_plug_87 : decode cX3_plug 87 = .ok (.ifCond .le 16, 3) := by decide +kernel
theorem dX3_plug_90 : decode cX3_plug 90 = .ok (.iload 4, 2) := by decide +kernel
theorem dX3_plug_92 : decode cX3_plug 92 = .ok (.iload 5, 2) := by decide +kernel
theorem dX3_plug_94 : decode cX3_plug 94 = .ok (.imul, 1) := by decide +kernel
theorem dX3_plug_95 : decode cX3_plug 95 = .ok (.bipush 6, 2) := by decide +kernel
theorem dX3_plug_97 : decode cX3_plug 97 = .ok (.if_icmp .le 6, 3) := by decide +kernel
theorem dX3_plug_100 : decode cX3_plug 100 = .ok (.bipush (-4), 2) := by decide +kernel
theorem dX3_plug_102 : decode cX3_plug 102 = .ok (.ireturn, 1) := by decide +kernel
theorem dX3_plug_103 : decode cX3_plug 103 = .ok (.aload_n 0, 1) := by decide +kernel
theorem dX3_plug_104 : decode cX3_plug 104 = .ok (.iload_n 2, 1) := by decide +kernel
theorem dX3_plug_105 : decode cX3_plug 105 = .ok (.iload_n 3, 1) := by decide +kernel
theorem dX3_plug_106 : decode cX3_plug 106 = .ok (.invokevirtual 141, 3) := by decide +kernel
theorem dX3_plug_109 : decode cX3_plug 109 = .ok (.aload_n 0, 1) := by decide +kernel
theorem dX3_plug_110 : decode cX3_plug 110 = .ok (.getfield 28, 3) := by decide +kernel
theorem dX3_plug_113 : decode cX3_plug 113 = .ok (.aload_n 0, 1) := by decide +kernel
theorem dX3_plug_114 : decode cX3_plug 114 = .ok (.getfield 44, 3) := by decide +kernel
theorem dX3_plug_117 : decode cX3_plug 117 = .ok (.aload_n 0, 1) := by decide +kernel
theorem dX3_plug_118 : decode cX3_plug 118 = .ok (.getfield 48, 3) := by decide +kernel
theorem dX3_plug_121 : decode cX3_plug 121 = .ok (.aload_n 0, 1) := by decide +kernel
theorem dX3_plug_122 : decode cX3_plug 122 = .ok (.getfield 51, 3) := by decide +kernel
theorem dX3_plug_125 : decode cX3_plug 125 = .ok (.invokevirtual 162, 3) := by decide +kernel
theorem dX3_plug_128 : decode cX3_plug 128 = .ok (.aload_n 0, 1) := by decide +kernel
theorem dX3_plug_129 : decode cX3_plug 129 = .ok (.iload_n 1, 1) := by decide +kernel
theorem dX3_plug_130 : decode cX3_plug 130 = .ok (.invokevirtual 149, 3) := by decide +kernel
theorem dX3_plug_133 : decode cX3_plug 133 = .ok (.ireturn, 1) := by decide +kernel
theorem dX3_image_0 : decode cX3_image 0 = .ok (.iload_n 1, 1) := by decide +kernel
theorem dX3_image_1 : decode cX3_image 1 = .ok (.ifCond .lt 8, 3) := by decide +kernel
theorem dX3_image_4 : decode cX3_image 4 = .ok (.iload_n 1, 1) := by decide +kernel
theorem dX3_image_5 : decode cX3_image 5 = .ok (.iconst 2, 1) := by decide +kernel
theorem dX3_image_6 : decode cX3_image 6 = .ok (.if_icmp .lt 6, 3) := by decide +kernel
theorem dX3_image_9 : decode cX3_image 9 = .ok (.bipush (-2), 2) := by decide +kernel
theorem dX3_image_11 : decode cX3_image 11 = .ok (.ireturn, 1) := by decide +kernel
theorem dX3_image_12 : decode cX3_image 12 = .ok (.iconst 0, 1) := by decide +kernel
theorem dX3_image_13 : decode cX3_image 13 = .ok (.istore_n 2, 1) := by decide +kernel
theorem dX3_image_14 : decode cX3_image 14 = .ok (.iload_n 2, 1) := by decide +kernel
theorem dX3_image_15 : decode cX3_image 15 = .ok (.bipush 8, 2) := by decide +kernel
theorem dX3_image_17 : decode cX3_image 17 = .ok (.if_icmp .ge 33, 3) := by decide +kernel
theorem dX3_image_20 : decode cX3_image 20 = .ok (.aload_n 0, 1) := by decide +kernel
theorem dX3_image_21 : decode cX3_image 21 = .ok (.getfield 34, 3) := by decide +kernel
theorem dX3_image_24 : decode cX3_image 24 = .ok (.iload_n 2, 1) := by decide +kernel
theorem dX3_image_25 : decode cX3_image 25 = .ok (.aaload, 1) := by decide +kernel
theorem dX3_image_26 : decode cX3_image 26 = .ok (.iconst 0, 1) := by decide +kernel
theorem dX3_image_27 : decode cX3_image 27 = .ok (.aload_n 0, 1) := by decide +kernel
theorem dX3_image_28 : decode cX3_image 28 = .ok (.getfield 37, 3) := by decide +kernel
theorem dX3_image_31 : decode cX3_image 31 = .ok (.iload_n 1, 1) := by decide +kernel
theorem dX3_image_32 : decode cX3_image 32 = .ok (.bipush 8, 2) := by decide +kernel
theorem dX3_image_34 : decode cX3_image 34 = .ok (.imul, 1) := by decide +kernel
theorem dX3_image_35 : decode cX3_image 35 = .ok (.iload_n 2, 1) := by decide +kernel
theorem dX3_image_36 : decode cX3_image 36 = .ok (.iadd, 1) := by decide +kernel
theorem dX3_image_37 : decode cX3_image 37 = .ok (.aaload, 1) := by decide +kernel
theorem dX3_image_38 : decode cX3_image 38 = .ok (.iconst 0, 1) := by decide +kernel
theorem dX3_image_39 : decode cX3_image 39 = .ok (.bipush 30, 2) := by decide +kernel
theorem dX3_image_41 : decode cX3_image 41 = .ok (.invokestatic 165, 3) := by decide +kernel
theorem dX3_image_44 : decode cX3_image 44 = .ok (.iinc 2 1, 3) := by decide +kernel
theorem dX3_image_47 : decode cX3_image 47 = .ok (.goto (-33), 3) := by decide +kernel
theorem dX3_image_50 : decode cX3_image 50 = .ok (.aload_n 0, 1) := by decide +kernel
theorem dX3_image_51 : decode cX3_image 51 = .ok (.getfield 40, 3) := by decide +kernel
theorem dX3_image_54 : decode cX3_image 54 = .ok (.iload_n 1, 1) := by decide +kernel
theorem dX3_image_55 : decode cX3_image 55 = .ok (.iconst 1, 1) := by decide +kernel
theorem dX3_image_56 : decode cX3_image 56 = .ok (.bastore, 1) := by decide +kernel
theorem dX3_image_57 : decode cX3_image 57 = .ok (.iconst 1, 1) := by decide +kernel
theorem dX3_image_58 : decode cX3_image 58 = .ok (.ireturn, 1) := by decide +kernel
theorem dX3_restore_0 : decode cX3_restore 0 = .ok (.iload_n 1, 1) := by decide +kernel
theorem dX3_restore_1 : decode cX3_restore 1 = .ok (.ifCond .lt 8, 3) := by decide +kernel
theorem dX3_restore_4 : decode cX3_restore 4 = .ok (.iload_n 1, 1) := by decide +kernel
theorem dX3_restore_5 : decode cX3_restore 5 = .ok (.iconst 2, 1) := by decide +kernel
theorem dX3_restore_6 : decode cX3_restore 6 = .ok (.if_icmp .lt 6, 3) := by decide +kernel
theorem dX3_restore_9 : decode cX3_restore 9 = .ok (.bipush (-2), 2) := by decide +kernel
theorem dX3_restore_11 : decode cX3_restore 11 = .ok (.ireturn, 1) := by decide +kernel
theorem dX3_restore_12 : decode cX3_restore 12 = .ok (.aload_n 0, 1) := by decide +kernel
theorem dX3_restore_13 : decode cX3_restore 13 = .ok (.getfield 40, 3) := by decide +kernel
theorem dX3_restore_16 : decode cX3_restore 16 = .ok (.iload_n 1, 1) := by decide +kernel
theorem dX3_restore_17 : decode cX3_restore 17 = .ok (.baload, 1) := by decide +kernel
theorem dX3_restore_18 : decode cX3_restore 18 = .ok (.ifCond .ne 6, 3) := by decide +kernel
theorem dX3_restore_21 : decode cX3_restore 21 = .ok (.bipush (-3), 2) := by decide +kernel
theorem dX3_restore_23 : decode cX3_restore 23 = .ok (.ireturn, 1) := by decide +kernel
theorem dX3_restore_24 : decode cX3_restore 24 = .ok (.iconst 0, 1) := by decide +kernel
theorem dX3_restore_25 : decode cX3_restore 25 = .ok (.istore_n 2, 1) := by decide +kernel
theorem dX3_restore_26 : decode cX3_restore 26 = .ok (.iload_n 2, 1) := by decide +kernel
theorem dX3_restore_27 : decode cX3_restore 27 = .ok (.bipush 8, 2) := by decide +kernel
theorem dX3_restore_29 : decode cX3_restore 29 = .ok (.if_icmp .ge 33, 3) := by decide +kernel
theorem dX3_restore_32 : decode cX3_restore 32 = .ok (.aload_n 0, 1) := by decide +kernel
theorem dX3_restore_33 : decode cX3_restore 33 = .ok (.getfield 37, 3) := by decide +kernel
theorem dX3_restore_36 : decode cX3_restore 36 = .ok (.iload_n 1, 1) := by decide +kernel
theorem dX3_restore_37 : decode cX3_restore 37 = .ok (.bipush 8, 2) := by decide +kernel
theorem dX3_restore_39 : decode cX3_restore 39 = .ok (.imul, 1) := by decide +kernel
theorem dX3_restore_40 : decode cX3_restore 40 = .ok (.iload_n 2, 1) := by decide +kernel
theorem dX3_restore_41 : decode cX3_restore 41 = .ok (.iadd, 1) := by decide +kernel
theorem dX3_restore_42 : decode cX3_restore 42 = .ok (.aaload, 1) := by decide +kernel
theorem dX3_restore_43 : decode cX3_restore 43 = .ok (.iconst 0, 1) := by decide +kernel
theorem dX3_restore_44 : decode cX3_restore 44 = .ok (.aload_n 0, 1) := by decide +kernel
theorem dX3_restore_45 : decode cX3_restore 45 = .ok (.getfield 34, 3) := by decide +kernel
theorem dX3_restore_48 : decode cX3_restore 48 = .ok (.iload_n 2, 1) := by decide +kernel
theorem dX3_restore_49 : decode cX3_restore 49 = .ok (.aaload, 1) := by decide +kernel
theorem dX3_restore_50 : decode cX3_restore 50 = .ok (.iconst 0, 1) := by decide +kernel
theorem dX3_restore_51 : decode cX3_restore 51 = .ok (.bipush 30, 2) := by decide +kernel
theorem dX3_restore_53 : decode cX3_restore 53 = .ok (.invokestatic 165, 3) := by decide +kernel
theorem dX3_restore_56 : decode cX3_restore 56 = .ok (.iinc 2 1, 3) := by decide +kernel
theorem dX3_restore_59 : decode cX3_restore 59 = .ok (.goto (-33), 3) := by decide +kernel
theorem dX3_restore_62 : decode cX3_restore 62 = .ok (.iconst 1, 1) := by decide +kernel
theorem dX3_restore_63 : decode cX3_restore 63 = .ok (.ireturn, 1) := by decide +kernel
theorem dX3_count_0 : decode cX3_count 0 = .ok (.iload_n 1, 1) := by decide +kernel
theorem dX3_count_1 : decode cX3_count 1 = .ok (.ifCond .ne 8, 3) := by decide +kernel
theorem dX3_count_4 : decode cX3_count 4 = .ok (.aload_n 0, 1) := by decide +kernel
theorem dX3_count_5 : decode cX3_count 5 = .ok (.invokevirtual 171, 3) := by decide +kernel
theorem dX3_count_8 : decode cX3_count 8 = .ok (.ireturn, 1) := by decide +kernel
theorem dX3_count_9 : decode cX3_count 9 = .ok (.iload_n 1, 1) := by decide +kernel
theorem dX3_count_10 : decode cX3_count 10 = .ok (.iconst 1, 1) := by decide +kernel
theorem dX3_count_11 : decode cX3_count 11 = .ok (.if_icmp .ne 33, 3) := by decide +kernel
theorem dX3_count_14 : decode cX3_count 14 = .ok (.aload_n 0, 1) := by decide +kernel
theorem dX3_count_15 : decode cX3_count 15 = .ok (.getfield 40, 3) := by decide +kernel
theorem dX3_count_18 : decode cX3_count 18 = .ok (.iconst 0, 1) := by decide +kernel
theorem dX3_count_19 : decode cX3_count 19 = .ok (.baload, 1) := by decide +kernel
theorem dX3_count_20 : decode cX3_count 20 = .ok (.ifCond .eq 7, 3) := by decide +kernel
theorem dX3_count_23 : decode cX3_count 23 = .ok (.iconst 1, 1) := by decide +kernel
theorem dX3_count_24 : decode cX3_count 24 = .ok (.goto 4, 3) := by decide +kernel
theorem dX3_count_27 : decode cX3_count 27 = .ok (.iconst 0, 1) := by decide +kernel
theorem dX3_count_28 : decode cX3_count 28 = .ok (.aload_n 0, 1) := by decide +kernel
theorem dX3_count_29 : decode cX3_count 29 = .ok (.getfield 40, 3) := by decide +kernel
theorem dX3_count_32 : decode cX3_count 32 = .ok (.iconst 1, 1) := by decide +kernel
theorem dX3_count_33 : decode cX3_count 33 = .ok (.baload, 1) := by decide +kernel
theorem dX3_count_34 : decode cX3_count 34 = .ok (.ifCond .eq 7, 3) := by decide +kernel
theorem dX3_count_37 : decode cX3_count 37 = .ok (.iconst 2, 1) := by decide +kernel
theorem dX3_count_38 : decode cX3_count 38 = .ok (.goto 4, 3) := by decide +kernel
theorem dX3_count_41 : decode cX3_count 41 = .ok (.iconst 0, 1) := by decide +kernel
theorem dX3_count_42 : decode cX3_count 42 = .ok (.iadd, 1) := by decide +kernel
theorem dX3_count_43 : decode cX3_count 43 = .ok (.ireturn, 1) := by decide +kernel
theorem dX3_count_44 : decode cX3_count 44 = .ok (.iload_n 1, 1) := by decide +kernel
theorem dX3_count_45 : decode cX3_count 45 = .ok (.bipush 10, 2) := by decide +kernel
theorem dX3_count_47 : decode cX3_count 47 = .ok (.if_icmp .lt 25, 3) := by decide +kernel
theorem dX3_count_50 : decode cX3_count 50 = .ok (.iload_n 1, 1) := by decide +kernel
theorem dX3_count_51 : decode cX3_count 51 = .ok (.bipush 16, 2) := by decide +kernel
theorem dX3_count_53 : decode cX3_count 53 = .ok (.if_icmp .gt 19, 3) := by decide +kernel
theorem dX3_count_56 : decode cX3_count 56 = .ok (.iload_n 1, 1) := by decide +kernel
theorem dX3_count_57 : decode cX3_count 57 = .ok (.bipush 10, 2) := by decide +kernel
theorem dX3_count_59 : decode cX3_count 59 = .ok (.isub, 1) := by decide +kernel
theorem dX3_count_60 : decode cX3_count 60 = .ok (.invokestatic 75, 3) := by decide +kernel
theorem dX3_count_63 : decode cX3_count 63 = .ok (.iload_n 1, 1) := by decide +kernel
theorem dX3_count_64 : decode cX3_count 64 = .ok (.bipush 10, 2) := by decide +kernel
theorem dX3_count_66 : decode cX3_count 66 = .ok (.isub, 1) := by decide +kernel
theorem dX3_count_67 : decode cX3_count 67 = .ok (.invokestatic 175, 3) := by decide +kernel
theorem dX3_count_70 : decode cX3_count 70 = .ok (.isub, 1) := by decide +kernel
theorem dX3_count_71 : decode cX3_count 71 = .ok (.ireturn, 1) := by decide +kernel
theorem dX3_count_72 : decode cX3_count 72 = .ok (.iload_n 1, 1) := by decide +kernel
theorem dX3_count_73 : decode cX3_count 73 = .ok (.bipush 20, 2) := by decide +kernel
theorem dX3_count_75 : decode cX3_count 75 = .ok (.if_icmp .lt 17, 3) := by decide +kernel
theorem dX3_count_78 : decode cX3_count 78 = .ok (.iload_n 1, 1) := by decide +kernel
theorem dX3_count_79 : decode cX3_count 79 = .ok (.bipush 26, 2) := by decide +kernel
theorem dX3_count_81 : decode cX3_count 81 = .ok (.if_icmp .gt 11, 3) := by decide +kernel
theorem dX3_count_84 : decode cX3_count 84 = .ok (.iload_n 1, 1) := by decide +kernel
theorem dX3_count_85 : decode cX3_count 85 = .ok (.bipush 20, 2) := by decide +kernel
theorem dX3_count_87 : decode cX3_count 87 = .ok (.isub, 1) := by decide +kernel
theorem dX3_count_88 : decode cX3_count 88 = .ok (.invokestatic 175, 3) := by decide +kernel
theorem dX3_count_91 : decode cX3_count 91 = .ok (.ireturn, 1) := by decide +kernel
theorem dX3_count_92 : decode cX3_count 92 = .ok (.bipush (-2), 2) := by decide +kernel
theorem dX3_count_94 : decode cX3_count 94 = .ok (.ireturn, 1) := by decide +kernel
theorem dX3_isSlot_0 : decode cX3_isSlot 0 = .ok (.iload_n 0, 1) := by decide +kernel
theorem dX3_isSlot_1 : decode cX3_isSlot 1 = .ok (.ifCond .lt 13, 3) := by decide +kernel
theorem dX3_isSlot_4 : decode cX3_isSlot 4 = .ok (.iload_n 0, 1) := by decide +kernel
theorem dX3_isSlot_5 : decode cX3_isSlot 5 = .ok (.bipush 8, 2) := by decide +kernel
theorem dX3_isSlot_7 : decode cX3_isSlot 7 = .ok (.if_icmp .ge 7, 3) := by decide +kernel
theorem dX3_isSlot_10 : decode cX3_isSlot 10 = .ok (.iconst 1, 1) := by decide +kernel
theorem dX3_isSlot_11 : decode cX3_isSlot 11 = .ok (.goto 4, 3) := by decide +kernel
theorem dX3_isSlot_14 : decode cX3_isSlot 14 = .ok (.iconst 0, 1) := by decide +kernel
theorem dX3_isSlot_15 : decode cX3_isSlot 15 = .ok (.ireturn, 1) := by decide +kernel
theorem dX3_isBase_0 : decode cX3_isBase 0 = .ok (.iload_n 0, 1) := by decide +kernel
theorem dX3_isBase_1 : decode cX3_isBase 1 = .ok (.ifCond .lt 12, 3) := by decide +kernel
theorem dX3_isBase_4 : decode cX3_isBase 4 = .ok (.iload_n 0, 1) := by decide +kernel
theorem dX3_isBase_5 : decode cX3_isBase 5 = .ok (.iconst 4, 1) := by decide +kernel
theorem dX3_isBase_6 : decode cX3_isBase 6 = .ok (.if_icmp .gt 7, 3) := by decide +kernel
theorem dX3_isBase_9 : decode cX3_isBase 9 = .ok (.iconst 1, 1) := by decide +kernel
theorem dX3_isBase_10 : decode cX3_isBase 10 = .ok (.goto 4, 3) := by decide +kernel
theorem dX3_isBase_13 : decode cX3_isBase 13 = .ok (.iconst 0, 1) := by decide +kernel
theorem dX3_isBase_14 : decode cX3_isBase 14 = .ok (.ireturn, 1) := by decide +kernel
theorem dX3_isPartition_0 : decode cX3_isPartition 0 = .ok (.iload_n 0, 1) := by decide +kernel
theorem dX3_isPartition_1 : decode cX3_isPartition 1 = .ok (.ifCond .lt 13, 3) := by decide +kernel
theorem dX3_isPartition_4 : decode cX3_isPartition 4 = .ok (.iload_n 0, 1) := by decide +kernel
theorem dX3_isPartition_5 : decode cX3_isPartition 5 = .ok (.bipush 30, 2) := by decide +kernel
theorem dX3_isPartition_7 : decode cX3_isPartition 7 = .ok (.if_icmp .ge 7, 3) := by decide +kernel
theorem dX3_isPartition_10 : decode cX3_isPartition 10 = .ok (.iconst 1, 1) := by decide +kernel
theorem dX3_isPartition_11 : decode cX3_isPartition 11 = .ok (.goto 4, 3) := by decide +kernel
theorem dX3_isPartition_14 : decode cX3_isPartition 14 = .ok (.iconst 0, 1) := by decide +kernel
theorem dX3_isPartition_15 : decode cX3_isPartition 15 = .ok (.ireturn, 1) := by decide +kernel
theorem dX3_isWithin_0 : decode cX3_isWithin 0 = .ok (.lload_n 0, 1) := by decide +kernel
theorem dX3_isWithin_1 : decode cX3_isWithin 1 = .ok (.lload_n 2, 1) := by decide +kernel
theorem dX3_isWithin_2 : decode cX3_isWithin 2 = .ok (.lneg, 1) := by decide +kernel
theorem dX3_isWithin_3 : decode cX3_isWithin 3 = .ok (.lcmp, 1) := by decide +kernel
theorem dX3_isWithin_4 : decode cX3_isWithin 4 = .ok (.ifCond .lt 13, 3) := by decide +kernel
theorem dX3_isWithin_7 : decode cX3_isWithin 7 = .ok (.lload_n 0, 1) := by decide +kernel
theorem dX3_isWithin_8 : decode cX3_isWithin 8 = .ok (.lload_n 2, 1) := by decide +kernel
theorem dX3_isWithin_9 : decode cX3_isWithin 9 = .ok (.lcmp, 1) := by decide +kernel
theorem dX3_isWithin_10 : decode cX3_isWithin 10 = .ok (.ifCond .gt 7, 3) := by decide +kernel
theorem dX3_isWithin_13 : decode cX3_isWithin 13 = .ok (.iconst 1, 1) := by decide +kernel
theorem dX3_isWithin_14 : decode cX3_isWithin 14 = .ok (.goto 4, 3) := by decide +kernel
theorem dX3_isWithin_17 : decode cX3_isWithin 17 = .ok (.iconst 0, 1) := by decide +kernel
theorem dX3_isWithin_18 : decode cX3_isWithin 18 = .ok (.ireturn, 1) := by decide +kernel
theorem dX3_areWithin_0 : decode cX3_areWithin 0 = .ok (.aload_n 0, 1) := by decide +kernel
theorem dX3_areWithin_1 : decode cX3_areWithin 1 = .ok (.astore_n 3, 1) := by decide +kernel
theorem dX3_areWithin_2 : decode cX3_areWithin 2 = .ok (.aload_n 3, 1) := by decide +kernel
theorem dX3_areWithin_3 : decode cX3_areWithin 3 = .ok (.arraylength, 1) := by decide +kernel
theorem dX3_areWithin_4 : decode cX3_areWithin 4 = .ok (.istore 4, 2) := by decide +kernel
theorem dX3_areWithin_6 : decode cX3_areWithin 6 = .ok (.iconst 0, 1) := by decide +kernel
theorem dX3_areWithin_7 : decode cX3_areWithin 7 = .ok (.istore 5, 2) := by decide +kernel
theorem dX3_areWithin_9 : decode cX3_areWithin 9 = .ok (.iload 5, 2) := by decide +kernel
theorem dX3_areWithin_11 : decode cX3_areWithin 11 = .ok (.iload 4, 2) := by decide +kernel
theorem dX3_areWithin_13 : decode cX3_areWithin 13 = .ok (.if_icmp .ge 26, 3) := by decide +kernel
theorem dX3_areWithin_16 : decode cX3_areWithin 16 = .ok (.aload_n 3, 1) := by decide +kernel
theorem dX3_areWithin_17 : decode cX3_areWithin 17 = .ok (.iload 5, 2) := by decide +kernel
theorem dX3_areWithin_19 : decode cX3_areWithin 19 = .ok (.laload, 1) := by decide +kernel
theorem dX3_areWithin_20 : decode cX3_areWithin 20 = .ok (.lstore 6, 2) := by decide +kernel
theorem dX3_areWithin_22 : decode cX3_areWithin 22 = .ok (.lload 6, 2) := by decide +kernel
theorem dX3_areWithin_24 : decode cX3_areWithin 24 = .ok (.lload_n 1, 1) := by decide +kernel
theorem dX3_areWithin_25 : decode cX3_areWithin 25 = .ok (.invokestatic 97, 3) := by decide +kernel
theorem dX3_areWithin_28 : decode cX3_areWithin 28 = .ok (.ifCond .ne 5, 3) := by decide +kernel
theorem dX3_areWithin_31 : decode cX3_areWithin 31 = .ok (.iconst 0, 1) := by decide +kernel
theorem dX3_areWithin_32 : decode cX3_areWithin 32 = .ok (.ireturn, 1) := by decide +kernel
theorem dX3_areWithin_33 : decode cX3_areWithin 33 = .ok (.iinc 5 1, 3) := by decide +kernel
theorem dX3_areWithin_36 : decode cX3_areWithin 36 = .ok (.goto (-27), 3) := by decide +kernel
theorem dX3_areWithin_39 : decode cX3_areWithin 39 = .ok (.iconst 1, 1) := by decide +kernel
theorem dX3_areWithin_40 : decode cX3_areWithin 40 = .ok (.ireturn, 1) := by decide +kernel
theorem dX3_degreeOf_0 : decode cX3_degreeOf 0 = .ok (.bipush 29, 2) := by decide +kernel
theorem dX3_degreeOf_2 : decode cX3_degreeOf 2 = .ok (.istore_n 2, 1) := by decide +kernel
theorem dX3_degreeOf_3 : decode cX3_degreeOf 3 = .ok (.iload_n 2, 1) := by decide +kernel
theorem dX3_degreeOf_4 : decode cX3_degreeOf 4 = .ok (.ifCond .lt 27, 3) := by decide +kernel
theorem dX3_degreeOf_7 : decode cX3_degreeOf 7 = .ok (.aload_n 1, 1) := by decide +kernel
theorem dX3_degreeOf_8 : decode cX3_degreeOf 8 = .ok (.iload_n 2, 1) := by decide +kernel
theorem dX3_degreeOf_9 : decode cX3_degreeOf 9 = .ok (.laload, 1) := by decide +kernel
theorem dX3_degreeOf_10 : decode cX3_degreeOf 10 = .ok (.lconst 0, 1) := by decide +kernel
theorem dX3_degreeOf_11 : decode cX3_degreeOf 11 = .ok (.lcmp, 1) := by decide +kernel
theorem dX3_degreeOf_12 : decode cX3_degreeOf 12 = .ok (.ifCond .eq 13, 3) := by decide +kernel
theorem dX3_degreeOf_15 : decode cX3_degreeOf 15 = .ok (.aload_n 0, 1) := by decide +kernel
theorem dX3_degreeOf_16 : decode cX3_degreeOf 16 = .ok (.getfield 10, 3) := by decide +kernel
theorem dX3_degreeOf_19 : decode cX3_degreeOf 19 = .ok (.getfield 62, 3) := by decide +kernel
theorem dX3_degreeOf_22 : decode cX3_degreeOf 22 = .ok (.iload_n 2, 1) := by decide +kernel
theorem dX3_degreeOf_23 : decode cX3_degreeOf 23 = .ok (.iaload, 1) := by decide +kernel
theorem dX3_degreeOf_24 : decode cX3_degreeOf 24 = .ok (.ireturn, 1) := by decide +kernel
theorem dX3_degreeOf_25 : decode cX3_degreeOf 25 = .ok (.iinc 2 (-1), 3) := by decide +kernel
theorem dX3_degreeOf_28 : decode cX3_degreeOf 28 = .ok (.goto (-25), 3) := by decide +kernel
theorem dX3_degreeOf_31 : decode cX3_degreeOf 31 = .ok (.bipush (-6), 2) := by decide +kernel
theorem dX3_degreeOf_33 : decode cX3_degreeOf 33 = .ok (.ireturn, 1) := by decide +kernel
theorem dX3_filledSlots_0 : decode cX3_filledSlots 0 = .ok (.iconst 0, 1) := by decide +kernel
theorem dX3_filledSlots_1 : decode cX3_filledSlots 1 = .ok (.istore_n 1, 1) := by decide +kernel
theorem dX3_filledSlots_2 : decode cX3_filledSlots 2 = .ok (.iconst 0, 1) := by decide +kernel
theorem dX3_filledSlots_3 : decode cX3_filledSlots 3 = .ok (.istore_n 2, 1) := by decide +kernel
theorem dX3_filledSlots_4 : decode cX3_filledSlots 4 = .ok (.iload_n 2, 1) := by decide +kernel
theorem dX3_filledSlots_5 : decode cX3_filledSlots 5 = .ok (.bipush 8, 2) := by decide +kernel
theorem dX3_filledSlots_7 : decode cX3_filledSlots 7 = .ok (.if_icmp .ge 27, 3) := by decide +kernel
theorem dX3_filledSlots_10 : decode cX3_filledSlots 10 = .ok (.aload_n 0, 1) := by decide +kernel
theorem dX3_filledSlots_11 : decode cX3_filledSlots 11 = .ok (.aload_n 0, 1) := by decide +kernel
theorem dX3_filledSlots_12 : decode cX3_filledSlots 12 = .ok (.getfield 34, 3) := by decide +kernel
theorem dX3_filledSlots_15 : decode cX3_filledSlots 15 = .ok (.iload_n 2, 1) := by decide +kernel
theorem dX3_filledSlots_16 : decode cX3_filledSlots 16 = .ok (.aaload, 1) := by decide +kernel
theorem dX3_filledSlots_17 : decode cX3_filledSlots 17 = .ok (.invokevirtual 114, 3) := by decide +kernel
theorem dX3_filledSlots_20 : decode cX3_filledSlots 20 = .ok (.bipush (-6), 2) := by decide +kernel
theorem dX3_filledSlots_22 : decode cX3_filledSlots 22 = .ok (.if_icmp .eq 6, 3) := by decide +kernel
theorem dX3_filledSlots_25 : decode cX3_filledSlots 25 = .ok (.iinc 1 1, 3) := by decide +kernel
theorem dX3_filledSlots_28 : decode cX3_filledSlots 28 = .ok (.iinc 2 1, 3) := by decide +kernel
theorem dX3_filledSlots_31 : decode cX3_filledSlots 31 = .ok (.goto (-27), 3) := by decide +kernel
theorem dX3_filledSlots_34 : decode cX3_filledSlots 34 = .ok (.iload_n 1, 1) := by decide +kernel
theorem dX3_filledSlots_35 : decode cX3_filledSlots 35 = .ok (.ireturn, 1) := by decide +kernel
theorem dX3_readPowers_0 : decode cX3_readPowers 0 = .ok (.aload_n 0, 1) := by decide +kernel
theorem dX3_readPowers_1 : decode cX3_readPowers 1 = .ok (.getfield 21, 3) := by decide +kernel
theorem dX3_readPowers_4 : decode cX3_readPowers 4 = .ok (.iconst 3, 1) := by decide +kernel
theorem dX3_readPowers_5 : decode cX3_readPowers 5 = .ok (.aload_n 0, 1) := by decide +kernel
theorem dX3_readPowers_6 : decode cX3_readPowers 6 = .ok (.getfield 34, 3) := by decide +kernel
theorem dX3_readPowers_9 : decode cX3_readPowers 9 = .ok (.iload_n 1, 1) := by decide +kernel
theorem dX3_readPowers_10 : decode cX3_readPowers 10 = .ok (.aaload, 1) := by decide +kernel
theorem dX3_readPowers_11 : decode cX3_readPowers 11 = .ok (.aload_n 0, 1) := by decide +kernel
theorem dX3_readPowers_12 : decode cX3_readPowers 12 = .ok (.getfield 44, 3) := by decide +kernel
theorem dX3_readPowers_15 : decode cX3_readPowers 15 = .ok (.invokevirtual 122, 3) := by decide +kernel
theorem dX3_readPowers_18 : decode cX3_readPowers 18 = .ok (.aload_n 0, 1) := by decide +kernel
theorem dX3_readPowers_19 : decode cX3_readPowers 19 = .ok (.getfield 21, 3) := by decide +kernel
theorem dX3_readPowers_22 : decode cX3_readPowers 22 = .ok (.iconst 3, 1) := by decide +kernel
theorem dX3_readPowers_23 : decode cX3_readPowers 23 = .ok (.aload_n 0, 1) := by decide +kernel
theorem dX3_readPowers_24 : decode cX3_readPowers 24 = .ok (.getfield 34, 3) := by decide +kernel
theorem dX3_readPowers_27 : decode cX3_readPowers 27 = .ok (.iload_n 2, 1) := by decide +kernel
theorem dX3_readPowers_28 : decode cX3_readPowers 28 = .ok (.aaload, 1) := by decide +kernel
theorem dX3_readPowers_29 : decode cX3_readPowers 29 = .ok (.aload_n 0, 1) := by decide +kernel
theorem dX3_readPowers_30 : decode cX3_readPowers 30 = .ok (.getfield 48, 3) := by decide +kernel
theorem dX3_readPowers_33 : decode cX3_readPowers 33 = .ok (.invokevirtual 122, 3) := by decide +kernel
theorem dX3_readPowers_36 : decode cX3_readPowers 36 = .ok (.return_, 1) := by decide +kernel
theorem dX3_holdPowers_0 : decode cX3_holdPowers 0 = .ok (.aload_n 0, 1) := by decide +kernel
theorem dX3_holdPowers_1 : decode cX3_holdPowers 1 = .ok (.getfield 51, 3) := by decide +kernel
theorem dX3_holdPowers_4 : decode cX3_holdPowers 4 = .ok (.iconst 0, 1) := by decide +kernel
theorem dX3_holdPowers_5 : decode cX3_holdPowers 5 = .ok (.aload_n 0, 1) := by decide +kernel
theorem dX3_holdPowers_6 : decode cX3_holdPowers 6 = .ok (.getfield 44, 3) := by decide +kernel
theorem dX3_holdPowers_9 : decode cX3_holdPowers 9 = .ok (.iconst 0, 1) := by decide +kernel
theorem dX3_holdPowers_10 : decode cX3_holdPowers 10 = .ok (.bipush 30, 2) := by decide +kernel
theorem dX3_holdPowers_12 : decode cX3_holdPowers 12 = .ok (.invokestatic 165, 3) := by decide +kernel
theorem dX3_holdPowers_15 : decode cX3_holdPowers 15 = .ok (.aload_n 0, 1) := by decide +kernel
theorem dX3_holdPowers_16 : decode cX3_holdPowers 16 = .ok (.getfield 21, 3) := by decide +kernel
theorem dX3_holdPowers_19 : decode cX3_holdPowers 19 = .ok (.iconst 3, 1) := by decide +kernel
theorem dX3_holdPowers_20 : decode cX3_holdPowers 20 = .ok (.aload_n 0, 1) := by decide +kernel
theorem dX3_holdPowers_21 : decode cX3_holdPowers 21 = .ok (.getfield 44, 3) := by decide +kernel
theorem dX3_holdPowers_24 : decode cX3_holdPowers 24 = .ok (.aload_n 0, 1) := by decide +kernel
theorem dX3_holdPowers_25 : decode cX3_holdPowers 25 = .ok (.getfield 51, 3) := by decide +kernel
theorem dX3_holdPowers_28 : decode cX3_holdPowers 28 = .ok (.invokevirtual 107, 3) := by decide +kernel
theorem dX3_holdPowers_31 : decode cX3_holdPowers 31 = .ok (.aload_n 0, 1) := by decide +kernel
theorem dX3_holdPowers_32 : decode cX3_holdPowers 32 = .ok (.getfield 51, 3) := by decide +kernel
theorem dX3_holdPowers_35 : decode cX3_holdPowers 35 = .ok (.invokestatic 178, 3) := by decide +kernel
theorem dX3_holdPowers_38 : decode cX3_holdPowers 38 = .ok (.aload_n 0, 1) := by decide +kernel
theorem dX3_holdPowers_39 : decode cX3_holdPowers 39 = .ok (.iload_n 1, 1) := by decide +kernel
theorem dX3_holdPowers_40 : decode cX3_holdPowers 40 = .ok (.invokevirtual 111, 3) := by decide +kernel
theorem dX3_holdPowers_43 : decode cX3_holdPowers 43 = .ok (.ireturn, 1) := by decide +kernel
theorem dX3_hold_0 : decode cX3_hold 0 = .ok (.aload_n 0, 1) := by decide +kernel
theorem dX3_hold_1 : decode cX3_hold 1 = .ok (.getfield 51, 3) := by decide +kernel
theorem dX3_hold_4 : decode cX3_hold 4 = .ok (.ldc2_w 182, 3) := by decide +kernel
theorem dX3_hold_7 : decode cX3_hold 7 = .ok (.invokestatic 158, 3) := by decide +kernel
theorem dX3_hold_10 : decode cX3_hold 10 = .ok (.ifCond .ne 6, 3) := by decide +kernel
theorem dX3_hold_13 : decode cX3_hold 13 = .ok (.bipush (-4), 2) := by decide +kernel
theorem dX3_hold_15 : decode cX3_hold 15 = .ok (.ireturn, 1) := by decide +kernel
theorem dX3_hold_16 : decode cX3_hold 16 = .ok (.aload_n 0, 1) := by decide +kernel
theorem dX3_hold_17 : decode cX3_hold 17 = .ok (.getfield 51, 3) := by decide +kernel
theorem dX3_hold_20 : decode cX3_hold 20 = .ok (.iconst 0, 1) := by decide +kernel
theorem dX3_hold_21 : decode cX3_hold 21 = .ok (.aload_n 0, 1) := by decide +kernel
theorem dX3_hold_22 : decode cX3_hold 22 = .ok (.getfield 34, 3) := by decide +kernel
theorem dX3_hold_25 : decode cX3_hold 25 = .ok (.iload_n 1, 1) := by decide +kernel
theorem dX3_hold_26 : decode cX3_hold 26 = .ok (.aaload, 1) := by decide +kernel
theorem dX3_hold_27 : decode cX3_hold 27 = .ok (.iconst 0, 1) := by decide +kernel
theorem dX3_hold_28 : decode cX3_hold 28 = .ok (.bipush 30, 2) := by decide +kernel
theorem dX3_hold_30 : decode cX3_hold 30 = .ok (.invokestatic 165, 3) := by decide +kernel
theorem dX3_hold_33 : decode cX3_hold 33 = .ok (.iconst 1, 1) := by decide +kernel
theorem dX3_hold_34 : decode cX3_hold 34 = .ok (.ireturn, 1) := by decide +kernel
theorem dX3_commonDivisor_0 : decode cX3_commonDivisor 0 = .ok (.lload_n 0, 1) := by decide +kernel
theorem dX3_commonDivisor_1 : decode cX3_commonDivisor 1 = .ok (.invokestatic 184, 3) := by decide +kernel
theorem dX3_commonDivisor_4 : decode cX3_commonDivisor 4 = .ok (.lstore 4, 2) := by decide +kernel
theorem dX3_commonDivisor_6 : decode cX3_commonDivisor 6 = .ok (.lload_n 2, 1) := by decide +kernel
theorem dX3_commonDivisor_7 : decode cX3_commonDivisor 7 = .ok (.invokestatic 184, 3) := by decide +kernel
theorem dX3_commonDivisor_10 : decode cX3_commonDivisor 10 = .ok (.lstore 6, 2) := by decide +kernel
theorem dX3_commonDivisor_12 : decode cX3_commonDivisor 12 = .ok (.iconst 0, 1) := by decide +kernel
theorem dX3_commonDivisor_13 : decode cX3_commonDivisor 13 = .ok (.istore 8, 2) := by decide +kernel
theorem dX3_commonDivisor_15 : decode cX3_commonDivisor 15 = .ok (.iload 8, 2) := by decide +kernel
theorem dX3_commonDivisor_17 : decode cX3_commonDivisor 17 = .ok (.bipush 100, 2) := by decide +kernel
theorem dX3_commonDivisor_19 : decode cX3_commonDivisor 19 = .ok (.if_icmp .ge 31, 3) := by decide +kernel
theorem dX3_commonDivisor_22 : decode cX3_commonDivisor 22 = .ok (.lload 6, 2) := by decide +kernel
theorem dX3_commonDivisor_24 : decode cX3_commonDivisor 24 = .ok (.lconst 0, 1) := by decide +kernel
theorem dX3_commonDivisor_25 : decode cX3_commonDivisor 25 = .ok (.lcmp, 1) := by decide +kernel
theorem dX3_commonDivisor_26 : decode cX3_commonDivisor 26 = .ok (.ifCond .eq 24, 3) := by decide +kernel
theorem dX3_commonDivisor_29 : decode cX3_commonDivisor 29 = .ok (.lload 4, 2) := by decide +kernel
theorem dX3_commonDivisor_31 : decode cX3_commonDivisor 31 = .ok (.lload 6, 2) := by decide +kernel
theorem dX3_commonDivisor_33 : decode cX3_commonDivisor 33 = .ok (.lrem, 1) := by decide +kernel
theorem dX3_commonDivisor_34 : decode cX3_commonDivisor 34 = .ok (.lstore 9, 2) := by decide +kernel
theorem dX3_commonDivisor_36 : decode cX3_commonDivisor 36 = .ok (.lload 6, 2) := by decide +kernel
theorem dX3_commonDivisor_38 : decode cX3_commonDivisor 38 = .ok (.lstore 4, 2) := by decide +kernel
theorem dX3_commonDivisor_40 : decode cX3_commonDivisor 40 = .ok (.lload 9, 2) := by decide +kernel
theorem dX3_commonDivisor_42 : decode cX3_commonDivisor 42 = .ok (.lstore 6, 2) := by decide +kernel
theorem dX3_commonDivisor_44 : decode cX3_commonDivisor 44 = .ok (.iinc 8 1, 3) := by decide +kernel
theorem dX3_commonDivisor_47 : decode cX3_commonDivisor 47 = .ok (.goto (-32), 3) := by decide +kernel
theorem dX3_commonDivisor_50 : decode cX3_commonDivisor 50 = .ok (.lload 4, 2) := by decide +kernel
theorem dX3_commonDivisor_52 : decode cX3_commonDivisor 52 = .ok (.lreturn, 1) := by decide +kernel
