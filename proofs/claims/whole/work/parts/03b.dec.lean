theorem dX0_init_0 : decode cX0_init 0 = .ok (.aload_n 0, 1) := by decide +kernel
theorem dX0_init_1 : decode cX0_init 1 = .ok (.invokespecial 3, 3) := by decide +kernel
theorem dX0_init_4 : decode cX0_init 4 = .ok (.aload_n 0, 1) := by decide +kernel
theorem dX0_init_5 : decode cX0_init 5 = .ok (.bipush 9, 2) := by decide +kernel
theorem dX0_init_7 : decode cX0_init 7 = .ok (.bipush 9, 2) := by decide +kernel
theorem dX0_init_9 : decode cX0_init 9 = .ok (.multianewarray 9 2, 4) := by decide +kernel
theorem dX0_init_13 : decode cX0_init 13 = .ok (.putfield 11, 3) := by decide +kernel
theorem dX0_init_16 : decode cX0_init 16 = .ok (.aload_n 0, 1) := by decide +kernel
theorem dX0_init_17 : decode cX0_init 17 = .ok (.bipush 9, 2) := by decide +kernel
theorem dX0_init_19 : decode cX0_init 19 = .ok (.newarray .long, 2) := by decide +kernel
theorem dX0_init_21 : decode cX0_init 21 = .ok (.putfield 16, 3) := by decide +kernel
theorem dX0_init_24 : decode cX0_init 24 = .ok (.aload_n 0, 1) := by decide +kernel
theorem dX0_init_25 : decode cX0_init 25 = .ok (.bipush 81, 2) := by decide +kernel
theorem dX0_init_27 : decode cX0_init 27 = .ok (.bipush 9, 2) := by decide +kernel
theorem dX0_init_29 : decode cX0_init 29 = .ok (.multianewarray 9 2, 4) := by decide +kernel
theorem dX0_init_33 : decode cX0_init 33 = .ok (.putfield 20, 3) := by decide +kernel
theorem dX0_init_36 : decode cX0_init 36 = .ok (.aload_n 0, 1) := by decide +kernel
theorem dX0_init_37 : decode cX0_init 37 = .ok (.bipush 9, 2) := by decide +kernel
theorem dX0_init_39 : decode cX0_init 39 = .ok (.newarray .int, 2) := by decide +kernel
theorem dX0_init_41 : decode cX0_init 41 = .ok (.putfield 23, 3) := by decide +kernel
theorem dX0_init_44 : decode cX0_init 44 = .ok (.return_, 1) := by decide +kernel
theorem dX0_find_0 : decode cX0_find 0 = .ok (.aload_n 1, 1) := by decide +kernel
theorem dX0_find_1 : decode cX0_find 1 = .ok (.getfield 27, 3) := by decide +kernel
theorem dX0_find_4 : decode cX0_find 4 = .ok (.ldc2_w 32, 3) := by decide +kernel
theorem dX0_find_7 : decode cX0_find 7 = .ok (.invokestatic 34, 3) := by decide +kernel
theorem dX0_find_10 : decode cX0_find 10 = .ok (.iconst 0, 1) := by decide +kernel
theorem dX0_find_11 : decode cX0_find 11 = .ok (.istore_n 2, 1) := by decide +kernel
theorem dX0_find_12 : decode cX0_find 12 = .ok (.iload_n 2, 1) := by decide +kernel
theorem dX0_find_13 : decode cX0_find 13 = .ok (.aload_n 1, 1) := by decide +kernel
theorem dX0_find_14 : decode cX0_find 14 = .ok (.getfield 40, 3) := by decide +kernel
theorem dX0_find_17 : decode cX0_find 17 = .ok (.if_icmp .ge 35, 3) := by decide +kernel
theorem dX0_find_20 : decode cX0_find 20 = .ok (.aload_n 0, 1) := by decide +kernel
theorem dX0_find_21 : decode cX0_find 21 = .ok (.getfield 11, 3) := by decide +kernel
theorem dX0_find_24 : decode cX0_find 24 = .ok (.iconst 0, 1) := by decide +kernel
theorem dX0_find_25 : decode cX0_find 25 = .ok (.aaload, 1) := by decide +kernel
theorem dX0_find_26 : decode cX0_find 26 = .ok (.iload_n 2, 1) := by decide +kernel
theorem dX0_find_27 : decode cX0_find 27 = .ok (.aload_n 1, 1) := by decide +kernel
theorem dX0_find_28 : decode cX0_find 28 = .ok (.getfield 44, 3) := by decide +kernel
theorem dX0_find_31 : decode cX0_find 31 = .ok (.iload_n 2, 1) := by decide +kernel
theorem dX0_find_32 : decode cX0_find 32 = .ok (.iaload, 1) := by decide +kernel
theorem dX0_find_33 : decode cX0_find 33 = .ok (.i2l, 1) := by decide +kernel
theorem dX0_find_34 : decode cX0_find 34 = .ok (.lastore, 1) := by decide +kernel
theorem dX0_find_35 : decode cX0_find 35 = .ok (.aload_n 0, 1) := by decide +kernel
theorem dX0_find_36 : decode cX0_find 36 = .ok (.getfield 23, 3) := by decide +kernel
theorem dX0_find_39 : decode cX0_find 39 = .ok (.iload_n 2, 1) := by decide +kernel
theorem dX0_find_40 : decode cX0_find 40 = .ok (.aload_n 1, 1) := by decide +kernel
theorem dX0_find_41 : decode cX0_find 41 = .ok (.iload_n 2, 1) := by decide +kernel
theorem dX0_find_42 : decode cX0_find 42 = .ok (.invokestatic 47, 3) := by decide +kernel
theorem dX0_find_45 : decode cX0_find 45 = .ok (.iastore, 1) := by decide +kernel
theorem dX0_find_46 : decode cX0_find 46 = .ok (.iinc 2 1, 3) := by decide +kernel
theorem dX0_find_49 : decode cX0_find 49 = .ok (.goto (-37), 3) := by decide +kernel
theorem dX0_find_52 : decode cX0_find 52 = .ok (.aload_n 0, 1) := by decide +kernel
theorem dX0_find_53 : decode cX0_find 53 = .ok (.aload_n 1, 1) := by decide +kernel
theorem dX0_find_54 : decode cX0_find 54 = .ok (.iconst 0, 1) := by decide +kernel
theorem dX0_find_55 : decode cX0_find 55 = .ok (.iconst 0, 1) := by decide +kernel
theorem dX0_find_56 : decode cX0_find 56 = .ok (.invokevirtual 51, 3) := by decide +kernel
theorem dX0_find_59 : decode cX0_find 59 = .ok (.return_, 1) := by decide +kernel
theorem dX0_lesserLikes_0 : decode cX0_lesserLikes 0 = .ok (.iconst 0, 1) := by decide +kernel
theorem dX0_lesserLikes_1 : decode cX0_lesserLikes 1 = .ok (.istore_n 2, 1) := by decide +kernel
theorem dX0_lesserLikes_2 : decode cX0_lesserLikes 2 = .ok (.iconst 0, 1) := by decide +kernel
theorem dX0_lesserLikes_3 : decode cX0_lesserLikes 3 = .ok (.istore_n 3, 1) := by decide +kernel
theorem dX0_lesserLikes_4 : decode cX0_lesserLikes 4 = .ok (.iload_n 3, 1) := by decide +kernel
theorem dX0_lesserLikes_5 : decode cX0_lesserLikes 5 = .ok (.iload_n 1, 1) := by decide +kernel
theorem dX0_lesserLikes_6 : decode cX0_lesserLikes 6 = .ok (.if_icmp .ge 24, 3) := by decide +kernel
theorem dX0_lesserLikes_9 : decode cX0_lesserLikes 9 = .ok (.aload_n 0, 1) := by decide +kernel
theorem dX0_lesserLikes_10 : decode cX0_lesserLikes 10 = .ok (.iload_n 3, 1) := by decide +kernel
theorem dX0_lesserLikes_11 : decode cX0_lesserLikes 11 = .ok (.iload_n 1, 1) := by decide +kernel
theorem dX0_lesserLikes_12 : decode cX0_lesserLikes 12 = .ok (.invokevirtual 55, 3) := by decide +kernel
theorem dX0_lesserLikes_15 : decode cX0_lesserLikes 15 = .ok (.ifCond .eq 9, 3) := by decide +kernel
theorem dX0_lesserLikes_18 : decode cX0_lesserLikes 18 = .ok (.iload_n 2, 1) := by decide +kernel
theorem dX0_lesserLikes_19 : decode cX0_lesserLikes 19 = .ok (.iconst 1, 1) := by decide +kernel
theorem dX0_lesserLikes_20 : decode cX0_lesserLikes 20 = .ok (.iload_n 3, 1) := by decide +kernel
theorem dX0_lesserLikes_21 : decode cX0_lesserLikes 21 = .ok (.ishl, 1) := by decide +kernel
theorem dX0_lesserLikes_22 : decode cX0_lesserLikes 22 = .ok (.ior, 1) := by decide +kernel
theorem dX0_lesserLikes_23 : decode cX0_lesserLikes 23 = .ok (.istore_n 2, 1) := by decide +kernel
theorem dX0_lesserLikes_24 : decode cX0_lesserLikes 24 = .ok (.iinc 3 1, 3) := by decide +kernel
theorem dX0_lesserLikes_27 : decode cX0_lesserLikes 27 = .ok (.goto (-23), 3) := by decide +kernel
theorem dX0_lesserLikes_30 : decode cX0_lesserLikes 30 = .ok (.iload_n 2, 1) := by decide +kernel
theorem dX0_lesserLikes_31 : decode cX0_lesserLikes 31 = .ok (.ireturn, 1) := by decide +kernel
theorem dX0_write_0 : decode cX0_write 0 = .ok (.iload_n 2, 1) := by decide +kernel
theorem dX0_write_1 : decode cX0_write 1 = .ok (.aload_n 1, 1) := by decide +kernel
theorem dX0_write_2 : decode cX0_write 2 = .ok (.getfield 40, 3) := by decide +kernel
theorem dX0_write_5 : decode cX0_write 5 = .ok (.if_icmp .lt 4, 3) := by decide +kernel
theorem dX0_write_8 : decode cX0_write 8 = .ok (.return_, 1) := by decide +kernel
theorem dX0_write_9 : decode cX0_write 9 = .ok (.aload_n 0, 1) := by decide +kernel
theorem dX0_write_10 : decode cX0_write 10 = .ok (.aload_n 1, 1) := by decide +kernel
theorem dX0_write_11 : decode cX0_write 11 = .ok (.iload_n 2, 1) := by decide +kernel
theorem dX0_write_12 : decode cX0_write 12 = .ok (.iload_n 3, 1) := by decide +kernel
theorem dX0_write_13 : decode cX0_write 13 = .ok (.invokevirtual 59, 3) := by decide +kernel
theorem dX0_write_16 : decode cX0_write 16 = .ok (.istore 4, 2) := by decide +kernel
theorem dX0_write_18 : decode cX0_write 18 = .ok (.iconst 0, 1) := by decide +kernel
theorem dX0_write_19 : decode cX0_write 19 = .ok (.istore 5, 2) := by decide +kernel
theorem dX0_write_21 : decode cX0_write 21 = .ok (.iload 5, 2) := by decide +kernel
theorem dX0_write_23 : decode cX0_write 23 = .ok (.aload_n 1, 1) := by decide +kernel
theorem dX0_write_24 : decode cX0_write 24 = .ok (.getfield 40, 3) := by decide +kernel
theorem dX0_write_27 : decode cX0_write 27 = .ok (.if_icmp .ge 29, 3) := by decide +kernel
theorem dX0_write_30 : decode cX0_write 30 = .ok (.iload 4, 2) := by decide +kernel
theorem dX0_write_32 : decode cX0_write 32 = .ok (.iload 5, 2) := by decide +kernel
theorem dX0_write_34 : decode cX0_write 34 = .ok (.ishr, 1) := by decide +kernel
theorem dX0_write_35 : decode cX0_write 35 = .ok (.iconst 1, 1) := by decide +kernel
theorem dX0_write_36 : decode cX0_write 36 = .ok (.iand, 1) := by decide +kernel
theorem dX0_write_37 : decode cX0_write 37 = .ok (.iconst 1, 1) := by decide +kernel
theorem dX0_write_38 : decode cX0_write 38 = .ok (.if_icmp .ne 12, 3) := by decide +kernel
theorem dX0_write_41 : decode cX0_write 41 = .ok (.aload_n 0, 1) := by decide +kernel
theorem dX0_write_42 : decode cX0_write 42 = .ok (.aload_n 1, 1) := by decide +kernel
theorem dX0_write_43 : decode cX0_write 43 = .ok (.iload_n 2, 1) := by decide +kernel
theorem dX0_write_44 : decode cX0_write 44 = .ok (.iload_n 3, 1) := by decide +kernel
theorem dX0_write_45 : decode cX0_write 45 = .ok (.iload 5, 2) := by decide +kernel
theorem dX0_write_47 : decode cX0_write 47 = .ok (.invokevirtual 63, 3) := by decide +kernel
theorem dX0_write_50 : decode cX0_write 50 = .ok (.iinc 5 1, 3) := by decide +kernel
theorem dX0_write_53 : decode cX0_write 53 = .ok (.goto (-32), 3) := by decide +kernel
theorem dX0_write_56 : decode cX0_write 56 = .ok (.iconst 0, 1) := by decide +kernel
theorem dX0_write_57 : decode cX0_write 57 = .ok (.istore 5, 2) := by decide +kernel
theorem dX0_write_59 : decode cX0_write 59 = .ok (.iload 5, 2) := by decide +kernel
theorem dX0_write_61 : decode cX0_write 61 = .ok (.aload_n 1, 1) := by decide +kernel
theorem dX0_write_62 : decode cX0_write 62 = .ok (.getfield 40, 3) := by decide +kernel
theorem dX0_write_65 : decode cX0_write 65 = .ok (.if_icmp .ge 59, 3) := by decide +kernel
theorem dX0_write_68 : decode cX0_write 68 = .ok (.aload_n 0, 1) := by decide +kernel
theorem dX0_write_69 : decode cX0_write 69 = .ok (.aload_n 1, 1) := by decide +kernel
theorem dX0_write_70 : decode cX0_write 70 = .ok (.getfield 40, 3) := by decide +kernel
theorem dX0_write_73 : decode cX0_write 73 = .ok (.iload_n 2, 1) := by decide +kernel
theorem dX0_write_74 : decode cX0_write 74 = .ok (.iload 4, 2) := by decide +kernel
theorem dX0_write_76 : decode cX0_write 76 = .ok (.invokevirtual 67, 3) := by decide +kernel
theorem dX0_write_79 : decode cX0_write 79 = .ok (.istore 6, 2) := by decide +kernel
theorem dX0_write_81 : decode cX0_write 81 = .ok (.iload 6, 2) := by decide +kernel
theorem dX0_write_83 : decode cX0_write 83 = .ok (.ifCond .lt 14, 3) := by decide +kernel
theorem dX0_write_86 : decode cX0_write 86 = .ok (.aload_n 0, 1) := by decide +kernel
theorem dX0_write_87 : decode cX0_write 87 = .ok (.aload_n 1, 1) := by decide +kernel
theorem dX0_write_88 : decode cX0_write 88 = .ok (.iload_n 2, 1) := by decide +kernel
theorem dX0_write_89 : decode cX0_write 89 = .ok (.iload 6, 2) := by decide +kernel
theorem dX0_write_91 : decode cX0_write 91 = .ok (.invokevirtual 71, 3) := by decide +kernel
theorem dX0_write_94 : decode cX0_write 94 = .ok (.ifCond .ne 4, 3) := by decide +kernel
theorem dX0_write_97 : decode cX0_write 97 = .ok (.return_, 1) := by decide +kernel
theorem dX0_write_98 : decode cX0_write 98 = .ok (.iload 4, 2) := by decide +kernel
theorem dX0_write_100 : decode cX0_write 100 = .ok (.iconst 1, 1) := by decide +kernel
theorem dX0_write_101 : decode cX0_write 101 = .ok (.iload 6, 2) := by decide +kernel
theorem dX0_write_103 : decode cX0_write 103 = .ok (.ishl, 1) := by decide +kernel
theorem dX0_write_104 : decode cX0_write 104 = .ok (.iconst (-1), 1) := by decide +kernel
theorem dX0_write_105 : decode cX0_write 105 = .ok (.ixor, 1) := by decide +kernel
theorem dX0_write_106 : decode cX0_write 106 = .ok (.iand, 1) := by decide +kernel
theorem dX0_write_107 : decode cX0_write 107 = .ok (.istore 4, 2) := by decide +kernel
theorem dX0_write_109 : decode cX0_write 109 = .ok (.aload_n 0, 1) := by decide +kernel
theorem dX0_write_110 : decode cX0_write 110 = .ok (.aload_n 1, 1) := by decide +kernel
theorem dX0_write_111 : decode cX0_write 111 = .ok (.iload_n 2, 1) := by decide +kernel
theorem dX0_write_112 : decode cX0_write 112 = .ok (.iload_n 3, 1) := by decide +kernel
theorem dX0_write_113 : decode cX0_write 113 = .ok (.iload 6, 2) := by decide +kernel
theorem dX0_write_115 : decode cX0_write 115 = .ok (.invokevirtual 75, 3) := by decide +kernel
theorem dX0_write_118 : decode cX0_write 118 = .ok (.iinc 5 1, 3) := by decide +kernel
theorem dX0_write_121 : decode cX0_write 121 = .ok (.goto (-62), 3) := by decide +kernel
theorem dX0_write_124 : decode cX0_write 124 = .ok (.return_, 1) := by decide +kernel
theorem dX0_candidates_0 : decode cX0_candidates 0 = .ok (.ldc2_w 32, 3) := by decide +kernel
theorem dX0_candidates_3 : decode cX0_candidates 3 = .ok (.lstore 4, 2) := by decide +kernel
theorem dX0_candidates_5 : decode cX0_candidates 5 = .ok (.iconst 0, 1) := by decide +kernel
theorem dX0_candidates_6 : decode cX0_candidates 6 = .ok (.istore 6, 2) := by decide +kernel
theorem dX0_candidates_8 : decode cX0_candidates 8 = .ok (.iconst 0, 1) := by decide +kernel
theorem dX0_candidates_9 : decode cX0_candidates 9 = .ok (.istore 7, 2) := by decide +kernel
theorem dX0_candidates_11 : decode cX0_candidates 11 = .ok (.iload 7, 2) := by decide +kernel
theorem dX0_candidates_13 : decode cX0_candidates 13 = .ok (.aload_n 1, 1) := by decide +kernel
theorem dX0_candidates_14 : decode cX0_candidates 14 = .ok (.getfield 40, 3) := by decide +kernel
theorem dX0_candidates_17 : decode cX0_candidates 17 = .ok (.if_icmp .ge 85, 3) := by decide +kernel
theorem dX0_candidates_20 : decode cX0_candidates 20 = .ok (.iload_n 3, 1) := by decide +kernel
theorem dX0_candidates_21 : decode cX0_candidates 21 = .ok (.iload 7, 2) := by decide +kernel
theorem dX0_candidates_23 : decode cX0_candidates 23 = .ok (.ishr, 1) := by decide +kernel
theorem dX0_candidates_24 : decode cX0_candidates 24 = .ok (.iconst 1, 1) := by decide +kernel
theorem dX0_candidates_25 : decode cX0_candidates 25 = .ok (.iand, 1) := by decide +kernel
theorem dX0_candidates_26 : decode cX0_candidates 26 = .ok (.ifCond .ne 70, 3) := by decide +kernel
theorem dX0_candidates_29 : decode cX0_candidates 29 = .ok (.aload_n 0, 1) := by decide +kernel
theorem dX0_candidates_30 : decode cX0_candidates 30 = .ok (.getfield 23, 3) := by decide +kernel
theorem dX0_candidates_33 : decode cX0_candidates 33 = .ok (.iload 7, 2) := by decide +kernel
theorem dX0_candidates_35 : decode cX0_candidates 35 = .ok (.iaload, 1) := by decide +kernel
theorem dX0_candidates_36 : decode cX0_candidates 36 = .ok (.iload_n 3, 1) := by decide +kernel
theorem dX0_candidates_37 : decode cX0_candidates 37 = .ok (.iconst (-1), 1) := by decide +kernel
theorem dX0_candidates_38 : decode cX0_candidates 38 = .ok (.ixor, 1) := by decide +kernel
theorem dX0_candidates_39 : decode cX0_candidates 39 = .ok (.iand, 1) := by decide +kernel
theorem dX0_candidates_40 : decode cX0_candidates 40 = .ok (.ifCond .ne 56, 3) := by decide +kernel
theorem dX0_candidates_43 : decode cX0_candidates 43 = .ok (.aload_n 0, 1) := by decide +kernel
theorem dX0_candidates_44 : decode cX0_candidates 44 = .ok (.getfield 11, 3) := by decide +kernel
theorem dX0_candidates_47 : decode cX0_candidates 47 = .ok (.iload_n 2, 1) := by decide +kernel
theorem dX0_candidates_48 : decode cX0_candidates 48 = .ok (.aaload, 1) := by decide +kernel
theorem dX0_candidates_49 : decode cX0_candidates 49 = .ok (.iload 7, 2) := by decide +kernel
theorem dX0_candidates_51 : decode cX0_candidates 51 = .ok (.laload, 1) := by decide +kernel
theorem dX0_candidates_52 : decode cX0_candidates 52 = .ok (.lload 4, 2) := by decide +kernel
theorem dX0_candidates_54 : decode cX0_candidates 54 = .ok (.lcmp, 1) := by decide +kernel
theorem dX0_candidates_55 : decode cX0_candidates 55 = .ok (.ifCond .gt 41, 3) := by decide +kernel
theorem dX0_candidates_58 : decode cX0_candidates 58 = .ok (.aload_n 0, 1) := by decide +kernel
theorem dX0_candidates_59 : decode cX0_candidates 59 = .ok (.getfield 11, 3) := by decide +kernel
theorem dX0_candidates_62 : decode cX0_candidates 62 = .ok (.iload_n 2, 1) := by decide +kernel
theorem dX0_candidates_63 : decode cX0_candidates 63 = .ok (.aaload, 1) := by decide +kernel
theorem dX0_candidates_64 : decode cX0_candidates 64 = .ok (.iload 7, 2) := by decide +kernel
theorem dX0_candidates_66 : decode cX0_candidates 66 = .ok (.laload, 1) := by decide +kernel
theorem dX0_candidates_67 : decode cX0_candidates 67 = .ok (.lload 4, 2) := by decide +kernel
theorem dX0_candidates_69 : decode cX0_candidates 69 = .ok (.lcmp, 1) := by decide +kernel
theorem dX0_candidates_70 : decode cX0_candidates 70 = .ok (.ifCond .ge 17, 3) := by decide +kernel
theorem dX0_candidates_73 : decode cX0_candidates 73 = .ok (.iconst 0, 1) := by decide +kernel
theorem dX0_candidates_74 : decode cX0_candidates 74 = .ok (.istore 6, 2) := by decide +kernel
theorem dX0_candidates_76 : decode cX0_candidates 76 = .ok (.aload_n 0, 1) := by decide +kernel
theorem dX0_candidates_77 : decode cX0_candidates 77 = .ok (.getfield 11, 3) := by decide +kernel
theorem dX0_candidates_80 : decode cX0_candidates 80 = .ok (.iload_n 2, 1) := by decide +kernel
theorem dX0_candidates_81 : decode cX0_candidates 81 = .ok (.aaload, 1) := by decide +kernel
theorem dX0_candidates_82 : decode cX0_candidates 82 = .ok (.iload 7, 2) := by decide +kernel
theorem dX0_candidates_84 : decode cX0_candidates 84 = .ok (.laload, 1) := by decide +kernel
theorem dX0_candidates_85 : decode cX0_candidates 85 = .ok (.lstore 4, 2) := by decide +kernel
theorem dX0_candidates_87 : decode cX0_candidates 87 = .ok (.iload 6, 2) := by decide +kernel
theorem dX0_candidates_89 : decode cX0_candidates 89 = .ok (.iconst 1, 1) := by decide +kernel
theorem dX0_candidates_90 : decode cX0_candidates 90 = .ok (.iload 7, 2) := by decide +kernel
theorem dX0_candidates_92 : decode cX0_candidates 92 = .ok (.ishl, 1) := by decide +kernel
theorem dX0_candidates_93 : decode cX0_candidates 93 = .ok (.ior, 1) := by decide +kernel
theorem dX0_candidates_94 : decode cX0_candidates 94 = .ok (.istore 6, 2) := by decide +kernel
theorem dX0_candidates_96 : decode cX0_candidates 96 = .ok (.iinc 7 1, 3) := by decide +kernel
theorem dX0_candidates_99 : decode cX0_candidates 99 = .ok (.goto (-88), 3) := by decide +kernel
theorem dX0_candidates_102 : decode cX0_candidates 102 = .ok (.aload_n 0, 1) := by decide +kernel
theorem dX0_candidates_103 : decode cX0_candidates 103 = .ok (.getfield 16, 3) := by decide +kernel
theorem dX0_candidates_106 : decode cX0_candidates 106 = .ok (.iload_n 2, 1) := by decide +kernel
theorem dX0_candidates_107 : decode cX0_candidates 107 = .ok (.lload 4, 2) := by decide +kernel
theorem dX0_candidates_109 : decode cX0_candidates 109 = .ok (.lastore, 1) := by decide +kernel
theorem dX0_candidates_110 : decode cX0_candidates 110 = .ok (.iload 6, 2) := by decide +kernel
theorem dX0_candidates_112 : decode cX0_candidates 112 = .ok (.ireturn, 1) := by decide +kernel
theorem dX0_bound_0 : decode cX0_bound 0 = .ok (.aload_n 0, 1) := by decide +kernel
theorem dX0_bound_1 : decode cX0_bound 1 = .ok (.getfield 20, 3) := by decide +kernel
theorem dX0_bound_4 : decode cX0_bound 4 = .ok (.iload_n 2, 1) := by decide +kernel
theorem dX0_bound_5 : decode cX0_bound 5 = .ok (.bipush 9, 2) := by decide +kernel
theorem dX0_bound_7 : decode cX0_bound 7 = .ok (.imul, 1) := by decide +kernel
theorem dX0_bound_8 : decode cX0_bound 8 = .ok (.iload 4, 2) := by decide +kernel
theorem dX0_bound_10 : decode cX0_bound 10 = .ok (.iadd, 1) := by decide +kernel
theorem dX0_bound_11 : decode cX0_bound 11 = .ok (.aaload, 1) := by decide +kernel
theorem dX0_bound_12 : decode cX0_bound 12 = .ok (.astore 5, 2) := by decide +kernel
theorem dX0_bound_14 : decode cX0_bound 14 = .ok (.aload_n 0, 1) := by decide +kernel
theorem dX0_bound_15 : decode cX0_bound 15 = .ok (.getfield 16, 3) := by decide +kernel
theorem dX0_bound_18 : decode cX0_bound 18 = .ok (.iconst 0, 1) := by decide +kernel
theorem dX0_bound_19 : decode cX0_bound 19 = .ok (.aload 5, 2) := by decide +kernel
theorem dX0_bound_21 : decode cX0_bound 21 = .ok (.iconst 0, 1) := by decide +kernel
theorem dX0_bound_22 : decode cX0_bound 22 = .ok (.iload_n 2, 1) := by decide +kernel
theorem dX0_bound_23 : decode cX0_bound 23 = .ok (.iconst 1, 1) := by decide +kernel
theorem dX0_bound_24 : decode cX0_bound 24 = .ok (.iadd, 1) := by decide +kernel
theorem dX0_bound_25 : decode cX0_bound 25 = .ok (.invokestatic 78, 3) := by decide +kernel
theorem dX0_bound_28 : decode cX0_bound 28 = .ok (.iload_n 2, 1) := by decide +kernel
theorem dX0_bound_29 : decode cX0_bound 29 = .ok (.iconst 1, 1) := by decide +kernel
theorem dX0_bound_30 : decode cX0_bound 30 = .ok (.iadd, 1) := by decide +kernel
theorem dX0_bound_31 : decode cX0_bound 31 = .ok (.istore 6, 2) := by decide +kernel
theorem dX0_bound_33 : decode cX0_bound 33 = .ok (.iconst 0, 1) := by decide +kernel
theorem dX0_bound_34 : decode cX0_bound 34 = .ok (.istore 7, 2) := by decide +kernel
theorem dX0_bound_36 : decode cX0_bound 36 = .ok (.iload 7, 2) := by decide +kernel
theorem dX0_bound_38 : decode cX0_bound 38 = .ok (.aload_n 1, 1) := by decide +kernel
theorem dX0_bound_39 : decode cX0_bound 39 = .ok (.getfield 40, 3) := by decide +kernel
theorem dX0_bound_42 : decode cX0_bound 42 = .ok (.if_icmp .ge 90, 3) := by decide +kernel
theorem dX0_bound_45 : decode cX0_bound 45 = .ok (.iload 7, 2) := by decide +kernel
theorem dX0_bound_47 : decode cX0_bound 47 = .ok (.iload 4, 2) := by decide +kernel
theorem dX0_bound_49 : decode cX0_bound 49 = .ok (.if_icmp .eq 77, 3) := by decide +kernel
theorem dX0_bound_52 : decode cX0_bound 52 = .ok (.iload_n 3, 1) := by decide +kernel
theorem dX0_bound_53 : decode cX0_bound 53 = .ok (.iload 7, 2) := by decide +kernel
theorem dX0_bound_55 : decode cX0_bound 55 = .ok (.ishr, 1) := by decide +kernel
theorem dX0_bound_56 : decode cX0_bound 56 = .ok (.iconst 1, 1) := by decide +kernel
theorem dX0_bound_57 : decode cX0_bound 57 = .ok (.iand, 1) := by decide +kernel
theorem dX0_bound_58 : decode cX0_bound 58 = .ok (.ifCond .ne 68, 3) := by decide +kernel
theorem dX0_bound_61 : decode cX0_bound 61 = .ok (.aload_n 0, 1) := by decide +kernel
theorem dX0_bound_62 : decode cX0_bound 62 = .ok (.aload_n 1, 1) := by decide +kernel
theorem dX0_bound_63 : decode cX0_bound 63 = .ok (.iload_n 2, 1) := by decide +kernel
theorem dX0_bound_64 : decode cX0_bound 64 = .ok (.iload 7, 2) := by decide +kernel
theorem dX0_bound_66 : decode cX0_bound 66 = .ok (.iload 4, 2) := by decide +kernel
theorem dX0_bound_68 : decode cX0_bound 68 = .ok (.invokevirtual 84, 3) := by decide +kernel
theorem dX0_bound_71 : decode cX0_bound 71 = .ok (.lstore 8, 2) := by decide +kernel
theorem dX0_bound_73 : decode cX0_bound 73 = .ok (.iload 6, 2) := by decide +kernel
theorem dX0_bound_75 : decode cX0_bound 75 = .ok (.istore 10, 2) := by decide +kernel
theorem dX0_bound_77 : decode cX0_bound 77 = .ok (.iload 10, 2) := by decide +kernel
theorem dX0_bound_79 : decode cX0_bound 79 = .ok (.iload_n 2, 1) := by decide +kernel
theorem dX0_bound_80 : decode cX0_bound 80 = .ok (.iconst 1, 1) := by decide +kernel
theorem dX0_bound_81 : decode cX0_bound 81 = .ok (.iadd, 1) := by decide +kernel
theorem dX0_bound_82 : decode cX0_bound 82 = .ok (.if_icmp .le 34, 3) := by decide +kernel
theorem dX0_bound_85 : decode cX0_bound 85 = .ok (.aload 5, 2) := by decide +kernel
theorem dX0_bound_87 : decode cX0_bound 87 = .ok (.iload 10, 2) := by decide +kernel
theorem dX0_bound_89 : decode cX0_bound 89 = .ok (.iconst 1, 1) := by decide +kernel
theorem dX0_bound_90 : decode cX0_bound 90 = .ok (.isub, 1) := by decide +kernel
theorem dX0_bound_91 : decode cX0_bound 91 = .ok (.laload, 1) := by decide +kernel
theorem dX0_bound_92 : decode cX0_bound 92 = .ok (.lload 8, 2) := by decide +kernel
theorem dX0_bound_94 : decode cX0_bound 94 = .ok (.lcmp, 1) := by decide +kernel
theorem dX0_bound_95 : decode cX0_bound 95 = .ok (.ifCond .le 21, 3) := by decide +kernel
theorem dX0_bound_98 : decode cX0_bound 98 = .ok (.aload 5, 2) := by decide +kernel
theorem dX0_bound_100 : decode cX0_bound 100 = .ok (.iload 10, 2) := by decide +kernel
theorem dX0_bound_102 : decode cX0_bound 102 = .ok (.aload 5, 2) := by decide +kernel
theorem dX0_bound_104 : decode cX0_bound 104 = .ok (.iload 10, 2) := by decide +kernel
theorem dX0_bound_106 : decode cX0_bound 106 = .ok (.iconst 1, 1) := by decide +kernel
theorem dX0_bound_107 : decode cX0_bound 107 = .ok (.isub, 1) := by decide +kernel
theorem dX0_bound_108 : decode cX0_bound 108 = .ok (.laload, 1) := by decide +kernel
theorem dX0_bound_109 : decode cX0_bound 109 = .ok (.lastore, 1) := by decide +kernel
theorem dX0_bound_110 : decode cX0_bound 110 = .ok (.iinc 10 (-1), 3) := by decide +kernel
theorem dX0_bound_113 : decode cX0_bound 113 = .ok (.goto (-36), 3) := by decide +kernel
theorem dX0_bound_116 : decode cX0_bound 116 = .ok (.aload 5, 2) := by decide +kernel
theorem dX0_bound_118 : decode cX0_bound 118 = .ok (.iload 10, 2) := by decide +kernel
theorem dX0_bound_120 : decode cX0_bound 120 = .ok (.lload 8, 2) := by decide +kernel
theorem dX0_bound_122 : decode cX0_bound 122 = .ok (.lastore, 1) := by decide +kernel
theorem dX0_bound_123 : decode cX0_bound 123 = .ok (.iinc 6 1, 3) := by decide +kernel
theorem dX0_bound_126 : decode cX0_bound 126 = .ok (.iinc 7 1, 3) := by decide +kernel
theorem dX0_bound_129 : decode cX0_bound 129 = .ok (.goto (-93), 3) := by decide +kernel
theorem dX0_bound_132 : decode cX0_bound 132 = .ok (.iload_n 2, 1) := by decide +kernel
theorem dX0_bound_133 : decode cX0_bound 133 = .ok (.iconst 2, 1) := by decide +kernel
theorem dX0_bound_134 : decode cX0_bound 134 = .ok (.iadd, 1) := by decide +kernel
theorem dX0_bound_135 : decode cX0_bound 135 = .ok (.istore 7, 2) := by decide +kernel
theorem dX0_bound_137 : decode cX0_bound 137 = .ok (.iload 7, 2) := by decide +kernel
theorem dX0_bound_139 : decode cX0_bound 139 = .ok (.iload 6, 2) := by decide +kernel
theorem dX0_bound_141 : decode cX0_bound 141 = .ok (.if_icmp .ge 25, 3) := by decide +kernel
theorem dX0_bound_144 : decode cX0_bound 144 = .ok (.aload 5, 2) := by decide +kernel
theorem dX0_bound_146 : decode cX0_bound 146 = .ok (.iload 7, 2) := by decide +kernel
theorem dX0_bound_148 : decode cX0_bound 148 = .ok (.dup2, 1) := by decide +kernel
theorem dX0_bound_149 : decode cX0_bound 149 = .ok (.laload, 1) := by decide +kernel
theorem dX0_bound_150 : decode cX0_bound 150 = .ok (.iconst 4, 1) := by decide +kernel
theorem dX0_bound_151 : decode cX0_bound 151 = .ok (.iload 7, 2) := by decide +kernel
theorem dX0_bound_153 : decode cX0_bound 153 = .ok (.iload_n 2, 1) := by decide +kernel
theorem dX0_bound_154 : decode cX0_bound 154 = .ok (.isub, 1) := by decide +kernel
theorem dX0_bound_155 : decode cX0_bound 155 = .ok (.iconst 1, 1) := by decide +kernel
theorem dX0_bound_156 : decode cX0_bound 156 = .ok (.isub, 1) := by decide +kernel
theorem dX0_bound_157 : decode cX0_bound 157 = .ok (.imul, 1) := by decide +kernel
theorem dX0_bound_158 : decode cX0_bound 158 = .ok (.lshl, 1) := by decide +kernel
theorem dX0_bound_159 : decode cX0_bound 159 = .ok (.lastore, 1) := by decide +kernel
theorem dX0_bound_160 : decode cX0_bound 160 = .ok (.iinc 7 1, 3) := by decide +kernel
theorem dX0_bound_163 : decode cX0_bound 163 = .ok (.goto (-26), 3) := by decide +kernel
theorem dX0_bound_166 : decode cX0_bound 166 = .ok (.return_, 1) := by decide +kernel
theorem dX0_longerRow_0 : decode cX0_longerRow 0 = .ok (.aload_n 0, 1) := by decide +kernel
theorem dX0_longerRow_1 : decode cX0_longerRow 1 = .ok (.getfield 11, 3) := by decide +kernel
theorem dX0_longerRow_4 : decode cX0_longerRow 4 = .ok (.iload_n 2, 1) := by decide +kernel
theorem dX0_longerRow_5 : decode cX0_longerRow 5 = .ok (.aaload, 1) := by decide +kernel
theorem dX0_longerRow_6 : decode cX0_longerRow 6 = .ok (.iload_n 3, 1) := by decide +kernel
theorem dX0_longerRow_7 : decode cX0_longerRow 7 = .ok (.laload, 1) := by decide +kernel
theorem dX0_longerRow_8 : decode cX0_longerRow 8 = .ok (.iconst 4, 1) := by decide +kernel
theorem dX0_longerRow_9 : decode cX0_longerRow 9 = .ok (.lshl, 1) := by decide +kernel
theorem dX0_longerRow_10 : decode cX0_longerRow 10 = .ok (.aload_n 1, 1) := by decide +kernel
theorem dX0_longerRow_11 : decode cX0_longerRow 11 = .ok (.iload_n 3, 1) := by decide +kernel
theorem dX0_longerRow_12 : decode cX0_longerRow 12 = .ok (.iload 4, 2) := by decide +kernel
theorem dX0_longerRow_14 : decode cX0_longerRow 14 = .ok (.invokevirtual 88, 3) := by decide +kernel
theorem dX0_longerRow_17 : decode cX0_longerRow 17 = .ok (.i2l, 1) := by decide +kernel
theorem dX0_longerRow_18 : decode cX0_longerRow 18 = .ok (.lor, 1) := by decide +kernel
theorem dX0_longerRow_19 : decode cX0_longerRow 19 = .ok (.lreturn, 1) := by decide +kernel
theorem dX0_leastBounded_0 : decode cX0_leastBounded 0 = .ok (.iconst (-1), 1) := by decide +kernel
theorem dX0_leastBounded_1 : decode cX0_leastBounded 1 = .ok (.istore 4, 2) := by decide +kernel
theorem dX0_leastBounded_3 : decode cX0_leastBounded 3 = .ok (.iconst 0, 1) := by decide +kernel
theorem dX0_leastBounded_4 : decode cX0_leastBounded 4 = .ok (.istore 5, 2) := by decide +kernel
theorem dX0_leastBounded_6 : decode cX0_leastBounded 6 = .ok (.iload 5, 2) := by decide +kernel
theorem dX0_leastBounded_8 : decode cX0_leastBounded 8 = .ok (.iload_n 1, 1) := by decide +kernel
theorem dX0_leastBounded_9 : decode cX0_leastBounded 9 = .ok (.if_icmp .ge 41, 3) := by decide +kernel
theorem dX0_leastBounded_12 : decode cX0_leastBounded 12 = .ok (.iload_n 3, 1) := by decide +kernel
theorem dX0_leastBounded_13 : decode cX0_leastBounded 13 = .ok (.iload 5, 2) := by decide +kernel
theorem dX0_leastBounded_15 : decode cX0_leastBounded 15 = .ok (.ishr, 1) := by decide +kernel
theorem dX0_leastBounded_16 : decode cX0_leastBounded 16 = .ok (.iconst 1, 1) := by decide +kernel
theorem dX0_leastBounded_17 : decode cX0_leastBounded 17 = .ok (.iand, 1) := by decide +kernel
theorem dX0_leastBounded_18 : decode cX0_leastBounded 18 = .ok (.iconst 1, 1) := by decide +kernel
theorem dX0_leastBounded_19 : decode cX0_leastBounded 19 = .ok (.if_icmp .ne 25, 3) := by decide +kernel
theorem dX0_leastBounded_22 : decode cX0_leastBounded 22 = .ok (.iload 4, 2) := by decide +kernel
theorem dX0_leastBounded_24 : decode cX0_leastBounded 24 = .ok (.ifCond .lt 16, 3) := by decide +kernel
theorem dX0_leastBounded_27 : decode cX0_leastBounded 27 = .ok (.aload_n 0, 1) := by decide +kernel
theorem dX0_leastBounded_28 : decode cX0_leastBounded 28 = .ok (.iload_n 1, 1) := by decide +kernel
theorem dX0_leastBounded_29 : decode cX0_leastBounded 29 = .ok (.iload_n 2, 1) := by decide +kernel
theorem dX0_leastBounded_30 : decode cX0_leastBounded 30 = .ok (.iload 5, 2) := by decide +kernel
theorem dX0_leastBounded_32 : decode cX0_leastBounded 32 = .ok (.iload 4, 2) := by decide +kernel
theorem dX0_leastBounded_34 : decode cX0_leastBounded 34 = .ok (.invokevirtual 92, 3) := by decide +kernel
theorem dX0_leastBounded_37 : decode cX0_leastBounded 37 = .ok (.ifCond .eq 7, 3) := by decide +kernel
theorem dX0_leastBounded_40 : decode cX0_leastBounded 40 = .ok (.iload 5, 2) := by decide +kernel
theorem dX0_leastBounded_42 : decode cX0_leastBounded 42 = .ok (.istore 4, 2) := by decide +kernel
theorem dX0_leastBounded_44 : decode cX0_leastBounded 44 = .ok (.iinc 5 1, 3) := by decide +kernel
theorem dX0_leastBounded_47 : decode cX0_leastBounded 47 = .ok (.goto (-41), 3) := by decide +kernel
theorem dX0_leastBounded_50 : decode cX0_leastBounded 50 = .ok (.iload 4, 2) := by decide +kernel
theorem dX0_leastBounded_52 : decode cX0_leastBounded 52 = .ok (.ireturn, 1) := by decide +kernel
theorem dX0_promisesLess_0 : decode cX0_promisesLess 0 = .ok (.aload_n 0, 1) := by decide +kernel
theorem dX0_promisesLess_1 : decode cX0_promisesLess 1 = .ok (.getfield 20, 3) := by decide +kernel
theorem dX0_promisesLess_4 : decode cX0_promisesLess 4 = .ok (.iload_n 2, 1) := by decide +kernel
theorem dX0_promisesLess_5 : decode cX0_promisesLess 5 = .ok (.bipush 9, 2) := by decide +kernel
theorem dX0_promisesLess_7 : decode cX0_promisesLess 7 = .ok (.imul, 1) := by decide +kernel
theorem dX0_promisesLess_8 : decode cX0_promisesLess 8 = .ok (.iload_n 3, 1) := by decide +kernel
theorem dX0_promisesLess_9 : decode cX0_promisesLess 9 = .ok (.iadd, 1) := by decide +kernel
theorem dX0_promisesLess_10 : decode cX0_promisesLess 10 = .ok (.aaload, 1) := by decide +kernel
theorem dX0_promisesLess_11 : decode cX0_promisesLess 11 = .ok (.aload_n 1, 1) := by decide +kernel
theorem dX0_promisesLess_12 : decode cX0_promisesLess 12 = .ok (.getfield 27, 3) := by decide +kernel
theorem dX0_promisesLess_15 : decode cX0_promisesLess 15 = .ok (.aload_n 1, 1) := by decide +kernel
theorem dX0_promisesLess_16 : decode cX0_promisesLess 16 = .ok (.getfield 40, 3) := by decide +kernel
theorem dX0_promisesLess_19 : decode cX0_promisesLess 19 = .ok (.invokestatic 96, 3) := by decide +kernel
theorem dX0_promisesLess_22 : decode cX0_promisesLess 22 = .ok (.ifCond .ge 7, 3) := by decide +kernel
theorem dX0_promisesLess_25 : decode cX0_promisesLess 25 = .ok (.iconst 1, 1) := by decide +kernel
theorem dX0_promisesLess_26 : decode cX0_promisesLess 26 = .ok (.goto 4, 3) := by decide +kernel
theorem dX0_promisesLess_29 : decode cX0_promisesLess 29 = .ok (.iconst 0, 1) := by decide +kernel
theorem dX0_promisesLess_30 : decode cX0_promisesLess 30 = .ok (.ireturn, 1) := by decide +kernel
theorem dX0_isBoundLess_0 : decode cX0_isBoundLess 0 = .ok (.iload_n 2, 1) := by decide +kernel
theorem dX0_isBoundLess_1 : decode cX0_isBoundLess 1 = .ok (.bipush 9, 2) := by decide +kernel
theorem dX0_isBoundLess_3 : decode cX0_isBoundLess 3 = .ok (.imul, 1) := by decide +kernel
theorem dX0_isBoundLess_4 : decode cX0_isBoundLess 4 = .ok (.istore 5, 2) := by decide +kernel
theorem dX0_isBoundLess_6 : decode cX0_isBoundLess 6 = .ok (.aload_n 0, 1) := by decide +kernel
theorem dX0_isBoundLess_7 : decode cX0_isBoundLess 7 = .ok (.getfield 20, 3) := by decide +kernel
theorem dX0_isBoundLess_10 : decode cX0_isBoundLess 10 = .ok (.iload 5, 2) := by decide +kernel
theorem dX0_isBoundLess_12 : decode cX0_isBoundLess 12 = .ok (.iload_n 3, 1) := by decide +kernel
theorem dX0_isBoundLess_13 : decode cX0_isBoundLess 13 = .ok (.iadd, 1) := by decide +kernel
theorem dX0_isBoundLess_14 : decode cX0_isBoundLess 14 = .ok (.aaload, 1) := by decide +kernel
theorem dX0_isBoundLess_15 : decode cX0_isBoundLess 15 = .ok (.aload_n 0, 1) := by decide +kernel
theorem dX0_isBoundLess_16 : decode cX0_isBoundLess 16 = .ok (.getfield 20, 3) := by decide +kernel
theorem dX0_isBoundLess_19 : decode cX0_isBoundLess 19 = .ok (.iload 5, 2) := by decide +kernel
theorem dX0_isBoundLess_21 : decode cX0_isBoundLess 21 = .ok (.iload 4, 2) := by decide +kernel
theorem dX0_isBoundLess_23 : decode cX0_isBoundLess 23 = .ok (.iadd, 1) := by decide +kernel
theorem dX0_isBoundLess_24 : decode cX0_isBoundLess 24 = .ok (.aaload, 1) := by decide +kernel
theorem dX0_isBoundLess_25 : decode cX0_isBoundLess 25 = .ok (.iload_n 1, 1) := by decide +kernel
theorem dX0_isBoundLess_26 : decode cX0_isBoundLess 26 = .ok (.invokestatic 96, 3) := by decide +kernel
theorem dX0_isBoundLess_29 : decode cX0_isBoundLess 29 = .ok (.ifCond .ge 7, 3) := by decide +kernel
theorem dX0_isBoundLess_32 : decode cX0_isBoundLess 32 = .ok (.iconst 1, 1) := by decide +kernel
theorem dX0_isBoundLess_33 : decode cX0_isBoundLess 33 = .ok (.goto 4, 3) := by decide +kernel
theorem dX0_isBoundLess_36 : decode cX0_isBoundLess 36 = .ok (.iconst 0, 1) := by decide +kernel
theorem dX0_isBoundLess_37 : decode cX0_isBoundLess 37 = .ok (.ireturn, 1) := by decide +kernel
theorem dX0_writeVertex_0 : decode cX0_writeVertex 0 = .ok (.iload_n 2, 1) := by decide +kernel
theorem dX0_writeVertex_1 : decode cX0_writeVertex 1 = .ok (.aload_n 1, 1) := by decide +kernel
theorem dX0_writeVertex_2 : decode cX0_writeVertex 2 = .ok (.getfield 40, 3) := by decide +kernel
theorem dX0_writeVertex_5 : decode cX0_writeVertex 5 = .ok (.iconst 1, 1) := by decide +kernel
theorem dX0_writeVertex_6 : decode cX0_writeVertex 6 = .ok (.isub, 1) := by decide +kernel
theorem dX0_writeVertex_7 : decode cX0_writeVertex 7 = .ok (.if_icmp .ne 21, 3) := by decide +kernel
theorem dX0_writeVertex_10 : decode cX0_writeVertex 10 = .ok (.aload_n 0, 1) := by decide +kernel
theorem dX0_writeVertex_11 : decode cX0_writeVertex 11 = .ok (.getfield 16, 3) := by decide +kernel
theorem dX0_writeVertex_14 : decode cX0_writeVertex 14 = .ok (.iconst 0, 1) := by decide +kernel
theorem dX0_writeVertex_15 : decode cX0_writeVertex 15 = .ok (.aload_n 1, 1) := by decide +kernel
theorem dX0_writeVertex_16 : decode cX0_writeVertex 16 = .ok (.getfield 27, 3) := by decide +kernel
theorem dX0_writeVertex_19 : decode cX0_writeVertex 19 = .ok (.iconst 0, 1) := by decide +kernel
theorem dX0_writeVertex_20 : decode cX0_writeVertex 20 = .ok (.aload_n 1, 1) := by decide +kernel
theorem dX0_writeVertex_21 : decode cX0_writeVertex 21 = .ok (.getfield 40, 3) := by decide +kernel
theorem dX0_writeVertex_24 : decode cX0_writeVertex 24 = .ok (.invokestatic 78, 3) := by decide +kernel
theorem dX0_writeVertex_27 : decode cX0_writeVertex 27 = .ok (.return_, 1) := by decide +kernel
theorem dX0_writeVertex_28 : decode cX0_writeVertex 28 = .ok (.iload_n 3, 1) := by decide +kernel
theorem dX0_writeVertex_29 : decode cX0_writeVertex 29 = .ok (.iconst 1, 1) := by decide +kernel
theorem dX0_writeVertex_30 : decode cX0_writeVertex 30 = .ok (.iload 4, 2) := by decide +kernel
theorem dX0_writeVertex_32 : decode cX0_writeVertex 32 = .ok (.ishl, 1) := by decide +kernel
theorem dX0_writeVertex_33 : decode cX0_writeVertex 33 = .ok (.ior, 1) := by decide +kernel
theorem dX0_writeVertex_34 : decode cX0_writeVertex 34 = .ok (.istore 5, 2) := by decide +kernel
theorem dX0_writeVertex_36 : decode cX0_writeVertex 36 = .ok (.iconst 0, 1) := by decide +kernel
theorem dX0_writeVertex_37 : decode cX0_writeVertex 37 = .ok (.istore 6, 2) := by decide +kernel
theorem dX0_writeVertex_39 : decode cX0_writeVertex 39 = .ok (.iload 6, 2) := by decide +kernel
theorem dX0_writeVertex_41 : decode cX0_writeVertex 41 = .ok (.aload_n 1, 1) := by decide +kernel
theorem dX0_writeVertex_42 : decode cX0_writeVertex 42 = .ok (.getfield 40, 3) := by decide +kernel
theorem dX0_writeVertex_45 : decode cX0_writeVertex 45 = .ok (.if_icmp .ge 40, 3) := by decide +kernel
theorem dX0_writeVertex_48 : decode cX0_writeVertex 48 = .ok (.iload 5, 2) := by decide +kernel
theorem dX0_writeVertex_50 : decode cX0_writeVertex 50 = .ok (.iload 6, 2) := by decide +kernel
theorem dX0_writeVertex_52 : decode cX0_writeVertex 52 = .ok (.ishr, 1) := by decide +kernel
theorem dX0_writeVertex_53 : decode cX0_writeVertex 53 = .ok (.iconst 1, 1) := by decide +kernel
theorem dX0_writeVertex_54 : decode cX0_writeVertex 54 = .ok (.iand, 1) := by decide +kernel
theorem dX0_writeVertex_55 : decode cX0_writeVertex 55 = .ok (.ifCond .ne 24, 3) := by decide +kernel
theorem dX0_writeVertex_58 : decode cX0_writeVertex 58 = .ok (.aload_n 0, 1) := by decide +kernel
theorem dX0_writeVertex_59 : decode cX0_writeVertex 59 = .ok (.getfield 11, 3) := by decide +kernel
theorem dX0_writeVertex_62 : decode cX0_writeVertex 62 = .ok (.iload_n 2, 1) := by decide +kernel
theorem dX0_writeVertex_63 : decode cX0_writeVertex 63 = .ok (.iconst 1, 1) := by decide +kernel
theorem dX0_writeVertex_64 : decode cX0_writeVertex 64 = .ok (.iadd, 1) := by decide +kernel
theorem dX0_writeVertex_65 : decode cX0_writeVertex 65 = .ok (.aaload, 1) := by decide +kernel
theorem dX0_writeVertex_66 : decode cX0_writeVertex 66 = .ok (.iload 6, 2) := by decide +kernel
theorem dX0_writeVertex_68 : decode cX0_writeVertex 68 = .ok (.aload_n 0, 1) := by decide +kernel
theorem dX0_writeVertex_69 : decode cX0_writeVertex 69 = .ok (.aload_n 1, 1) := by decide +kernel
theorem dX0_writeVertex_70 : decode cX0_writeVertex 70 = .ok (.iload_n 2, 1) := by decide +kernel
theorem dX0_writeVertex_71 : decode cX0_writeVertex 71 = .ok (.iload 6, 2) := by decide +kernel
theorem dX0_writeVertex_73 : decode cX0_writeVertex 73 = .ok (.iload 4, 2) := by decide +kernel
theorem dX0_writeVertex_75 : decode cX0_writeVertex 75 = .ok (.invokevirtual 84, 3) := by decide +kernel
theorem dX0_writeVertex_78 : decode cX0_writeVertex 78 = .ok (.lastore, 1) := by decide +kernel
theorem dX0_writeVertex_79 : decode cX0_writeVertex 79 = .ok (.iinc 6 1, 3) := by decide +kernel
theorem dX0_writeVertex_82 : decode cX0_writeVertex 82 = .ok (.goto (-43), 3) := by decide +kernel
theorem dX0_writeVertex_85 : decode cX0_writeVertex 85 = .ok (.aload_n 0, 1) := by decide +kernel
theorem dX0_writeVertex_86 : decode cX0_writeVertex 86 = .ok (.aload_n 1, 1) := by decide +kernel
theorem dX0_writeVertex_87 : decode cX0_writeVertex 87 = .ok (.iload_n 2, 1) := by decide +kernel
theorem dX0_writeVertex_88 : decode cX0_writeVertex 88 = .ok (.iconst 1, 1) := by decide +kernel
theorem dX0_writeVertex_89 : decode cX0_writeVertex 89 = .ok (.iadd, 1) := by decide +kernel
theorem dX0_writeVertex_90 : decode cX0_writeVertex 90 = .ok (.iload 5, 2) := by decide +kernel
theorem dX0_writeVertex_92 : decode cX0_writeVertex 92 = .ok (.invokevirtual 51, 3) := by decide +kernel
theorem dX0_writeVertex_95 : decode cX0_writeVertex 95 = .ok (.return_, 1) := by decide +kernel
