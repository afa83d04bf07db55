theorem dX3_init_0 : decode cX3_init 0 = .ok (.aload_n 0, 1) := by decide +kernel
theorem dX3_init_1 : decode cX3_init 1 = .ok (.invokespecial 3, 3) := by decide +kernel
theorem dX3_init_4 : decode cX3_init 4 = .ok (.aload_n 0, 1) := by decide +kernel
theorem dX3_init_5 : decode cX3_init 5 = .ok (.bipush 18, 2) := by decide +kernel
theorem dX3_init_7 : decode cX3_init 7 = .ok (.newarray .int, 2) := by decide +kernel
theorem dX3_init_9 : decode cX3_init 9 = .ok (.putfield 11, 3) := by decide +kernel
theorem dX3_init_12 : decode cX3_init 12 = .ok (.aload_n 0, 1) := by decide +kernel
theorem dX3_init_13 : decode cX3_init 13 = .ok (.bipush 18, 2) := by decide +kernel
theorem dX3_init_15 : decode cX3_init 15 = .ok (.newarray .int, 2) := by decide +kernel
theorem dX3_init_17 : decode cX3_init 17 = .ok (.putfield 15, 3) := by decide +kernel
theorem dX3_init_20 : decode cX3_init 20 = .ok (.aload_n 0, 1) := by decide +kernel
theorem dX3_init_21 : decode cX3_init 21 = .ok (.bipush 18, 2) := by decide +kernel
theorem dX3_init_23 : decode cX3_init 23 = .ok (.newarray .int, 2) := by decide +kernel
theorem dX3_init_25 : decode cX3_init 25 = .ok (.putfield 18, 3) := by decide +kernel
theorem dX3_init_28 : decode cX3_init 28 = .ok (.aload_n 0, 1) := by decide +kernel
theorem dX3_init_29 : decode cX3_init 29 = .ok (.bipush 18, 2) := by decide +kernel
theorem dX3_init_31 : decode cX3_init 31 = .ok (.newarray .int, 2) := by decide +kernel
theorem dX3_init_33 : decode cX3_init 33 = .ok (.putfield 21, 3) := by decide +kernel
theorem dX3_init_36 : decode cX3_init 36 = .ok (.aload_n 0, 1) := by decide +kernel
theorem dX3_init_37 : decode cX3_init 37 = .ok (.bipush 18, 2) := by decide +kernel
theorem dX3_init_39 : decode cX3_init 39 = .ok (.bipush 9, 2) := by decide +kernel
theorem dX3_init_41 : decode cX3_init 41 = .ok (.multianewarray 24 2, 4) := by decide +kernel
theorem dX3_init_45 : decode cX3_init 45 = .ok (.putfield 26, 3) := by decide +kernel
theorem dX3_init_48 : decode cX3_init 48 = .ok (.return_, 1) := by decide +kernel
theorem dX3_paint_0 : decode cX3_paint 0 = .ok (.aload_n 1, 1) := by decide +kernel
theorem dX3_paint_1 : decode cX3_paint 1 = .ok (.iconst 0, 1) := by decide +kernel
theorem dX3_paint_2 : decode cX3_paint 2 = .ok (.aaload, 1) := by decide +kernel
theorem dX3_paint_3 : decode cX3_paint 3 = .ok (.getfield 29, 3) := by decide +kernel
theorem dX3_paint_6 : decode cX3_paint 6 = .ok (.istore_n 2, 1) := by decide +kernel
theorem dX3_paint_7 : decode cX3_paint 7 = .ok (.aload_n 0, 1) := by decide +kernel
theorem dX3_paint_8 : decode cX3_paint 8 = .ok (.aload_n 1, 1) := by decide +kernel
theorem dX3_paint_9 : decode cX3_paint 9 = .ok (.iload_n 2, 1) := by decide +kernel
theorem dX3_paint_10 : decode cX3_paint 10 = .ok (.invokevirtual 35, 3) := by decide +kernel
theorem dX3_paint_13 : decode cX3_paint 13 = .ok (.iconst 0, 1) := by decide +kernel
theorem dX3_paint_14 : decode cX3_paint 14 = .ok (.istore_n 3, 1) := by decide +kernel
theorem dX3_paint_15 : decode cX3_paint 15 = .ok (.iload_n 3, 1) := by decide +kernel
theorem dX3_paint_16 : decode cX3_paint 16 = .ok (.bipush 18, 2) := by decide +kernel
theorem dX3_paint_18 : decode cX3_paint 18 = .ok (.if_icmp .ge 43, 3) := by decide +kernel
theorem dX3_paint_21 : decode cX3_paint 21 = .ok (.aload_n 0, 1) := by decide +kernel
theorem dX3_paint_22 : decode cX3_paint 22 = .ok (.getfield 39, 3) := by decide +kernel
theorem dX3_paint_25 : decode cX3_paint 25 = .ok (.istore 4, 2) := by decide +kernel
theorem dX3_paint_27 : decode cX3_paint 27 = .ok (.aload_n 0, 1) := by decide +kernel
theorem dX3_paint_28 : decode cX3_paint 28 = .ok (.aload_n 1, 1) := by decide +kernel
theorem dX3_paint_29 : decode cX3_paint 29 = .ok (.iload_n 2, 1) := by decide +kernel
theorem dX3_paint_30 : decode cX3_paint 30 = .ok (.invokevirtual 42, 3) := by decide +kernel
theorem dX3_paint_33 : decode cX3_paint 33 = .ok (.aload_n 0, 1) := by decide +kernel
theorem dX3_paint_34 : decode cX3_paint 34 = .ok (.iconst 2, 1) := by decide +kernel
theorem dX3_paint_35 : decode cX3_paint 35 = .ok (.iload_n 2, 1) := by decide +kernel
theorem dX3_paint_36 : decode cX3_paint 36 = .ok (.imul, 1) := by decide +kernel
theorem dX3_paint_37 : decode cX3_paint 37 = .ok (.iload_n 2, 1) := by decide +kernel
theorem dX3_paint_38 : decode cX3_paint 38 = .ok (.iconst 1, 1) := by decide +kernel
theorem dX3_paint_39 : decode cX3_paint 39 = .ok (.isub, 1) := by decide +kernel
theorem dX3_paint_40 : decode cX3_paint 40 = .ok (.invokevirtual 45, 3) := by decide +kernel
theorem dX3_paint_43 : decode cX3_paint 43 = .ok (.aload_n 0, 1) := by decide +kernel
theorem dX3_paint_44 : decode cX3_paint 44 = .ok (.getfield 39, 3) := by decide +kernel
theorem dX3_paint_47 : decode cX3_paint 47 = .ok (.iload 4, 2) := by decide +kernel
theorem dX3_paint_49 : decode cX3_paint 49 = .ok (.if_icmp .ne 6, 3) := by decide +kernel
theorem dX3_paint_52 : decode cX3_paint 52 = .ok (.goto 9, 3) := by decide +kernel
theorem dX3_paint_55 : decode cX3_paint 55 = .ok (.iinc 3 1, 3) := by decide +kernel
theorem dX3_paint_58 : decode cX3_paint 58 = .ok (.goto (-43), 3) := by decide +kernel
theorem dX3_paint_61 : decode cX3_paint 61 = .ok (.iconst 0, 1) := by decide +kernel
theorem dX3_paint_62 : decode cX3_paint 62 = .ok (.istore_n 3, 1) := by decide +kernel
theorem dX3_paint_63 : decode cX3_paint 63 = .ok (.iload_n 3, 1) := by decide +kernel
theorem dX3_paint_64 : decode cX3_paint 64 = .ok (.iconst 2, 1) := by decide +kernel
theorem dX3_paint_65 : decode cX3_paint 65 = .ok (.if_icmp .ge 28, 3) := by decide +kernel
theorem dX3_paint_68 : decode cX3_paint 68 = .ok (.aload_n 0, 1) := by decide +kernel
theorem dX3_paint_69 : decode cX3_paint 69 = .ok (.getfield 11, 3) := by decide +kernel
theorem dX3_paint_72 : decode cX3_paint 72 = .ok (.iload_n 3, 1) := by decide +kernel
theorem dX3_paint_73 : decode cX3_paint 73 = .ok (.bipush 9, 2) := by decide +kernel
theorem dX3_paint_75 : decode cX3_paint 75 = .ok (.imul, 1) := by decide +kernel
theorem dX3_paint_76 : decode cX3_paint 76 = .ok (.aload_n 1, 1) := by decide +kernel
theorem dX3_paint_77 : decode cX3_paint 77 = .ok (.iload_n 3, 1) := by decide +kernel
theorem dX3_paint_78 : decode cX3_paint 78 = .ok (.aaload, 1) := by decide +kernel
theorem dX3_paint_79 : decode cX3_paint 79 = .ok (.getfield 49, 3) := by decide +kernel
theorem dX3_paint_82 : decode cX3_paint 82 = .ok (.iconst 0, 1) := by decide +kernel
theorem dX3_paint_83 : decode cX3_paint 83 = .ok (.iload_n 2, 1) := by decide +kernel
theorem dX3_paint_84 : decode cX3_paint 84 = .ok (.invokestatic 52, 3) := by decide +kernel
theorem dX3_paint_87 : decode cX3_paint 87 = .ok (.iinc 3 1, 3) := by decide +kernel
theorem dX3_paint_90 : decode cX3_paint 90 = .ok (.goto (-27), 3) := by decide +kernel
theorem dX3_paint_93 : decode cX3_paint 93 = .ok (.return_, 1) := by decide +kernel
theorem dX3_paintsAlike_0 : decode cX3_paintsAlike 0 = .ok (.aload_n 0, 1) := by decide +kernel
theorem dX3_paintsAlike_1 : decode cX3_paintsAlike 1 = .ok (.getfield 21, 3) := by decide +kernel
theorem dX3_paintsAlike_4 : decode cX3_paintsAlike 4 = .ok (.iconst 0, 1) := by decide +kernel
theorem dX3_paintsAlike_5 : decode cX3_paintsAlike 5 = .ok (.invokestatic 58, 3) := by decide +kernel
theorem dX3_paintsAlike_8 : decode cX3_paintsAlike 8 = .ok (.iconst 0, 1) := by decide +kernel
theorem dX3_paintsAlike_9 : decode cX3_paintsAlike 9 = .ok (.istore_n 2, 1) := by decide +kernel
theorem dX3_paintsAlike_10 : decode cX3_paintsAlike 10 = .ok (.iload_n 2, 1) := by decide +kernel
theorem dX3_paintsAlike_11 : decode cX3_paintsAlike 11 = .ok (.aload_n 1, 1) := by decide +kernel
theorem dX3_paintsAlike_12 : decode cX3_paintsAlike 12 = .ok (.iconst 0, 1) := by decide +kernel
theorem dX3_paintsAlike_13 : decode cX3_paintsAlike 13 = .ok (.aaload, 1) := by decide +kernel
theorem dX3_paintsAlike_14 : decode cX3_paintsAlike 14 = .ok (.getfield 29, 3) := by decide +kernel
theorem dX3_paintsAlike_17 : decode cX3_paintsAlike 17 = .ok (.if_icmp .ge 43, 3) := by decide +kernel
theorem dX3_paintsAlike_20 : decode cX3_paintsAlike 20 = .ok (.aload_n 0, 1) := by decide +kernel
theorem dX3_paintsAlike_21 : decode cX3_paintsAlike 21 = .ok (.getfield 21, 3) := by decide +kernel
theorem dX3_paintsAlike_24 : decode cX3_paintsAlike 24 = .ok (.aload_n 1, 1) := by decide +kernel
theorem dX3_paintsAlike_25 : decode cX3_paintsAlike 25 = .ok (.iconst 0, 1) := by decide +kernel
theorem dX3_paintsAlike_26 : decode cX3_paintsAlike 26 = .ok (.aaload, 1) := by decide +kernel
theorem dX3_paintsAlike_27 : decode cX3_paintsAlike 27 = .ok (.getfield 49, 3) := by decide +kernel
theorem dX3_paintsAlike_30 : decode cX3_paintsAlike 30 = .ok (.iload_n 2, 1) := by decide +kernel
theorem dX3_paintsAlike_31 : decode cX3_paintsAlike 31 = .ok (.iaload, 1) := by decide +kernel
theorem dX3_paintsAlike_32 : decode cX3_paintsAlike 32 = .ok (.dup2, 1) := by decide +kernel
theorem dX3_paintsAlike_33 : decode cX3_paintsAlike 33 = .ok (.iaload, 1) := by decide +kernel
theorem dX3_paintsAlike_34 : decode cX3_paintsAlike 34 = .ok (.iconst 1, 1) := by decide +kernel
theorem dX3_paintsAlike_35 : decode cX3_paintsAlike 35 = .ok (.iadd, 1) := by decide +kernel
theorem dX3_paintsAlike_36 : decode cX3_paintsAlike 36 = .ok (.iastore, 1) := by decide +kernel
theorem dX3_paintsAlike_37 : decode cX3_paintsAlike 37 = .ok (.aload_n 0, 1) := by decide +kernel
theorem dX3_paintsAlike_38 : decode cX3_paintsAlike 38 = .ok (.getfield 21, 3) := by decide +kernel
theorem dX3_paintsAlike_41 : decode cX3_paintsAlike 41 = .ok (.aload_n 1, 1) := by decide +kernel
theorem dX3_paintsAlike_42 : decode cX3_paintsAlike 42 = .ok (.iconst 1, 1) := by decide +kernel
theorem dX3_paintsAlike_43 : decode cX3_paintsAlike 43 = .ok (.aaload, 1) := by decide +kernel
theorem dX3_paintsAlike_44 : decode cX3_paintsAlike 44 = .ok (.getfield 49, 3) := by decide +kernel
theorem dX3_paintsAlike_47 : decode cX3_paintsAlike 47 = .ok (.iload_n 2, 1) := by decide +kernel
theorem dX3_paintsAlike_48 : decode cX3_paintsAlike 48 = .ok (.iaload, 1) := by decide +kernel
theorem dX3_paintsAlike_49 : decode cX3_paintsAlike 49 = .ok (.dup2, 1) := by decide +kernel
theorem dX3_paintsAlike_50 : decode cX3_paintsAlike 50 = .ok (.iaload, 1) := by decide +kernel
theorem dX3_paintsAlike_51 : decode cX3_paintsAlike 51 = .ok (.iconst 1, 1) := by decide +kernel
theorem dX3_paintsAlike_52 : decode cX3_paintsAlike 52 = .ok (.isub, 1) := by decide +kernel
theorem dX3_paintsAlike_53 : decode cX3_paintsAlike 53 = .ok (.iastore, 1) := by decide +kernel
theorem dX3_paintsAlike_54 : decode cX3_paintsAlike 54 = .ok (.iinc 2 1, 3) := by decide +kernel
theorem dX3_paintsAlike_57 : decode cX3_paintsAlike 57 = .ok (.goto (-47), 3) := by decide +kernel
theorem dX3_paintsAlike_60 : decode cX3_paintsAlike 60 = .ok (.iconst 0, 1) := by decide +kernel
theorem dX3_paintsAlike_61 : decode cX3_paintsAlike 61 = .ok (.istore_n 2, 1) := by decide +kernel
theorem dX3_paintsAlike_62 : decode cX3_paintsAlike 62 = .ok (.iload_n 2, 1) := by decide +kernel
theorem dX3_paintsAlike_63 : decode cX3_paintsAlike 63 = .ok (.aload_n 0, 1) := by decide +kernel
theorem dX3_paintsAlike_64 : decode cX3_paintsAlike 64 = .ok (.getfield 39, 3) := by decide +kernel
theorem dX3_paintsAlike_67 : decode cX3_paintsAlike 67 = .ok (.if_icmp .ge 20, 3) := by decide +kernel
theorem dX3_paintsAlike_70 : decode cX3_paintsAlike 70 = .ok (.aload_n 0, 1) := by decide +kernel
theorem dX3_paintsAlike_71 : decode cX3_paintsAlike 71 = .ok (.getfield 21, 3) := by decide +kernel
theorem dX3_paintsAlike_74 : decode cX3_paintsAlike 74 = .ok (.iload_n 2, 1) := by decide +kernel
theorem dX3_paintsAlike_75 : decode cX3_paintsAlike 75 = .ok (.iaload, 1) := by decide +kernel
theorem dX3_paintsAlike_76 : decode cX3_paintsAlike 76 = .ok (.ifCond .eq 5, 3) := by decide +kernel
theorem dX3_paintsAlike_79 : decode cX3_paintsAlike 79 = .ok (.iconst 0, 1) := by decide +kernel
theorem dX3_paintsAlike_80 : decode cX3_paintsAlike 80 = .ok (.ireturn, 1) := by decide +kernel
theorem dX3_paintsAlike_81 : decode cX3_paintsAlike 81 = .ok (.iinc 2 1, 3) := by decide +kernel
theorem dX3_paintsAlike_84 : decode cX3_paintsAlike 84 = .ok (.goto (-22), 3) := by decide +kernel
theorem dX3_paintsAlike_87 : decode cX3_paintsAlike 87 = .ok (.iconst 1, 1) := by decide +kernel
theorem dX3_paintsAlike_88 : decode cX3_paintsAlike 88 = .ok (.ireturn, 1) := by decide +kernel
theorem dX3_paintTints_0 : decode cX3_paintTints 0 = .ok (.iconst 0, 1) := by decide +kernel
theorem dX3_paintTints_1 : decode cX3_paintTints 1 = .ok (.istore_n 3, 1) := by decide +kernel
theorem dX3_paintTints_2 : decode cX3_paintTints 2 = .ok (.iload_n 3, 1) := by decide +kernel
theorem dX3_paintTints_3 : decode cX3_paintTints 3 = .ok (.iload_n 2, 1) := by decide +kernel
theorem dX3_paintTints_4 : decode cX3_paintTints 4 = .ok (.if_icmp .ge 59, 3) := by decide +kernel
theorem dX3_paintTints_7 : decode cX3_paintTints 7 = .ok (.aload_n 0, 1) := by decide +kernel
theorem dX3_paintTints_8 : decode cX3_paintTints 8 = .ok (.getfield 11, 3) := by decide +kernel
theorem dX3_paintTints_11 : decode cX3_paintTints 11 = .ok (.iload_n 3, 1) := by decide +kernel
theorem dX3_paintTints_12 : decode cX3_paintTints 12 = .ok (.aload_n 1, 1) := by decide +kernel
theorem dX3_paintTints_13 : decode cX3_paintTints 13 = .ok (.iconst 0, 1) := by decide +kernel
theorem dX3_paintTints_14 : decode cX3_paintTints 14 = .ok (.aaload, 1) := by decide +kernel
theorem dX3_paintTints_15 : decode cX3_paintTints 15 = .ok (.getfield 64, 3) := by decide +kernel
theorem dX3_paintTints_18 : decode cX3_paintTints 18 = .ok (.iload_n 3, 1) := by decide +kernel
theorem dX3_paintTints_19 : decode cX3_paintTints 19 = .ok (.iaload, 1) := by decide +kernel
theorem dX3_paintTints_20 : decode cX3_paintTints 20 = .ok (.iastore, 1) := by decide +kernel
theorem dX3_paintTints_21 : decode cX3_paintTints 21 = .ok (.aload_n 0, 1) := by decide +kernel
theorem dX3_paintTints_22 : decode cX3_paintTints 22 = .ok (.getfield 11, 3) := by decide +kernel
theorem dX3_paintTints_25 : decode cX3_paintTints 25 = .ok (.bipush 9, 2) := by decide +kernel
theorem dX3_paintTints_27 : decode cX3_paintTints 27 = .ok (.iload_n 3, 1) := by decide +kernel
theorem dX3_paintTints_28 : decode cX3_paintTints 28 = .ok (.iadd, 1) := by decide +kernel
theorem dX3_paintTints_29 : decode cX3_paintTints 29 = .ok (.aload_n 1, 1) := by decide +kernel
theorem dX3_paintTints_30 : decode cX3_paintTints 30 = .ok (.iconst 1, 1) := by decide +kernel
theorem dX3_paintTints_31 : decode cX3_paintTints 31 = .ok (.aaload, 1) := by decide +kernel
theorem dX3_paintTints_32 : decode cX3_paintTints 32 = .ok (.getfield 64, 3) := by decide +kernel
theorem dX3_paintTints_35 : decode cX3_paintTints 35 = .ok (.iload_n 3, 1) := by decide +kernel
theorem dX3_paintTints_36 : decode cX3_paintTints 36 = .ok (.iaload, 1) := by decide +kernel
theorem dX3_paintTints_37 : decode cX3_paintTints 37 = .ok (.iastore, 1) := by decide +kernel
theorem dX3_paintTints_38 : decode cX3_paintTints 38 = .ok (.aload_n 0, 1) := by decide +kernel
theorem dX3_paintTints_39 : decode cX3_paintTints 39 = .ok (.getfield 18, 3) := by decide +kernel
theorem dX3_paintTints_42 : decode cX3_paintTints 42 = .ok (.iload_n 3, 1) := by decide +kernel
theorem dX3_paintTints_43 : decode cX3_paintTints 43 = .ok (.iload_n 3, 1) := by decide +kernel
theorem dX3_paintTints_44 : decode cX3_paintTints 44 = .ok (.iastore, 1) := by decide +kernel
theorem dX3_paintTints_45 : decode cX3_paintTints 45 = .ok (.aload_n 0, 1) := by decide +kernel
theorem dX3_paintTints_46 : decode cX3_paintTints 46 = .ok (.getfield 18, 3) := by decide +kernel
theorem dX3_paintTints_49 : decode cX3_paintTints 49 = .ok (.iload_n 2, 1) := by decide +kernel
theorem dX3_paintTints_50 : decode cX3_paintTints 50 = .ok (.iload_n 3, 1) := by decide +kernel
theorem dX3_paintTints_51 : decode cX3_paintTints 51 = .ok (.iadd, 1) := by decide +kernel
theorem dX3_paintTints_52 : decode cX3_paintTints 52 = .ok (.bipush 9, 2) := by decide +kernel
theorem dX3_paintTints_54 : decode cX3_paintTints 54 = .ok (.iload_n 3, 1) := by decide +kernel
theorem dX3_paintTints_55 : decode cX3_paintTints 55 = .ok (.iadd, 1) := by decide +kernel
theorem dX3_paintTints_56 : decode cX3_paintTints 56 = .ok (.iastore, 1) := by decide +kernel
theorem dX3_paintTints_57 : decode cX3_paintTints 57 = .ok (.iinc 3 1, 3) := by decide +kernel
theorem dX3_paintTints_60 : decode cX3_paintTints 60 = .ok (.goto (-58), 3) := by decide +kernel
theorem dX3_paintTints_63 : decode cX3_paintTints 63 = .ok (.aload_n 0, 1) := by decide +kernel
theorem dX3_paintTints_64 : decode cX3_paintTints 64 = .ok (.iconst 2, 1) := by decide +kernel
theorem dX3_paintTints_65 : decode cX3_paintTints 65 = .ok (.iload_n 2, 1) := by decide +kernel
theorem dX3_paintTints_66 : decode cX3_paintTints 66 = .ok (.imul, 1) := by decide +kernel
theorem dX3_paintTints_67 : decode cX3_paintTints 67 = .ok (.iconst 0, 1) := by decide +kernel
theorem dX3_paintTints_68 : decode cX3_paintTints 68 = .ok (.invokevirtual 45, 3) := by decide +kernel
theorem dX3_paintTints_71 : decode cX3_paintTints 71 = .ok (.return_, 1) := by decide +kernel
theorem dX3_gatherKeys_0 : decode cX3_gatherKeys 0 = .ok (.iconst 0, 1) := by decide +kernel
theorem dX3_gatherKeys_1 : decode cX3_gatherKeys 1 = .ok (.istore_n 3, 1) := by decide +kernel
theorem dX3_gatherKeys_2 : decode cX3_gatherKeys 2 = .ok (.iload_n 3, 1) := by decide +kernel
theorem dX3_gatherKeys_3 : decode cX3_gatherKeys 3 = .ok (.iload_n 2, 1) := by decide +kernel
theorem dX3_gatherKeys_4 : decode cX3_gatherKeys 4 = .ok (.if_icmp .ge 28, 3) := by decide +kernel
theorem dX3_gatherKeys_7 : decode cX3_gatherKeys 7 = .ok (.aload_n 0, 1) := by decide +kernel
theorem dX3_gatherKeys_8 : decode cX3_gatherKeys 8 = .ok (.aload_n 1, 1) := by decide +kernel
theorem dX3_gatherKeys_9 : decode cX3_gatherKeys 9 = .ok (.iconst 0, 1) := by decide +kernel
theorem dX3_gatherKeys_10 : decode cX3_gatherKeys 10 = .ok (.aaload, 1) := by decide +kernel
theorem dX3_gatherKeys_11 : decode cX3_gatherKeys 11 = .ok (.iload_n 3, 1) := by decide +kernel
theorem dX3_gatherKeys_12 : decode cX3_gatherKeys 12 = .ok (.iconst 0, 1) := by decide +kernel
theorem dX3_gatherKeys_13 : decode cX3_gatherKeys 13 = .ok (.invokevirtual 67, 3) := by decide +kernel
theorem dX3_gatherKeys_16 : decode cX3_gatherKeys 16 = .ok (.aload_n 0, 1) := by decide +kernel
theorem dX3_gatherKeys_17 : decode cX3_gatherKeys 17 = .ok (.aload_n 1, 1) := by decide +kernel
theorem dX3_gatherKeys_18 : decode cX3_gatherKeys 18 = .ok (.iconst 1, 1) := by decide +kernel
theorem dX3_gatherKeys_19 : decode cX3_gatherKeys 19 = .ok (.aaload, 1) := by decide +kernel
theorem dX3_gatherKeys_20 : decode cX3_gatherKeys 20 = .ok (.iload_n 3, 1) := by decide +kernel
theorem dX3_gatherKeys_21 : decode cX3_gatherKeys 21 = .ok (.bipush 9, 2) := by decide +kernel
theorem dX3_gatherKeys_23 : decode cX3_gatherKeys 23 = .ok (.invokevirtual 67, 3) := by decide +kernel
theorem dX3_gatherKeys_26 : decode cX3_gatherKeys 26 = .ok (.iinc 3 1, 3) := by decide +kernel
theorem dX3_gatherKeys_29 : decode cX3_gatherKeys 29 = .ok (.goto (-27), 3) := by decide +kernel
theorem dX3_gatherKeys_32 : decode cX3_gatherKeys 32 = .ok (.return_, 1) := by decide +kernel
theorem dX3_gatherKeysOf_0 : decode cX3_gatherKeysOf 0 = .ok (.aload_n 0, 1) := by decide +kernel
theorem dX3_gatherKeysOf_1 : decode cX3_gatherKeysOf 1 = .ok (.getfield 26, 3) := by decide +kernel
theorem dX3_gatherKeysOf_4 : decode cX3_gatherKeysOf 4 = .ok (.iload_n 3, 1) := by decide +kernel
theorem dX3_gatherKeysOf_5 : decode cX3_gatherKeysOf 5 = .ok (.iload_n 2, 1) := by decide +kernel
theorem dX3_gatherKeysOf_6 : decode cX3_gatherKeysOf 6 = .ok (.iadd, 1) := by decide +kernel
theorem dX3_gatherKeysOf_7 : decode cX3_gatherKeysOf 7 = .ok (.aaload, 1) := by decide +kernel
theorem dX3_gatherKeysOf_8 : decode cX3_gatherKeysOf 8 = .ok (.astore 4, 2) := by decide +kernel
theorem dX3_gatherKeysOf_10 : decode cX3_gatherKeysOf 10 = .ok (.iconst 0, 1) := by decide +kernel
theorem dX3_gatherKeysOf_11 : decode cX3_gatherKeysOf 11 = .ok (.istore 5, 2) := by decide +kernel
theorem dX3_gatherKeysOf_13 : decode cX3_gatherKeysOf 13 = .ok (.iconst 0, 1) := by decide +kernel
theorem dX3_gatherKeysOf_14 : decode cX3_gatherKeysOf 14 = .ok (.istore 6, 2) := by decide +kernel
theorem dX3_gatherKeysOf_16 : decode cX3_gatherKeysOf 16 = .ok (.iload 6, 2) := by decide +kernel
theorem dX3_gatherKeysOf_18 : decode cX3_gatherKeysOf 18 = .ok (.aload_n 1, 1) := by decide +kernel
theorem dX3_gatherKeysOf_19 : decode cX3_gatherKeysOf 19 = .ok (.getfield 29, 3) := by decide +kernel
theorem dX3_gatherKeysOf_22 : decode cX3_gatherKeysOf 22 = .ok (.if_icmp .ge 86, 3) := by decide +kernel
theorem dX3_gatherKeysOf_25 : decode cX3_gatherKeysOf 25 = .ok (.iload 6, 2) := by decide +kernel
theorem dX3_gatherKeysOf_27 : decode cX3_gatherKeysOf 27 = .ok (.iload_n 2, 1) := by decide +kernel
theorem dX3_gatherKeysOf_28 : decode cX3_gatherKeysOf 28 = .ok (.if_icmp .eq 74, 3) := by decide +kernel
theorem dX3_gatherKeysOf_31 : decode cX3_gatherKeysOf 31 = .ok (.aload_n 1, 1) := by decide +kernel
theorem dX3_gatherKeysOf_32 : decode cX3_gatherKeysOf 32 = .ok (.iload_n 2, 1) := by decide +kernel
theorem dX3_gatherKeysOf_33 : decode cX3_gatherKeysOf 33 = .ok (.iload 6, 2) := by decide +kernel
theorem dX3_gatherKeysOf_35 : decode cX3_gatherKeysOf 35 = .ok (.invokevirtual 71, 3) := by decide +kernel
theorem dX3_gatherKeysOf_38 : decode cX3_gatherKeysOf 38 = .ok (.bipush 18, 2) := by decide +kernel
theorem dX3_gatherKeysOf_40 : decode cX3_gatherKeysOf 40 = .ok (.imul, 1) := by decide +kernel
theorem dX3_gatherKeysOf_41 : decode cX3_gatherKeysOf 41 = .ok (.aload_n 0, 1) := by decide +kernel
theorem dX3_gatherKeysOf_42 : decode cX3_gatherKeysOf 42 = .ok (.getfield 11, 3) := by decide +kernel
theorem dX3_gatherKeysOf_45 : decode cX3_gatherKeysOf 45 = .ok (.iload_n 3, 1) := by decide +kernel
theorem dX3_gatherKeysOf_46 : decode cX3_gatherKeysOf 46 = .ok (.iload 6, 2) := by decide +kernel
theorem dX3_gatherKeysOf_48 : decode cX3_gatherKeysOf 48 = .ok (.iadd, 1) := by decide +kernel
theorem dX3_gatherKeysOf_49 : decode cX3_gatherKeysOf 49 = .ok (.iaload, 1) := by decide +kernel
theorem dX3_gatherKeysOf_50 : decode cX3_gatherKeysOf 50 = .ok (.iadd, 1) := by decide +kernel
theorem dX3_gatherKeysOf_51 : decode cX3_gatherKeysOf 51 = .ok (.istore 7, 2) := by decide +kernel
theorem dX3_gatherKeysOf_53 : decode cX3_gatherKeysOf 53 = .ok (.iload 5, 2) := by decide +kernel
theorem dX3_gatherKeysOf_55 : decode cX3_gatherKeysOf 55 = .ok (.istore 8, 2) := by decide +kernel
theorem dX3_gatherKeysOf_57 : decode cX3_gatherKeysOf 57 = .ok (.iload 8, 2) := by decide +kernel
theorem dX3_gatherKeysOf_59 : decode cX3_gatherKeysOf 59 = .ok (.ifCond .le 33, 3) := by decide +kernel
theorem dX3_gatherKeysOf_62 : decode cX3_gatherKeysOf 62 = .ok (.aload 4, 2) := by decide +kernel
theorem dX3_gatherKeysOf_64 : decode cX3_gatherKeysOf 64 = .ok (.iload 8, 2) := by decide +kernel
theorem dX3_gatherKeysOf_66 : decode cX3_gatherKeysOf 66 = .ok (.iconst 1, 1) := by decide +kernel
theorem dX3_gatherKeysOf_67 : decode cX3_gatherKeysOf 67 = .ok (.isub, 1) := by decide +kernel
theorem dX3_gatherKeysOf_68 : decode cX3_gatherKeysOf 68 = .ok (.iaload, 1) := by decide +kernel
theorem dX3_gatherKeysOf_69 : decode cX3_gatherKeysOf 69 = .ok (.iload 7, 2) := by decide +kernel
theorem dX3_gatherKeysOf_71 : decode cX3_gatherKeysOf 71 = .ok (.if_icmp .le 21, 3) := by decide +kernel
theorem dX3_gatherKeysOf_74 : decode cX3_gatherKeysOf 74 = .ok (.aload 4, 2) := by decide +kernel
theorem dX3_gatherKeysOf_76 : decode cX3_gatherKeysOf 76 = .ok (.iload 8, 2) := by decide +kernel
theorem dX3_gatherKeysOf_78 : decode cX3_gatherKeysOf 78 = .ok (.aload 4, 2) := by decide +kernel
theorem dX3_gatherKeysOf_80 : decode cX3_gatherKeysOf 80 = .ok (.iload 8, 2) := by decide +kernel
theorem dX3_gatherKeysOf_82 : decode cX3_gatherKeysOf 82 = .ok (.iconst 1, 1) := by decide +kernel
theorem dX3_gatherKeysOf_83 : decode cX3_gatherKeysOf 83 = .ok (.isub, 1) := by decide +kernel
theorem dX3_gatherKeysOf_84 : decode cX3_gatherKeysOf 84 = .ok (.iaload, 1) := by decide +kernel
theorem dX3_gatherKeysOf_85 : decode cX3_gatherKeysOf 85 = .ok (.iastore, 1) := by decide +kernel
theorem dX3_gatherKeysOf_86 : decode cX3_gatherKeysOf 86 = .ok (.iinc 8 (-1), 3) := by decide +kernel
theorem dX3_gatherKeysOf_89 : decode cX3_gatherKeysOf 89 = .ok (.goto (-32), 3) := by decide +kernel
theorem dX3_gatherKeysOf_92 : decode cX3_gatherKeysOf 92 = .ok (.aload 4, 2) := by decide +kernel
theorem dX3_gatherKeysOf_94 : decode cX3_gatherKeysOf 94 = .ok (.iload 8, 2) := by decide +kernel
theorem dX3_gatherKeysOf_96 : decode cX3_gatherKeysOf 96 = .ok (.iload 7, 2) := by decide +kernel
theorem dX3_gatherKeysOf_98 : decode cX3_gatherKeysOf 98 = .ok (.iastore, 1) := by decide +kernel
theorem dX3_gatherKeysOf_99 : decode cX3_gatherKeysOf 99 = .ok (.iinc 5 1, 3) := by decide +kernel
theorem dX3_gatherKeysOf_102 : decode cX3_gatherKeysOf 102 = .ok (.iinc 6 1, 3) := by decide +kernel
theorem dX3_gatherKeysOf_105 : decode cX3_gatherKeysOf 105 = .ok (.goto (-89), 3) := by decide +kernel
theorem dX3_gatherKeysOf_108 : decode cX3_gatherKeysOf 108 = .ok (.return_, 1) := by decide +kernel
theorem dX3_renumber_0 : decode cX3_renumber 0 = .ok (.aload_n 0, 1) := by decide +kernel
theorem dX3_renumber_1 : decode cX3_renumber 1 = .ok (.iload_n 1, 1) := by decide +kernel
theorem dX3_renumber_2 : decode cX3_renumber 2 = .ok (.iload_n 2, 1) := by decide +kernel
theorem dX3_renumber_3 : decode cX3_renumber 3 = .ok (.invokevirtual 75, 3) := by decide +kernel
theorem dX3_renumber_6 : decode cX3_renumber 6 = .ok (.iconst 0, 1) := by decide +kernel
theorem dX3_renumber_7 : decode cX3_renumber 7 = .ok (.istore_n 3, 1) := by decide +kernel
theorem dX3_renumber_8 : decode cX3_renumber 8 = .ok (.iconst 0, 1) := by decide +kernel
theorem dX3_renumber_9 : decode cX3_renumber 9 = .ok (.istore 4, 2) := by decide +kernel
theorem dX3_renumber_11 : decode cX3_renumber 11 = .ok (.iload 4, 2) := by decide +kernel
theorem dX3_renumber_13 : decode cX3_renumber 13 = .ok (.iload_n 1, 1) := by decide +kernel
theorem dX3_renumber_14 : decode cX3_renumber 14 = .ok (.if_icmp .ge 54, 3) := by decide +kernel
theorem dX3_renumber_17 : decode cX3_renumber 17 = .ok (.iload 4, 2) := by decide +kernel
theorem dX3_renumber_19 : decode cX3_renumber 19 = .ok (.ifCond .le 30, 3) := by decide +kernel
theorem dX3_renumber_22 : decode cX3_renumber 22 = .ok (.aload_n 0, 1) := by decide +kernel
theorem dX3_renumber_23 : decode cX3_renumber 23 = .ok (.aload_n 0, 1) := by decide +kernel
theorem dX3_renumber_24 : decode cX3_renumber 24 = .ok (.getfield 18, 3) := by decide +kernel
theorem dX3_renumber_27 : decode cX3_renumber 27 = .ok (.iload 4, 2) := by decide +kernel
theorem dX3_renumber_29 : decode cX3_renumber 29 = .ok (.iconst 1, 1) := by decide +kernel
theorem dX3_renumber_30 : decode cX3_renumber 30 = .ok (.isub, 1) := by decide +kernel
theorem dX3_renumber_31 : decode cX3_renumber 31 = .ok (.iaload, 1) := by decide +kernel
theorem dX3_renumber_32 : decode cX3_renumber 32 = .ok (.aload_n 0, 1) := by decide +kernel
theorem dX3_renumber_33 : decode cX3_renumber 33 = .ok (.getfield 18, 3) := by decide +kernel
theorem dX3_renumber_36 : decode cX3_renumber 36 = .ok (.iload 4, 2) := by decide +kernel
theorem dX3_renumber_38 : decode cX3_renumber 38 = .ok (.iaload, 1) := by decide +kernel
theorem dX3_renumber_39 : decode cX3_renumber 39 = .ok (.iload_n 2, 1) := by decide +kernel
theorem dX3_renumber_40 : decode cX3_renumber 40 = .ok (.invokevirtual 78, 3) := by decide +kernel
theorem dX3_renumber_43 : decode cX3_renumber 43 = .ok (.ifCond .eq 6, 3) := by decide +kernel
theorem dX3_renumber_46 : decode cX3_renumber 46 = .ok (.iinc 3 1, 3) := by decide +kernel
theorem dX3_renumber_49 : decode cX3_renumber 49 = .ok (.aload_n 0, 1) := by decide +kernel
theorem dX3_renumber_50 : decode cX3_renumber 50 = .ok (.getfield 15, 3) := by decide +kernel
theorem dX3_renumber_53 : decode cX3_renumber 53 = .ok (.aload_n 0, 1) := by decide +kernel
theorem dX3_renumber_54 : decode cX3_renumber 54 = .ok (.getfield 18, 3) := by decide +kernel
theorem dX3_renumber_57 : decode cX3_renumber 57 = .ok (.iload 4, 2) := by decide +kernel
theorem dX3_renumber_59 : decode cX3_renumber 59 = .ok (.iaload, 1) := by decide +kernel
theorem dX3_renumber_60 : decode cX3_renumber 60 = .ok (.iload_n 3, 1) := by decide +kernel
theorem dX3_renumber_61 : decode cX3_renumber 61 = .ok (.iastore, 1) := by decide +kernel
theorem dX3_renumber_62 : decode cX3_renumber 62 = .ok (.iinc 4 1, 3) := by decide +kernel
theorem dX3_renumber_65 : decode cX3_renumber 65 = .ok (.goto (-54), 3) := by decide +kernel
theorem dX3_renumber_68 : decode cX3_renumber 68 = .ok (.aload_n 0, 1) := by decide +kernel
theorem dX3_renumber_69 : decode cX3_renumber 69 = .ok (.iload_n 3, 1) := by decide +kernel
theorem dX3_renumber_70 : decode cX3_renumber 70 = .ok (.iconst 1, 1) := by decide +kernel
theorem dX3_renumber_71 : decode cX3_renumber 71 = .ok (.iadd, 1) := by decide +kernel
theorem dX3_renumber_72 : decode cX3_renumber 72 = .ok (.putfield 39, 3) := by decide +kernel
theorem dX3_renumber_75 : decode cX3_renumber 75 = .ok (.aload_n 0, 1) := by decide +kernel
theorem dX3_renumber_76 : decode cX3_renumber 76 = .ok (.getfield 15, 3) := by decide +kernel
theorem dX3_renumber_79 : decode cX3_renumber 79 = .ok (.iconst 0, 1) := by decide +kernel
theorem dX3_renumber_80 : decode cX3_renumber 80 = .ok (.aload_n 0, 1) := by decide +kernel
theorem dX3_renumber_81 : decode cX3_renumber 81 = .ok (.getfield 11, 3) := by decide +kernel
theorem dX3_renumber_84 : decode cX3_renumber 84 = .ok (.iconst 0, 1) := by decide +kernel
theorem dX3_renumber_85 : decode cX3_renumber 85 = .ok (.bipush 18, 2) := by decide +kernel
theorem dX3_renumber_87 : decode cX3_renumber 87 = .ok (.invokestatic 52, 3) := by decide +kernel
theorem dX3_renumber_90 : decode cX3_renumber 90 = .ok (.return_, 1) := by decide +kernel
theorem dX3_sortSpots_0 : decode cX3_sortSpots 0 = .ok (.iconst 1, 1) := by decide +kernel
theorem dX3_sortSpots_1 : decode cX3_sortSpots 1 = .ok (.istore_n 3, 1) := by decide +kernel
theorem dX3_sortSpots_2 : decode cX3_sortSpots 2 = .ok (.iload_n 3, 1) := by decide +kernel
theorem dX3_sortSpots_3 : decode cX3_sortSpots 3 = .ok (.iload_n 1, 1) := by decide +kernel
theorem dX3_sortSpots_4 : decode cX3_sortSpots 4 = .ok (.if_icmp .ge 75, 3) := by decide +kernel
theorem dX3_sortSpots_7 : decode cX3_sortSpots 7 = .ok (.aload_n 0, 1) := by decide +kernel
theorem dX3_sortSpots_8 : decode cX3_sortSpots 8 = .ok (.getfield 18, 3) := by decide +kernel
theorem dX3_sortSpots_11 : decode cX3_sortSpots 11 = .ok (.iload_n 3, 1) := by decide +kernel
theorem dX3_sortSpots_12 : decode cX3_sortSpots 12 = .ok (.iaload, 1) := by decide +kernel
theorem dX3_sortSpots_13 : decode cX3_sortSpots 13 = .ok (.istore 4, 2) := by decide +kernel
theorem dX3_sortSpots_15 : decode cX3_sortSpots 15 = .ok (.iload_n 3, 1) := by decide +kernel
theorem dX3_sortSpots_16 : decode cX3_sortSpots 16 = .ok (.istore 5, 2) := by decide +kernel
theorem dX3_sortSpots_18 : decode cX3_sortSpots 18 = .ok (.iload 5, 2) := by decide +kernel
theorem dX3_sortSpots_20 : decode cX3_sortSpots 20 = .ok (.ifCond .le 44, 3) := by decide +kernel
theorem dX3_sortSpots_23 : decode cX3_sortSpots 23 = .ok (.aload_n 0, 1) := by decide +kernel
theorem dX3_sortSpots_24 : decode cX3_sortSpots 24 = .ok (.aload_n 0, 1) := by decide +kernel
theorem dX3_sortSpots_25 : decode cX3_sortSpots 25 = .ok (.getfield 18, 3) := by decide +kernel
theorem dX3_sortSpots_28 : decode cX3_sortSpots 28 = .ok (.iload 5, 2) := by decide +kernel
theorem dX3_sortSpots_30 : decode cX3_sortSpots 30 = .ok (.iconst 1, 1) := by decide +kernel
theorem dX3_sortSpots_31 : decode cX3_sortSpots 31 = .ok (.isub, 1) := by decide +kernel
theorem dX3_sortSpots_32 : decode cX3_sortSpots 32 = .ok (.iaload, 1) := by decide +kernel
theorem dX3_sortSpots_33 : decode cX3_sortSpots 33 = .ok (.iload 4, 2) := by decide +kernel
theorem dX3_sortSpots_35 : decode cX3_sortSpots 35 = .ok (.iload_n 2, 1) := by decide +kernel
theorem dX3_sortSpots_36 : decode cX3_sortSpots 36 = .ok (.invokevirtual 78, 3) := by decide +kernel
theorem dX3_sortSpots_39 : decode cX3_sortSpots 39 = .ok (.ifCond .le 25, 3) := by decide +kernel
theorem dX3_sortSpots_42 : decode cX3_sortSpots 42 = .ok (.aload_n 0, 1) := by decide +kernel
theorem dX3_sortSpots_43 : decode cX3_sortSpots 43 = .ok (.getfield 18, 3) := by decide +kernel
theorem dX3_sortSpots_46 : decode cX3_sortSpots 46 = .ok (.iload 5, 2) := by decide +kernel
theorem dX3_sortSpots_48 : decode cX3_sortSpots 48 = .ok (.aload_n 0, 1) := by decide +kernel
theorem dX3_sortSpots_49 : decode cX3_sortSpots 49 = .ok (.getfield 18, 3) := by decide +kernel
theorem dX3_sortSpots_52 : decode cX3_sortSpots 52 = .ok (.iload 5, 2) := by decide +kernel
theorem dX3_sortSpots_54 : decode cX3_sortSpots 54 = .ok (.iconst 1, 1) := by decide +kernel
theorem dX3_sortSpots_55 : decode cX3_sortSpots 55 = .ok (.isub, 1) := by decide +kernel
theorem dX3_sortSpots_56 : decode cX3_sortSpots 56 = .ok (.iaload, 1) := by decide +kernel
theorem dX3_sortSpots_57 : decode cX3_sortSpots 57 = .ok (.iastore, 1) := by decide +kernel
theorem dX3_sortSpots_58 : decode cX3_sortSpots 58 = .ok (.iinc 5 (-1), 3) := by decide +kernel
theorem dX3_sortSpots_61 : decode cX3_sortSpots 61 = .ok (.goto (-43), 3) := by decide +kernel
theorem dX3_sortSpots_64 : decode cX3_sortSpots 64 = .ok (.aload_n 0, 1) := by decide +kernel
theorem dX3_sortSpots_65 : decode cX3_sortSpots 65 = .ok (.getfield 18, 3) := by decide +kernel
theorem dX3_sortSpots_68 : decode cX3_sortSpots 68 = .ok (.iload 5, 2) := by decide +kernel
theorem dX3_sortSpots_70 : decode cX3_sortSpots 70 = .ok (.iload 4, 2) := by decide +kernel
theorem dX3_sortSpots_72 : decode cX3_sortSpots 72 = .ok (.iastore, 1) := by decide +kernel
theorem dX3_sortSpots_73 : decode cX3_sortSpots 73 = .ok (.iinc 3 1, 3) := by decide +kernel
theorem dX3_sortSpots_76 : decode cX3_sortSpots 76 = .ok (.goto (-74), 3) := by decide +kernel
theorem dX3_sortSpots_79 : decode cX3_sortSpots 79 = .ok (.return_, 1) := by decide +kernel
theorem dX3_difference_0 : decode cX3_difference 0 = .ok (.aload_n 0, 1) := by decide +kernel
theorem dX3_difference_1 : decode cX3_difference 1 = .ok (.getfield 11, 3) := by decide +kernel
theorem dX3_difference_4 : decode cX3_difference 4 = .ok (.iload_n 1, 1) := by decide +kernel
theorem dX3_difference_5 : decode cX3_difference 5 = .ok (.iaload, 1) := by decide +kernel
theorem dX3_difference_6 : decode cX3_difference 6 = .ok (.aload_n 0, 1) := by decide +kernel
theorem dX3_difference_7 : decode cX3_difference 7 = .ok (.getfield 11, 3) := by decide +kernel
theorem dX3_difference_10 : decode cX3_difference 10 = .ok (.iload_n 2, 1) := by decide +kernel
theorem dX3_difference_11 : decode cX3_difference 11 = .ok (.iaload, 1) := by decide +kernel
theorem dX3_difference_12 : decode cX3_difference 12 = .ok (.if_icmp .eq 17, 3) := by decide +kernel
theorem dX3_difference_15 : decode cX3_difference 15 = .ok (.aload_n 0, 1) := by decide +kernel
theorem dX3_difference_16 : decode cX3_difference 16 = .ok (.getfield 11, 3) := by decide +kernel
theorem dX3_difference_19 : decode cX3_difference 19 = .ok (.iload_n 1, 1) := by decide +kernel
theorem dX3_difference_20 : decode cX3_difference 20 = .ok (.iaload, 1) := by decide +kernel
theorem dX3_difference_21 : decode cX3_difference 21 = .ok (.aload_n 0, 1) := by decide +kernel
theorem dX3_difference_22 : decode cX3_difference 22 = .ok (.getfield 11, 3) := by decide +kernel
theorem dX3_difference_25 : decode cX3_difference 25 = .ok (.iload_n 2, 1) := by decide +kernel
theorem dX3_difference_26 : decode cX3_difference 26 = .ok (.iaload, 1) := by decide +kernel
theorem dX3_difference_27 : decode cX3_difference 27 = .ok (.isub, 1) := by decide +kernel
theorem dX3_difference_28 : decode cX3_difference 28 = .ok (.ireturn, 1) := by decide +kernel
theorem dX3_difference_29 : decode cX3_difference 29 = .ok (.iconst 0, 1) := by decide +kernel
theorem dX3_difference_30 : decode cX3_difference 30 = .ok (.istore 4, 2) := by decide +kernel
theorem dX3_difference_32 : decode cX3_difference 32 = .ok (.iload 4, 2) := by decide +kernel
theorem dX3_difference_34 : decode cX3_difference 34 = .ok (.iload_n 3, 1) := by decide +kernel
theorem dX3_difference_35 : decode cX3_difference 35 = .ok (.if_icmp .ge 50, 3) := by decide +kernel
theorem dX3_difference_38 : decode cX3_difference 38 = .ok (.aload_n 0, 1) := by decide +kernel
theorem dX3_difference_39 : decode cX3_difference 39 = .ok (.getfield 26, 3) := by decide +kernel
theorem dX3_difference_42 : decode cX3_difference 42 = .ok (.iload_n 1, 1) := by decide +kernel
theorem dX3_difference_43 : decode cX3_difference 43 = .ok (.aaload, 1) := by decide +kernel
theorem dX3_difference_44 : decode cX3_difference 44 = .ok (.iload 4, 2) := by decide +kernel
theorem dX3_difference_46 : decode cX3_difference 46 = .ok (.iaload, 1) := by decide +kernel
theorem dX3_difference_47 : decode cX3_difference 47 = .ok (.aload_n 0, 1) := by decide +kernel
theorem dX3_difference_48 : decode cX3_difference 48 = .ok (.getfield 26, 3) := by decide +kernel
theorem dX3_difference_51 : decode cX3_difference 51 = .ok (.iload_n 2, 1) := by decide +kernel
theorem dX3_difference_52 : decode cX3_difference 52 = .ok (.aaload, 1) := by decide +kernel
theorem dX3_difference_53 : decode cX3_difference 53 = .ok (.iload 4, 2) := by decide +kernel
theorem dX3_difference_55 : decode cX3_difference 55 = .ok (.iaload, 1) := by decide +kernel
theorem dX3_difference_56 : decode cX3_difference 56 = .ok (.if_icmp .eq 23, 3) := by decide +kernel
theorem dX3_difference_59 : decode cX3_difference 59 = .ok (.aload_n 0, 1) := by decide +kernel
theorem dX3_difference_60 : decode cX3_difference 60 = .ok (.getfield 26, 3) := by decide +kernel
theorem dX3_difference_63 : decode cX3_difference 63 = .ok (.iload_n 1, 1) := by decide +kernel
theorem dX3_difference_64 : decode cX3_difference 64 = .ok (.aaload, 1) := by decide +kernel
theorem dX3_difference_65 : decode cX3_difference 65 = .ok (.iload 4, 2) := by decide +kernel
theorem dX3_difference_67 : decode cX3_difference 67 = .ok (.iaload, 1) := by decide +kernel
theorem dX3_difference_68 : decode cX3_difference 68 = .ok (.aload_n 0, 1) := by decide +kernel
theorem dX3_difference_69 : decode cX3_difference 69 = .ok (.getfield 26, 3) := by decide +kernel
theorem dX3_difference_72 : decode cX3_difference 72 = .ok (.iload_n 2, 1) := by decide +kernel
theorem dX3_difference_73 : decode cX3_difference 73 = .ok (.aaload, 1) := by decide +kernel
theorem dX3_difference_74 : decode cX3_difference 74 = .ok (.iload 4, 2) := by decide +kernel
theorem dX3_difference_76 : decode cX3_difference 76 = .ok (.iaload, 1) := by decide +kernel
theorem dX3_difference_77 : decode cX3_difference 77 = .ok (.isub, 1) := by decide +kernel
theorem dX3_difference_78 : decode cX3_difference 78 = .ok (.ireturn, 1) := by decide +kernel
theorem dX3_difference_79 : decode cX3_difference 79 = .ok (.iinc 4 1, 3) := by decide +kernel
theorem dX3_difference_82 : decode cX3_difference 82 = .ok (.goto (-50), 3) := by decide +kernel
theorem dX3_difference_85 : decode cX3_difference 85 = .ok (.iconst 0, 1) := by decide +kernel
theorem dX3_difference_86 : decode cX3_difference 86 = .ok (.ireturn, 1) := by decide +kernel
theorem dX4_init_0 : decode cX4_init 0 = .ok (.aload_n 0, 1) := by decide +kernel
theorem dX4_init_1 : decode cX4_init 1 = .ok (.invokespecial 1, 3) := by decide +kernel
theorem dX4_init_4 : decode cX4_init 4 = .ok (.aload_n 0, 1) := by decide +kernel
theorem dX4_init_5 : decode cX4_init 5 = .ok (.new 7, 3) := by decide +kernel
theorem dX4_init_8 : decode cX4_init 8 = .ok (.dup, 1) := by decide +kernel
theorem dX4_init_9 : decode cX4_init 9 = .ok (.invokespecial 9, 3) := by decide +kernel
theorem dX4_init_12 : decode cX4_init 12 = .ok (.putfield 10, 3) := by decide +kernel
theorem dX4_init_15 : decode cX4_init 15 = .ok (.return_, 1) := by decide +kernel
theorem dX4_find_0 : decode cX4_find 0 = .ok (.iconst 0, 1) := by decide +kernel
theorem dX4_find_1 : decode cX4_find 1 = .ok (.istore_n 2, 1) := by decide +kernel
theorem dX4_find_2 : decode cX4_find 2 = .ok (.iload_n 2, 1) := by decide +kernel
theorem dX4_find_3 : decode cX4_find 3 = .ok (.aload_n 1, 1) := by decide +kernel
theorem dX4_find_4 : decode cX4_find 4 = .ok (.getfield 16, 3) := by decide +kernel
theorem dX4_find_7 : decode cX4_find 7 = .ok (.if_icmp .ge 16, 3) := by decide +kernel
theorem dX4_find_10 : decode cX4_find 10 = .ok (.aload_n 1, 1) := by decide +kernel
theorem dX4_find_11 : decode cX4_find 11 = .ok (.getfield 22, 3) := by decide +kernel
theorem dX4_find_14 : decode cX4_find 14 = .ok (.iload_n 2, 1) := by decide +kernel
theorem dX4_find_15 : decode cX4_find 15 = .ok (.iload_n 2, 1) := by decide +kernel
theorem dX4_find_16 : decode cX4_find 16 = .ok (.iastore, 1) := by decide +kernel
theorem dX4_find_17 : decode cX4_find 17 = .ok (.iinc 2 1, 3) := by decide +kernel
theorem dX4_find_20 : decode cX4_find 20 = .ok (.goto (-18), 3) := by decide +kernel
theorem dX4_find_23 : decode cX4_find 23 = .ok (.aload_n 1, 1) := by decide +kernel
theorem dX4_find_24 : decode cX4_find 24 = .ok (.iconst 1, 1) := by decide +kernel
theorem dX4_find_25 : decode cX4_find 25 = .ok (.putfield 26, 3) := by decide +kernel
theorem dX4_find_28 : decode cX4_find 28 = .ok (.iconst 0, 1) := by decide +kernel
theorem dX4_find_29 : decode cX4_find 29 = .ok (.istore_n 2, 1) := by decide +kernel
theorem dX4_find_30 : decode cX4_find 30 = .ok (.iload_n 2, 1) := by decide +kernel
theorem dX4_find_31 : decode cX4_find 31 = .ok (.aload_n 1, 1) := by decide +kernel
theorem dX4_find_32 : decode cX4_find 32 = .ok (.getfield 16, 3) := by decide +kernel
theorem dX4_find_35 : decode cX4_find 35 = .ok (.if_icmp .ge 63, 3) := by decide +kernel
theorem dX4_find_38 : decode cX4_find 38 = .ok (.iconst 1, 1) := by decide +kernel
theorem dX4_find_39 : decode cX4_find 39 = .ok (.istore_n 3, 1) := by decide +kernel
theorem dX4_find_40 : decode cX4_find 40 = .ok (.iload_n 2, 1) := by decide +kernel
theorem dX4_find_41 : decode cX4_find 41 = .ok (.iconst 1, 1) := by decide +kernel
theorem dX4_find_42 : decode cX4_find 42 = .ok (.iadd, 1) := by decide +kernel
theorem dX4_find_43 : decode cX4_find 43 = .ok (.istore 4, 2) := by decide +kernel
theorem dX4_find_45 : decode cX4_find 45 = .ok (.iload 4, 2) := by decide +kernel
theorem dX4_find_47 : decode cX4_find 47 = .ok (.aload_n 1, 1) := by decide +kernel
theorem dX4_find_48 : decode cX4_find 48 = .ok (.getfield 16, 3) := by decide +kernel
theorem dX4_find_51 : decode cX4_find 51 = .ok (.if_icmp .ge 31, 3) := by decide +kernel
theorem dX4_find_54 : decode cX4_find 54 = .ok (.aload_n 0, 1) := by decide +kernel
theorem dX4_find_55 : decode cX4_find 55 = .ok (.getfield 10, 3) := by decide +kernel
theorem dX4_find_58 : decode cX4_find 58 = .ok (.aload_n 1, 1) := by decide +kernel
theorem dX4_find_59 : decode cX4_find 59 = .ok (.iload_n 2, 1) := by decide +kernel
theorem dX4_find_60 : decode cX4_find 60 = .ok (.iload 4, 2) := by decide +kernel
theorem dX4_find_62 : decode cX4_find 62 = .ok (.invokevirtual 29, 3) := by decide +kernel
theorem dX4_find_65 : decode cX4_find 65 = .ok (.ifCond .eq 11, 3) := by decide +kernel
theorem dX4_find_68 : decode cX4_find 68 = .ok (.iinc 3 1, 3) := by decide +kernel
theorem dX4_find_71 : decode cX4_find 71 = .ok (.aload_n 0, 1) := by decide +kernel
theorem dX4_find_72 : decode cX4_find 72 = .ok (.aload_n 1, 1) := by decide +kernel
theorem dX4_find_73 : decode cX4_find 73 = .ok (.invokevirtual 33, 3) := by decide +kernel
theorem dX4_find_76 : decode cX4_find 76 = .ok (.iinc 4 1, 3) := by decide +kernel
theorem dX4_find_79 : decode cX4_find 79 = .ok (.goto (-34), 3) := by decide +kernel
theorem dX4_find_82 : decode cX4_find 82 = .ok (.aload_n 1, 1) := by decide +kernel
theorem dX4_find_83 : decode cX4_find 83 = .ok (.dup, 1) := by decide +kernel
theorem dX4_find_84 : decode cX4_find 84 = .ok (.getfield 26, 3) := by decide +kernel
theorem dX4_find_87 : decode cX4_find 87 = .ok (.iload_n 3, 1) := by decide +kernel
theorem dX4_find_88 : decode cX4_find 88 = .ok (.imul, 1) := by decide +kernel
theorem dX4_find_89 : decode cX4_find 89 = .ok (.putfield 26, 3) := by decide +kernel
theorem dX4_find_92 : decode cX4_find 92 = .ok (.iinc 2 1, 3) := by decide +kernel
theorem dX4_find_95 : decode cX4_find 95 = .ok (.goto (-65), 3) := by decide +kernel
theorem dX4_find_98 : decode cX4_find 98 = .ok (.return_, 1) := by decide +kernel
theorem dX4_joinOrbits_0 : decode cX4_joinOrbits 0 = .ok (.aload_n 1, 1) := by decide +kernel
theorem dX4_joinOrbits_1 : decode cX4_joinOrbits 1 = .ok (.getfield 22, 3) := by decide +kernel
theorem dX4_joinOrbits_4 : decode cX4_joinOrbits 4 = .ok (.astore_n 2, 1) := by decide +kernel
theorem dX4_joinOrbits_5 : decode cX4_joinOrbits 5 = .ok (.iconst 0, 1) := by decide +kernel
theorem dX4_joinOrbits_6 : decode cX4_joinOrbits 6 = .ok (.istore_n 3, 1) := by decide +kernel
theorem dX4_joinOrbits_7 : decode cX4_joinOrbits 7 = .ok (.iload_n 3, 1) := by decide +kernel
theorem dX4_joinOrbits_8 : decode cX4_joinOrbits 8 = .ok (.aload_n 1, 1) := by decide +kernel
theorem dX4_joinOrbits_9 : decode cX4_joinOrbits 9 = .ok (.getfield 16, 3) := by decide +kernel
theorem dX4_joinOrbits_12 : decode cX4_joinOrbits 12 = .ok (.if_icmp .ge 56, 3) := by decide +kernel
theorem dX4_joinOrbits_15 : decode cX4_joinOrbits 15 = .ok (.aload_n 2, 1) := by decide +kernel
theorem dX4_joinOrbits_16 : decode cX4_joinOrbits 16 = .ok (.iload_n 3, 1) := by decide +kernel
theorem dX4_joinOrbits_17 : decode cX4_joinOrbits 17 = .ok (.iaload, 1) := by decide +kernel
theorem dX4_joinOrbits_18 : decode cX4_joinOrbits 18 = .ok (.istore 4, 2) := by decide +kernel
theorem dX4_joinOrbits_20 : decode cX4_joinOrbits 20 = .ok (.aload_n 2, 1) := by decide +kernel
theorem dX4_joinOrbits_21 : decode cX4_joinOrbits 21 = .ok (.aload_n 0, 1) := by decide +kernel
theorem dX4_joinOrbits_22 : decode cX4_joinOrbits 22 = .ok (.getfield 10, 3) := by decide +kernel
theorem dX4_joinOrbits_25 : decode cX4_joinOrbits 25 = .ok (.getfield 37, 3) := by decide +kernel
theorem dX4_joinOrbits_28 : decode cX4_joinOrbits 28 = .ok (.iload_n 3, 1) := by decide +kernel
theorem dX4_joinOrbits_29 : decode cX4_joinOrbits 29 = .ok (.iaload, 1) := by decide +kernel
theorem dX4_joinOrbits_30 : decode cX4_joinOrbits 30 = .ok (.iaload, 1) := by decide +kernel
theorem dX4_joinOrbits_31 : decode cX4_joinOrbits 31 = .ok (.istore 5, 2) := by decide +kernel
theorem dX4_joinOrbits_33 : decode cX4_joinOrbits 33 = .ok (.iload 4, 2) := by decide +kernel
theorem dX4_joinOrbits_35 : decode cX4_joinOrbits 35 = .ok (.iload 5, 2) := by decide +kernel
theorem dX4_joinOrbits_37 : decode cX4_joinOrbits 37 = .ok (.if_icmp .eq 25, 3) := by decide +kernel
theorem dX4_joinOrbits_40 : decode cX4_joinOrbits 40 = .ok (.aload_n 2, 1) := by decide +kernel
theorem dX4_joinOrbits_41 : decode cX4_joinOrbits 41 = .ok (.aload_n 1, 1) := by decide +kernel
theorem dX4_joinOrbits_42 : decode cX4_joinOrbits 42 = .ok (.getfield 16, 3) := by decide +kernel
theorem dX4_joinOrbits_45 : decode cX4_joinOrbits 45 = .ok (.iload 4, 2) := by decide +kernel
theorem dX4_joinOrbits_47 : decode cX4_joinOrbits 47 = .ok (.iload 5, 2) := by decide +kernel
theorem dX4_joinOrbits_49 : decode cX4_joinOrbits 49 = .ok (.invokestatic 40, 3) := by decide +kernel
theorem dX4_joinOrbits_52 : decode cX4_joinOrbits 52 = .ok (.iload 4, 2) := by decide +kernel
theorem dX4_joinOrbits_54 : decode cX4_joinOrbits 54 = .ok (.iload 5, 2) := by decide +kernel
theorem dX4_joinOrbits_56 : decode cX4_joinOrbits 56 = .ok (.invokestatic 46, 3) := by decide +kernel
theorem dX4_joinOrbits_59 : decode cX4_joinOrbits 59 = .ok (.invokestatic 49, 3) := by decide +kernel
theorem dX4_joinOrbits_62 : decode cX4_joinOrbits 62 = .ok (.iinc 3 1, 3) := by decide +kernel
theorem dX4_joinOrbits_65 : decode cX4_joinOrbits 65 = .ok (.goto (-58), 3) := by decide +kernel
theorem dX4_joinOrbits_68 : decode cX4_joinOrbits 68 = .ok (.return_, 1) := by decide +kernel
theorem dX4_replace_0 : decode cX4_replace 0 = .ok (.iconst 0, 1) := by decide +kernel
theorem dX4_replace_1 : decode cX4_replace 1 = .ok (.istore 4, 2) := by decide +kernel
theorem dX4_replace_3 : decode cX4_replace 3 = .ok (.iload 4, 2) := by decide +kernel
theorem dX4_replace_5 : decode cX4_replace 5 = .ok (.iload_n 1, 1) := by decide +kernel
theorem dX4_replace_6 : decode cX4_replace 6 = .ok (.if_icmp .ge 22, 3) := by decide +kernel
theorem dX4_replace_9 : decode cX4_replace 9 = .ok (.aload_n 0, 1) := by decide +kernel
theorem dX4_replace_10 : decode cX4_replace 10 = .ok (.iload 4, 2) := by decide +kernel
theorem dX4_replace_12 : decode cX4_replace 12 = .ok (.iaload, 1) := by decide +kernel
theorem dX4_replace_13 : decode cX4_replace 13 = .ok (.iload_n 2, 1) := by decide +kernel
theorem dX4_replace_14 : decode cX4_replace 14 = .ok (.if_icmp .ne 8, 3) := by decide +kernel
theorem dX4_replace_17 : decode cX4_replace 17 = .ok (.aload_n 0, 1) := by decide +kernel
theorem dX4_replace_18 : decode cX4_replace 18 = .ok (.iload 4, 2) := by decide +kernel
theorem dX4_replace_20 : decode cX4_replace 20 = .ok (.iload_n 3, 1) := by decide +kernel
theorem dX4_replace_21 : decode cX4_replace 21 = .ok (.iastore, 1) := by decide +kernel
theorem dX4_replace_22 : decode cX4_replace 22 = .ok (.iinc 4 1, 3) := by decide +kernel
theorem dX4_replace_25 : decode cX4_replace 25 = .ok (.goto (-22), 3) := by decide +kernel
theorem dX4_replace_28 : decode cX4_replace 28 = .ok (.return_, 1) := by decide +kernel
