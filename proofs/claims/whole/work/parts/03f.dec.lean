theorem dX6_init_0 : decode cX6_init 0 = .ok (.aload_n 0, 1) := by decide +kernel
theorem dX6_init_1 : decode cX6_init 1 = .ok (.invokespecial 1, 3) := by decide +kernel
theorem dX6_init_4 : decode cX6_init 4 = .ok (.aload_n 0, 1) := by decide +kernel
theorem dX6_init_5 : decode cX6_init 5 = .ok (.iconst 1, 1) := by decide +kernel
theorem dX6_init_6 : decode cX6_init 6 = .ok (.putfield 7, 3) := by decide +kernel
theorem dX6_init_9 : decode cX6_init 9 = .ok (.aload_n 0, 1) := by decide +kernel
theorem dX6_init_10 : decode cX6_init 10 = .ok (.sipush 162, 3) := by decide +kernel
theorem dX6_init_13 : decode cX6_init 13 = .ok (.newarray .int, 2) := by decide +kernel
theorem dX6_init_15 : decode cX6_init 15 = .ok (.putfield 13, 3) := by decide +kernel
theorem dX6_init_18 : decode cX6_init 18 = .ok (.aload_n 0, 1) := by decide +kernel
theorem dX6_init_19 : decode cX6_init 19 = .ok (.bipush 18, 2) := by decide +kernel
theorem dX6_init_21 : decode cX6_init 21 = .ok (.newarray .int, 2) := by decide +kernel
theorem dX6_init_23 : decode cX6_init 23 = .ok (.putfield 17, 3) := by decide +kernel
theorem dX6_init_26 : decode cX6_init 26 = .ok (.aload_n 0, 1) := by decide +kernel
theorem dX6_init_27 : decode cX6_init 27 = .ok (.bipush 9, 2) := by decide +kernel
theorem dX6_init_29 : decode cX6_init 29 = .ok (.newarray .int, 2) := by decide +kernel
theorem dX6_init_31 : decode cX6_init 31 = .ok (.putfield 20, 3) := by decide +kernel
theorem dX6_init_34 : decode cX6_init 34 = .ok (.aload_n 0, 1) := by decide +kernel
theorem dX6_init_35 : decode cX6_init 35 = .ok (.bipush 9, 2) := by decide +kernel
theorem dX6_init_37 : decode cX6_init 37 = .ok (.newarray .int, 2) := by decide +kernel
theorem dX6_init_39 : decode cX6_init 39 = .ok (.putfield 23, 3) := by decide +kernel
theorem dX6_init_42 : decode cX6_init 42 = .ok (.aload_n 0, 1) := by decide +kernel
theorem dX6_init_43 : decode cX6_init 43 = .ok (.bipush 9, 2) := by decide +kernel
theorem dX6_init_45 : decode cX6_init 45 = .ok (.newarray .int, 2) := by decide +kernel
theorem dX6_init_47 : decode cX6_init 47 = .ok (.putfield 26, 3) := by decide +kernel
theorem dX6_init_50 : decode cX6_init 50 = .ok (.aload_n 0, 1) := by decide +kernel
theorem dX6_init_51 : decode cX6_init 51 = .ok (.iconst 2, 1) := by decide +kernel
theorem dX6_init_52 : decode cX6_init 52 = .ok (.newarray .boolean, 2) := by decide +kernel
theorem dX6_init_54 : decode cX6_init 54 = .ok (.putfield 29, 3) := by decide +kernel
theorem dX6_init_57 : decode cX6_init 57 = .ok (.aload_n 0, 1) := by decide +kernel
theorem dX6_init_58 : decode cX6_init 58 = .ok (.sipush 162, 3) := by decide +kernel
theorem dX6_init_61 : decode cX6_init 61 = .ok (.newarray .int, 2) := by decide +kernel
theorem dX6_init_63 : decode cX6_init 63 = .ok (.putfield 33, 3) := by decide +kernel
theorem dX6_init_66 : decode cX6_init 66 = .ok (.aload_n 0, 1) := by decide +kernel
theorem dX6_init_67 : decode cX6_init 67 = .ok (.bipush 81, 2) := by decide +kernel
theorem dX6_init_69 : decode cX6_init 69 = .ok (.newarray .int, 2) := by decide +kernel
theorem dX6_init_71 : decode cX6_init 71 = .ok (.putfield 36, 3) := by decide +kernel
theorem dX6_init_74 : decode cX6_init 74 = .ok (.aload_n 0, 1) := by decide +kernel
theorem dX6_init_75 : decode cX6_init 75 = .ok (.bipush 18, 2) := by decide +kernel
theorem dX6_init_77 : decode cX6_init 77 = .ok (.newarray .int, 2) := by decide +kernel
theorem dX6_init_79 : decode cX6_init 79 = .ok (.putfield 39, 3) := by decide +kernel
theorem dX6_init_82 : decode cX6_init 82 = .ok (.aload_n 0, 1) := by decide +kernel
theorem dX6_init_83 : decode cX6_init 83 = .ok (.bipush 18, 2) := by decide +kernel
theorem dX6_init_85 : decode cX6_init 85 = .ok (.newarray .int, 2) := by decide +kernel
theorem dX6_init_87 : decode cX6_init 87 = .ok (.putfield 42, 3) := by decide +kernel
theorem dX6_init_90 : decode cX6_init 90 = .ok (.return_, 1) := by decide +kernel
theorem dX6_isGraph_0 : decode cX6_isGraph 0 = .ok (.iload_n 0, 1) := by decide +kernel
theorem dX6_isGraph_1 : decode cX6_isGraph 1 = .ok (.ifCond .eq 8, 3) := by decide +kernel
theorem dX6_isGraph_4 : decode cX6_isGraph 4 = .ok (.iload_n 0, 1) := by decide +kernel
theorem dX6_isGraph_5 : decode cX6_isGraph 5 = .ok (.iconst 1, 1) := by decide +kernel
theorem dX6_isGraph_6 : decode cX6_isGraph 6 = .ok (.if_icmp .ne 7, 3) := by decide +kernel
theorem dX6_isGraph_9 : decode cX6_isGraph 9 = .ok (.iconst 1, 1) := by decide +kernel
theorem dX6_isGraph_10 : decode cX6_isGraph 10 = .ok (.goto 4, 3) := by decide +kernel
theorem dX6_isGraph_13 : decode cX6_isGraph 13 = .ok (.iconst 0, 1) := by decide +kernel
theorem dX6_isGraph_14 : decode cX6_isGraph 14 = .ok (.ireturn, 1) := by decide +kernel
theorem dX6_isVertex_0 : decode cX6_isVertex 0 = .ok (.iload_n 1, 1) := by decide +kernel
theorem dX6_isVertex_1 : decode cX6_isVertex 1 = .ok (.ifCond .lt 15, 3) := by decide +kernel
theorem dX6_isVertex_4 : decode cX6_isVertex 4 = .ok (.iload_n 1, 1) := by decide +kernel
theorem dX6_isVertex_5 : decode cX6_isVertex 5 = .ok (.aload_n 0, 1) := by decide +kernel
theorem dX6_isVertex_6 : decode cX6_isVertex 6 = .ok (.getfield 7, 3) := by decide +kernel
theorem dX6_isVertex_9 : decode cX6_isVertex 9 = .ok (.if_icmp .ge 7, 3) := by decide +kernel
theorem dX6_isVertex_12 : decode cX6_isVertex 12 = .ok (.iconst 1, 1) := by decide +kernel
theorem dX6_isVertex_13 : decode cX6_isVertex 13 = .ok (.goto 4, 3) := by decide +kernel
theorem dX6_isVertex_16 : decode cX6_isVertex 16 = .ok (.iconst 0, 1) := by decide +kernel
theorem dX6_isVertex_17 : decode cX6_isVertex 17 = .ok (.ireturn, 1) := by decide +kernel
theorem dX6_labelOf_0 : decode cX6_labelOf 0 = .ok (.aload_n 0, 1) := by decide +kernel
theorem dX6_labelOf_1 : decode cX6_labelOf 1 = .ok (.getfield 13, 3) := by decide +kernel
theorem dX6_labelOf_4 : decode cX6_labelOf 4 = .ok (.bipush 81, 2) := by decide +kernel
theorem dX6_labelOf_6 : decode cX6_labelOf 6 = .ok (.iload_n 1, 1) := by decide +kernel
theorem dX6_labelOf_7 : decode cX6_labelOf 7 = .ok (.imul, 1) := by decide +kernel
theorem dX6_labelOf_8 : decode cX6_labelOf 8 = .ok (.bipush 9, 2) := by decide +kernel
theorem dX6_labelOf_10 : decode cX6_labelOf 10 = .ok (.iload_n 2, 1) := by decide +kernel
theorem dX6_labelOf_11 : decode cX6_labelOf 11 = .ok (.imul, 1) := by decide +kernel
theorem dX6_labelOf_12 : decode cX6_labelOf 12 = .ok (.iadd, 1) := by decide +kernel
theorem dX6_labelOf_13 : decode cX6_labelOf 13 = .ok (.iload_n 3, 1) := by decide +kernel
theorem dX6_labelOf_14 : decode cX6_labelOf 14 = .ok (.iadd, 1) := by decide +kernel
theorem dX6_labelOf_15 : decode cX6_labelOf 15 = .ok (.iaload, 1) := by decide +kernel
theorem dX6_labelOf_16 : decode cX6_labelOf 16 = .ok (.ireturn, 1) := by decide +kernel
theorem dX6_changed_0 : decode cX6_changed 0 = .ok (.aload_n 0, 1) := by decide +kernel
theorem dX6_changed_1 : decode cX6_changed 1 = .ok (.iconst 0, 1) := by decide +kernel
theorem dX6_changed_2 : decode cX6_changed 2 = .ok (.putfield 45, 3) := by decide +kernel
theorem dX6_changed_5 : decode cX6_changed 5 = .ok (.aload_n 0, 1) := by decide +kernel
theorem dX6_changed_6 : decode cX6_changed 6 = .ok (.iconst 0, 1) := by decide +kernel
theorem dX6_changed_7 : decode cX6_changed 7 = .ok (.putfield 49, 3) := by decide +kernel
theorem dX6_changed_10 : decode cX6_changed 10 = .ok (.aload_n 0, 1) := by decide +kernel
theorem dX6_changed_11 : decode cX6_changed 11 = .ok (.getfield 29, 3) := by decide +kernel
theorem dX6_changed_14 : decode cX6_changed 14 = .ok (.iconst 0, 1) := by decide +kernel
theorem dX6_changed_15 : decode cX6_changed 15 = .ok (.iconst 0, 1) := by decide +kernel
theorem dX6_changed_16 : decode cX6_changed 16 = .ok (.bastore, 1) := by decide +kernel
theorem dX6_changed_17 : decode cX6_changed 17 = .ok (.aload_n 0, 1) := by decide +kernel
theorem dX6_changed_18 : decode cX6_changed 18 = .ok (.getfield 29, 3) := by decide +kernel
theorem dX6_changed_21 : decode cX6_changed 21 = .ok (.iconst 1, 1) := by decide +kernel
theorem dX6_changed_22 : decode cX6_changed 22 = .ok (.iconst 0, 1) := by decide +kernel
theorem dX6_changed_23 : decode cX6_changed 23 = .ok (.bastore, 1) := by decide +kernel
theorem dX6_changed_24 : decode cX6_changed 24 = .ok (.return_, 1) := by decide +kernel
theorem dX6_begin_0 : decode cX6_begin 0 = .ok (.iload_n 1, 1) := by decide +kernel
theorem dX6_begin_1 : decode cX6_begin 1 = .ok (.iconst 1, 1) := by decide +kernel
theorem dX6_begin_2 : decode cX6_begin 2 = .ok (.if_icmp .lt 9, 3) := by decide +kernel
theorem dX6_begin_5 : decode cX6_begin 5 = .ok (.iload_n 1, 1) := by decide +kernel
theorem dX6_begin_6 : decode cX6_begin 6 = .ok (.bipush 9, 2) := by decide +kernel
theorem dX6_begin_8 : decode cX6_begin 8 = .ok (.if_icmp .le 5, 3) := by decide +kernel
theorem dX6_begin_11 : decode cX6_begin 11 = .ok (.iconst (-1), 1) := by decide +kernel
theorem dX6_begin_12 : decode cX6_begin 12 = .ok (.ireturn, 1) := by decide +kernel
theorem dX6_begin_13 : decode cX6_begin 13 = .ok (.aload_n 0, 1) := by decide +kernel
theorem dX6_begin_14 : decode cX6_begin 14 = .ok (.iload_n 1, 1) := by decide +kernel
theorem dX6_begin_15 : decode cX6_begin 15 = .ok (.putfield 7, 3) := by decide +kernel
theorem dX6_begin_18 : decode cX6_begin 18 = .ok (.iconst 0, 1) := by decide +kernel
theorem dX6_begin_19 : decode cX6_begin 19 = .ok (.istore_n 2, 1) := by decide +kernel
theorem dX6_begin_20 : decode cX6_begin 20 = .ok (.iload_n 2, 1) := by decide +kernel
theorem dX6_begin_21 : decode cX6_begin 21 = .ok (.sipush 162, 3) := by decide +kernel
theorem dX6_begin_24 : decode cX6_begin 24 = .ok (.if_icmp .ge 16, 3) := by decide +kernel
theorem dX6_begin_27 : decode cX6_begin 27 = .ok (.aload_n 0, 1) := by decide +kernel
theorem dX6_begin_28 : decode cX6_begin 28 = .ok (.getfield 13, 3) := by decide +kernel
theorem dX6_begin_31 : decode cX6_begin 31 = .ok (.iload_n 2, 1) := by decide +kernel
theorem dX6_begin_32 : decode cX6_begin 32 = .ok (.iconst 0, 1) := by decide +kernel
theorem dX6_begin_33 : decode cX6_begin 33 = .ok (.iastore, 1) := by decide +kernel
theorem dX6_begin_34 : decode cX6_begin 34 = .ok (.iinc 2 1, 3) := by decide +kernel
theorem dX6_begin_37 : decode cX6_begin 37 = .ok (.goto (-17), 3) := by decide +kernel
theorem dX6_begin_40 : decode cX6_begin 40 = .ok (.iconst 0, 1) := by decide +kernel
theorem dX6_begin_41 : decode cX6_begin 41 = .ok (.istore_n 2, 1) := by decide +kernel
theorem dX6_begin_42 : decode cX6_begin 42 = .ok (.iload_n 2, 1) := by decide +kernel
theorem dX6_begin_43 : decode cX6_begin 43 = .ok (.bipush 18, 2) := by decide +kernel
theorem dX6_begin_45 : decode cX6_begin 45 = .ok (.if_icmp .ge 16, 3) := by decide +kernel
theorem dX6_begin_48 : decode cX6_begin 48 = .ok (.aload_n 0, 1) := by decide +kernel
theorem dX6_begin_49 : decode cX6_begin 49 = .ok (.getfield 17, 3) := by decide +kernel
theorem dX6_begin_52 : decode cX6_begin 52 = .ok (.iload_n 2, 1) := by decide +kernel
theorem dX6_begin_53 : decode cX6_begin 53 = .ok (.iconst 0, 1) := by decide +kernel
theorem dX6_begin_54 : decode cX6_begin 54 = .ok (.iastore, 1) := by decide +kernel
theorem dX6_begin_55 : decode cX6_begin 55 = .ok (.iinc 2 1, 3) := by decide +kernel
theorem dX6_begin_58 : decode cX6_begin 58 = .ok (.goto (-16), 3) := by decide +kernel
theorem dX6_begin_61 : decode cX6_begin 61 = .ok (.aload_n 0, 1) := by decide +kernel
theorem dX6_begin_62 : decode cX6_begin 62 = .ok (.invokevirtual 52, 3) := by decide +kernel
theorem dX6_begin_65 : decode cX6_begin 65 = .ok (.iconst 0, 1) := by decide +kernel
theorem dX6_begin_66 : decode cX6_begin 66 = .ok (.ireturn, 1) := by decide +kernel
theorem dX6_label_0 : decode cX6_label 0 = .ok (.iload_n 1, 1) := by decide +kernel
theorem dX6_label_1 : decode cX6_label 1 = .ok (.invokestatic 55, 3) := by decide +kernel
theorem dX6_label_4 : decode cX6_label 4 = .ok (.ifCond .eq 35, 3) := by decide +kernel
theorem dX6_label_7 : decode cX6_label 7 = .ok (.aload_n 0, 1) := by decide +kernel
theorem dX6_label_8 : decode cX6_label 8 = .ok (.iload_n 2, 1) := by decide +kernel
theorem dX6_label_9 : decode cX6_label 9 = .ok (.invokevirtual 59, 3) := by decide +kernel
theorem dX6_label_12 : decode cX6_label 12 = .ok (.ifCond .eq 27, 3) := by decide +kernel
theorem dX6_label_15 : decode cX6_label 15 = .ok (.aload_n 0, 1) := by decide +kernel
theorem dX6_label_16 : decode cX6_label 16 = .ok (.iload_n 3, 1) := by decide +kernel
theorem dX6_label_17 : decode cX6_label 17 = .ok (.invokevirtual 59, 3) := by decide +kernel
theorem dX6_label_20 : decode cX6_label 20 = .ok (.ifCond .eq 19, 3) := by decide +kernel
theorem dX6_label_23 : decode cX6_label 23 = .ok (.iload_n 2, 1) := by decide +kernel
theorem dX6_label_24 : decode cX6_label 24 = .ok (.iload_n 3, 1) := by decide +kernel
theorem dX6_label_25 : decode cX6_label 25 = .ok (.if_icmp .eq 14, 3) := by decide +kernel
theorem dX6_label_28 : decode cX6_label 28 = .ok (.iload 4, 2) := by decide +kernel
theorem dX6_label_30 : decode cX6_label 30 = .ok (.ifCond .lt 9, 3) := by decide +kernel
theorem dX6_label_33 : decode cX6_label 33 = .ok (.iload 4, 2) := by decide +kernel
theorem dX6_label_35 : decode cX6_label 35 = .ok (.iconst 3, 1) := by decide +kernel
theorem dX6_label_36 : decode cX6_label 36 = .ok (.if_icmp .le 5, 3) := by decide +kernel
theorem dX6_label_39 : decode cX6_label 39 = .ok (.iconst (-1), 1) := by decide +kernel
theorem dX6_label_40 : decode cX6_label 40 = .ok (.ireturn, 1) := by decide +kernel
theorem dX6_label_41 : decode cX6_label 41 = .ok (.aload_n 0, 1) := by decide +kernel
theorem dX6_label_42 : decode cX6_label 42 = .ok (.iload_n 1, 1) := by decide +kernel
theorem dX6_label_43 : decode cX6_label 43 = .ok (.iload_n 2, 1) := by decide +kernel
theorem dX6_label_44 : decode cX6_label 44 = .ok (.iload_n 3, 1) := by decide +kernel
theorem dX6_label_45 : decode cX6_label 45 = .ok (.invokevirtual 62, 3) := by decide +kernel
theorem dX6_label_48 : decode cX6_label 48 = .ok (.istore 5, 2) := by decide +kernel
theorem dX6_label_50 : decode cX6_label 50 = .ok (.aload_n 0, 1) := by decide +kernel
theorem dX6_label_51 : decode cX6_label 51 = .ok (.getfield 13, 3) := by decide +kernel
theorem dX6_label_54 : decode cX6_label 54 = .ok (.bipush 81, 2) := by decide +kernel
theorem dX6_label_56 : decode cX6_label 56 = .ok (.iload_n 1, 1) := by decide +kernel
theorem dX6_label_57 : decode cX6_label 57 = .ok (.imul, 1) := by decide +kernel
theorem dX6_label_58 : decode cX6_label 58 = .ok (.bipush 9, 2) := by decide +kernel
theorem dX6_label_60 : decode cX6_label 60 = .ok (.iload_n 2, 1) := by decide +kernel
theorem dX6_label_61 : decode cX6_label 61 = .ok (.imul, 1) := by decide +kernel
theorem dX6_label_62 : decode cX6_label 62 = .ok (.iadd, 1) := by decide +kernel
theorem dX6_label_63 : decode cX6_label 63 = .ok (.iload_n 3, 1) := by decide +kernel
theorem dX6_label_64 : decode cX6_label 64 = .ok (.iadd, 1) := by decide +kernel
theorem dX6_label_65 : decode cX6_label 65 = .ok (.iload 4, 2) := by decide +kernel
theorem dX6_label_67 : decode cX6_label 67 = .ok (.iastore, 1) := by decide +kernel
theorem dX6_label_68 : decode cX6_label 68 = .ok (.aload_n 0, 1) := by decide +kernel
theorem dX6_label_69 : decode cX6_label 69 = .ok (.invokevirtual 52, 3) := by decide +kernel
theorem dX6_label_72 : decode cX6_label 72 = .ok (.iload 5, 2) := by decide +kernel
theorem dX6_label_74 : decode cX6_label 74 = .ok (.ireturn, 1) := by decide +kernel
theorem dX6_tint_0 : decode cX6_tint 0 = .ok (.iload_n 1, 1) := by decide +kernel
theorem dX6_tint_1 : decode cX6_tint 1 = .ok (.invokestatic 55, 3) := by decide +kernel
theorem dX6_tint_4 : decode cX6_tint 4 = .ok (.ifCond .eq 20, 3) := by decide +kernel
theorem dX6_tint_7 : decode cX6_tint 7 = .ok (.aload_n 0, 1) := by decide +kernel
theorem dX6_tint_8 : decode cX6_tint 8 = .ok (.iload_n 2, 1) := by decide +kernel
theorem dX6_tint_9 : decode cX6_tint 9 = .ok (.invokevirtual 59, 3) := by decide +kernel
theorem dX6_tint_12 : decode cX6_tint 12 = .ok (.ifCond .eq 12, 3) := by decide +kernel
theorem dX6_tint_15 : decode cX6_tint 15 = .ok (.iload_n 3, 1) := by decide +kernel
theorem dX6_tint_16 : decode cX6_tint 16 = .ok (.ifCond .lt 8, 3) := by decide +kernel
theorem dX6_tint_19 : decode cX6_tint 19 = .ok (.iload_n 3, 1) := by decide +kernel
theorem dX6_tint_20 : decode cX6_tint 20 = .ok (.iconst 3, 1) := by decide +kernel
theorem dX6_tint_21 : decode cX6_tint 21 = .ok (.if_icmp .le 5, 3) := by decide +kernel
theorem dX6_tint_24 : decode cX6_tint 24 = .ok (.iconst (-1), 1) := by decide +kernel
theorem dX6_tint_25 : decode cX6_tint 25 = .ok (.ireturn, 1) := by decide +kernel
theorem dX6_tint_26 : decode cX6_tint 26 = .ok (.aload_n 0, 1) := by decide +kernel
theorem dX6_tint_27 : decode cX6_tint 27 = .ok (.getfield 17, 3) := by decide +kernel
theorem dX6_tint_30 : decode cX6_tint 30 = .ok (.bipush 9, 2) := by decide +kernel
theorem dX6_tint_32 : decode cX6_tint 32 = .ok (.iload_n 1, 1) := by decide +kernel
theorem dX6_tint_33 : decode cX6_tint 33 = .ok (.imul, 1) := by decide +kernel
theorem dX6_tint_34 : decode cX6_tint 34 = .ok (.iload_n 2, 1) := by decide +kernel
theorem dX6_tint_35 : decode cX6_tint 35 = .ok (.iadd, 1) := by decide +kernel
theorem dX6_tint_36 : decode cX6_tint 36 = .ok (.iaload, 1) := by decide +kernel
theorem dX6_tint_37 : decode cX6_tint 37 = .ok (.istore 4, 2) := by decide +kernel
theorem dX6_tint_39 : decode cX6_tint 39 = .ok (.aload_n 0, 1) := by decide +kernel
theorem dX6_tint_40 : decode cX6_tint 40 = .ok (.getfield 17, 3) := by decide +kernel
theorem dX6_tint_43 : decode cX6_tint 43 = .ok (.bipush 9, 2) := by decide +kernel
theorem dX6_tint_45 : decode cX6_tint 45 = .ok (.iload_n 1, 1) := by decide +kernel
theorem dX6_tint_46 : decode cX6_tint 46 = .ok (.imul, 1) := by decide +kernel
theorem dX6_tint_47 : decode cX6_tint 47 = .ok (.iload_n 2, 1) := by decide +kernel
theorem dX6_tint_48 : decode cX6_tint 48 = .ok (.iadd, 1) := by decide +kernel
theorem dX6_tint_49 : decode cX6_tint 49 = .ok (.iload_n 3, 1) := by decide +kernel
theorem dX6_tint_50 : decode cX6_tint 50 = .ok (.iastore, 1) := by decide +kernel
theorem dX6_tint_51 : decode cX6_tint 51 = .ok (.aload_n 0, 1) := by decide +kernel
theorem dX6_tint_52 : decode cX6_tint 52 = .ok (.invokevirtual 52, 3) := by decide +kernel
theorem dX6_tint_55 : decode cX6_tint 55 = .ok (.iload 4, 2) := by decide +kernel
theorem dX6_tint_57 : decode cX6_tint 57 = .ok (.ireturn, 1) := by decide +kernel
theorem dX6_other_0 : decode cX6_other 0 = .ok (.iload_n 0, 1) := by decide +kernel
theorem dX6_other_1 : decode cX6_other 1 = .ok (.iload_n 1, 1) := by decide +kernel
theorem dX6_other_2 : decode cX6_other 2 = .ok (.if_icmp .ne 7, 3) := by decide +kernel
theorem dX6_other_5 : decode cX6_other 5 = .ok (.iload_n 2, 1) := by decide +kernel
theorem dX6_other_6 : decode cX6_other 6 = .ok (.goto 13, 3) := by decide +kernel
theorem dX6_other_9 : decode cX6_other 9 = .ok (.iload_n 0, 1) := by decide +kernel
theorem dX6_other_10 : decode cX6_other 10 = .ok (.iload_n 2, 1) := by decide +kernel
theorem dX6_other_11 : decode cX6_other 11 = .ok (.if_icmp .ne 7, 3) := by decide +kernel
theorem dX6_other_14 : decode cX6_other 14 = .ok (.iload_n 1, 1) := by decide +kernel
theorem dX6_other_15 : decode cX6_other 15 = .ok (.goto 4, 3) := by decide +kernel
theorem dX6_other_18 : decode cX6_other 18 = .ok (.iload_n 0, 1) := by decide +kernel
theorem dX6_other_19 : decode cX6_other 19 = .ok (.ireturn, 1) := by decide +kernel
theorem dX6_exchange_0 : decode cX6_exchange 0 = .ok (.iload_n 1, 1) := by decide +kernel
theorem dX6_exchange_1 : decode cX6_exchange 1 = .ok (.invokestatic 55, 3) := by decide +kernel
theorem dX6_exchange_4 : decode cX6_exchange 4 = .ok (.ifCond .eq 19, 3) := by decide +kernel
theorem dX6_exchange_7 : decode cX6_exchange 7 = .ok (.aload_n 0, 1) := by decide +kernel
theorem dX6_exchange_8 : decode cX6_exchange 8 = .ok (.iload_n 2, 1) := by decide +kernel
theorem dX6_exchange_9 : decode cX6_exchange 9 = .ok (.invokevirtual 59, 3) := by decide +kernel
theorem dX6_exchange_12 : decode cX6_exchange 12 = .ok (.ifCond .eq 11, 3) := by decide +kernel
theorem dX6_exchange_15 : decode cX6_exchange 15 = .ok (.aload_n 0, 1) := by decide +kernel
theorem dX6_exchange_16 : decode cX6_exchange 16 = .ok (.iload_n 3, 1) := by decide +kernel
theorem dX6_exchange_17 : decode cX6_exchange 17 = .ok (.invokevirtual 59, 3) := by decide +kernel
theorem dX6_exchange_20 : decode cX6_exchange 20 = .ok (.ifCond .ne 5, 3) := by decide +kernel
theorem dX6_exchange_23 : decode cX6_exchange 23 = .ok (.iconst (-1), 1) := by decide +kernel
theorem dX6_exchange_24 : decode cX6_exchange 24 = .ok (.ireturn, 1) := by decide +kernel
theorem dX6_exchange_25 : decode cX6_exchange 25 = .ok (.iconst 0, 1) := by decide +kernel
theorem dX6_exchange_26 : decode cX6_exchange 26 = .ok (.istore 4, 2) := by decide +kernel
theorem dX6_exchange_28 : decode cX6_exchange 28 = .ok (.iload 4, 2) := by decide +kernel
theorem dX6_exchange_30 : decode cX6_exchange 30 = .ok (.aload_n 0, 1) := by decide +kernel
theorem dX6_exchange_31 : decode cX6_exchange 31 = .ok (.getfield 7, 3) := by decide +kernel
theorem dX6_exchange_34 : decode cX6_exchange 34 = .ok (.if_icmp .ge 59, 3) := by decide +kernel
theorem dX6_exchange_37 : decode cX6_exchange 37 = .ok (.iconst 0, 1) := by decide +kernel
theorem dX6_exchange_38 : decode cX6_exchange 38 = .ok (.istore 5, 2) := by decide +kernel
theorem dX6_exchange_40 : decode cX6_exchange 40 = .ok (.iload 5, 2) := by decide +kernel
theorem dX6_exchange_42 : decode cX6_exchange 42 = .ok (.aload_n 0, 1) := by decide +kernel
theorem dX6_exchange_43 : decode cX6_exchange 43 = .ok (.getfield 7, 3) := by decide +kernel
theorem dX6_exchange_46 : decode cX6_exchange 46 = .ok (.if_icmp .ge 41, 3) := by decide +kernel
theorem dX6_exchange_49 : decode cX6_exchange 49 = .ok (.aload_n 0, 1) := by decide +kernel
theorem dX6_exchange_50 : decode cX6_exchange 50 = .ok (.getfield 36, 3) := by decide +kernel
theorem dX6_exchange_53 : decode cX6_exchange 53 = .ok (.bipush 9, 2) := by decide +kernel
theorem dX6_exchange_55 : decode cX6_exchange 55 = .ok (.iload 4, 2) := by decide +kernel
theorem dX6_exchange_57 : decode cX6_exchange 57 = .ok (.imul, 1) := by decide +kernel
theorem dX6_exchange_58 : decode cX6_exchange 58 = .ok (.iload 5, 2) := by decide +kernel
theorem dX6_exchange_60 : decode cX6_exchange 60 = .ok (.iadd, 1) := by decide +kernel
theorem dX6_exchange_61 : decode cX6_exchange 61 = .ok (.aload_n 0, 1) := by decide +kernel
theorem dX6_exchange_62 : decode cX6_exchange 62 = .ok (.iload_n 1, 1) := by decide +kernel
theorem dX6_exchange_63 : decode cX6_exchange 63 = .ok (.iload 4, 2) := by decide +kernel
theorem dX6_exchange_65 : decode cX6_exchange 65 = .ok (.iload_n 2, 1) := by decide +kernel
theorem dX6_exchange_66 : decode cX6_exchange 66 = .ok (.iload_n 3, 1) := by decide +kernel
theorem dX6_exchange_67 : decode cX6_exchange 67 = .ok (.invokestatic 66, 3) := by decide +kernel
theorem dX6_exchange_70 : decode cX6_exchange 70 = .ok (.iload 5, 2) := by decide +kernel
theorem dX6_exchange_72 : decode cX6_exchange 72 = .ok (.iload_n 2, 1) := by decide +kernel
theorem dX6_exchange_73 : decode cX6_exchange 73 = .ok (.iload_n 3, 1) := by decide +kernel
theorem dX6_exchange_74 : decode cX6_exchange 74 = .ok (.invokestatic 66, 3) := by decide +kernel
theorem dX6_exchange_77 : decode cX6_exchange 77 = .ok (.invokevirtual 62, 3) := by decide +kernel
theorem dX6_exchange_80 : decode cX6_exchange 80 = .ok (.iastore, 1) := by decide +kernel
theorem dX6_exchange_81 : decode cX6_exchange 81 = .ok (.iinc 5 1, 3) := by decide +kernel
theorem dX6_exchange_84 : decode cX6_exchange 84 = .ok (.goto (-44), 3) := by decide +kernel
theorem dX6_exchange_87 : decode cX6_exchange 87 = .ok (.iinc 4 1, 3) := by decide +kernel
theorem dX6_exchange_90 : decode cX6_exchange 90 = .ok (.goto (-62), 3) := by decide +kernel
theorem dX6_exchange_93 : decode cX6_exchange 93 = .ok (.iconst 0, 1) := by decide +kernel
theorem dX6_exchange_94 : decode cX6_exchange 94 = .ok (.istore 4, 2) := by decide +kernel
theorem dX6_exchange_96 : decode cX6_exchange 96 = .ok (.iload 4, 2) := by decide +kernel
theorem dX6_exchange_98 : decode cX6_exchange 98 = .ok (.aload_n 0, 1) := by decide +kernel
theorem dX6_exchange_99 : decode cX6_exchange 99 = .ok (.getfield 7, 3) := by decide +kernel
theorem dX6_exchange_102 : decode cX6_exchange 102 = .ok (.if_icmp .ge 58, 3) := by decide +kernel
theorem dX6_exchange_105 : decode cX6_exchange 105 = .ok (.iconst 0, 1) := by decide +kernel
theorem dX6_exchange_106 : decode cX6_exchange 106 = .ok (.istore 5, 2) := by decide +kernel
theorem dX6_exchange_108 : decode cX6_exchange 108 = .ok (.iload 5, 2) := by decide +kernel
theorem dX6_exchange_110 : decode cX6_exchange 110 = .ok (.aload_n 0, 1) := by decide +kernel
theorem dX6_exchange_111 : decode cX6_exchange 111 = .ok (.getfield 7, 3) := by decide +kernel
theorem dX6_exchange_114 : decode cX6_exchange 114 = .ok (.if_icmp .ge 40, 3) := by decide +kernel
theorem dX6_exchange_117 : decode cX6_exchange 117 = .ok (.aload_n 0, 1) := by decide +kernel
theorem dX6_exchange_118 : decode cX6_exchange 118 = .ok (.getfield 13, 3) := by decide +kernel
theorem dX6_exchange_121 : decode cX6_exchange 121 = .ok (.bipush 81, 2) := by decide +kernel
theorem dX6_exchange_123 : decode cX6_exchange 123 = .ok (.iload_n 1, 1) := by decide +kernel
theorem dX6_exchange_124 : decode cX6_exchange 124 = .ok (.imul, 1) := by decide +kernel
theorem dX6_exchange_125 : decode cX6_exchange 125 = .ok (.bipush 9, 2) := by decide +kernel
theorem dX6_exchange_127 : decode cX6_exchange 127 = .ok (.iload 4, 2) := by decide +kernel
theorem dX6_exchange_129 : decode cX6_exchange 129 = .ok (.imul, 1) := by decide +kernel
theorem dX6_exchange_130 : decode cX6_exchange 130 = .ok (.iadd, 1) := by decide +kernel
theorem dX6_exchange_131 : decode cX6_exchange 131 = .ok (.iload 5, 2) := by decide +kernel
theorem dX6_exchange_133 : decode cX6_exchange 133 = .ok (.iadd, 1) := by decide +kernel
theorem dX6_exchange_134 : decode cX6_exchange 134 = .ok (.aload_n 0, 1) := by decide +kernel
theorem dX6_exchange_135 : decode cX6_exchange 135 = .ok (.getfield 36, 3) := by decide +kernel
theorem dX6_exchange_138 : decode cX6_exchange 138 = .ok (.bipush 9, 2) := by decide +kernel
theorem dX6_exchange_140 : decode cX6_exchange 140 = .ok (.iload 4, 2) := by decide +kernel
theorem dX6_exchange_142 : decode cX6_exchange 142 = .ok (.imul, 1) := by decide +kernel
theorem dX6_exchange_143 : decode cX6_exchange 143 = .ok (.iload 5, 2) := by decide +kernel
theorem dX6_exchange_145 : decode cX6_exchange 145 = .ok (.iadd, 1) := by decide +kernel
theorem dX6_exchange_146 : decode cX6_exchange 146 = .ok (.iaload, 1) := by decide +kernel
theorem dX6_exchange_147 : decode cX6_exchange 147 = .ok (.iastore, 1) := by decide +kernel
theorem dX6_exchange_148 : decode cX6_exchange 148 = .ok (.iinc 5 1, 3) := by decide +kernel
theorem dX6_exchange_151 : decode cX6_exchange 151 = .ok (.goto (-43), 3) := by decide +kernel
theorem dX6_exchange_154 : decode cX6_exchange 154 = .ok (.iinc 4 1, 3) := by decide +kernel
theorem dX6_exchange_157 : decode cX6_exchange 157 = .ok (.goto (-61), 3) := by decide +kernel
theorem dX6_exchange_160 : decode cX6_exchange 160 = .ok (.aload_n 0, 1) := by decide +kernel
theorem dX6_exchange_161 : decode cX6_exchange 161 = .ok (.getfield 17, 3) := by decide +kernel
theorem dX6_exchange_164 : decode cX6_exchange 164 = .ok (.bipush 9, 2) := by decide +kernel
theorem dX6_exchange_166 : decode cX6_exchange 166 = .ok (.iload_n 1, 1) := by decide +kernel
theorem dX6_exchange_167 : decode cX6_exchange 167 = .ok (.imul, 1) := by decide +kernel
theorem dX6_exchange_168 : decode cX6_exchange 168 = .ok (.iload_n 2, 1) := by decide +kernel
theorem dX6_exchange_169 : decode cX6_exchange 169 = .ok (.iadd, 1) := by decide +kernel
theorem dX6_exchange_170 : decode cX6_exchange 170 = .ok (.iaload, 1) := by decide +kernel
theorem dX6_exchange_171 : decode cX6_exchange 171 = .ok (.istore 4, 2) := by decide +kernel
theorem dX6_exchange_173 : decode cX6_exchange 173 = .ok (.aload_n 0, 1) := by decide +kernel
theorem dX6_exchange_174 : decode cX6_exchange 174 = .ok (.getfield 17, 3) := by decide +kernel
theorem dX6_exchange_177 : decode cX6_exchange 177 = .ok (.bipush 9, 2) := by decide +kernel
theorem dX6_exchange_179 : decode cX6_exchange 179 = .ok (.iload_n 1, 1) := by decide +kernel
theorem dX6_exchange_180 : decode cX6_exchange 180 = .ok (.imul, 1) := by decide +kernel
theorem dX6_exchange_181 : decode cX6_exchange 181 = .ok (.iload_n 2, 1) := by decide +kernel
theorem dX6_exchange_182 : decode cX6_exchange 182 = .ok (.iadd, 1) := by decide +kernel
theorem dX6_exchange_183 : decode cX6_exchange 183 = .ok (.aload_n 0, 1) := by decide +kernel
theorem dX6_exchange_184 : decode cX6_exchange 184 = .ok (.getfield 17, 3) := by decide +kernel
theorem dX6_exchange_187 : decode cX6_exchange 187 = .ok (.bipush 9, 2) := by decide +kernel
theorem dX6_exchange_189 : decode cX6_exchange 189 = .ok (.iload_n 1, 1) := by decide +kernel
theorem dX6_exchange_190 : decode cX6_exchange 190 = .ok (.imul, 1) := by decide +kernel
theorem dX6_exchange_191 : decode cX6_exchange 191 = .ok (.iload_n 3, 1) := by decide +kernel
theorem dX6_exchange_192 : decode cX6_exchange 192 = .ok (.iadd, 1) := by decide +kernel
theorem dX6_exchange_193 : decode cX6_exchange 193 = .ok (.iaload, 1) := by decide +kernel
theorem dX6_exchange_194 : decode cX6_exchange 194 = .ok (.iastore, 1) := by decide +kernel
theorem dX6_exchange_195 : decode cX6_exchange 195 = .ok (.aload_n 0, 1) := by decide +kernel
theorem dX6_exchange_196 : decode cX6_exchange 196 = .ok (.getfield 17, 3) := by decide +kernel
theorem dX6_exchange_199 : decode cX6_exchange 199 = .ok (.bipush 9, 2) := by decide +kernel
theorem dX6_exchange_201 : decode cX6_exchange 201 = .ok (.iload_n 1, 1) := by decide +kernel
theorem dX6_exchange_202 : decode cX6_exchange 202 = .ok (.imul, 1) := by decide +kernel
theorem dX6_exchange_203 : decode cX6_exchange 203 = .ok (.iload_n 3, 1) := by decide +kernel
theorem dX6_exchange_204 : decode cX6_exchange 204 = .ok (.iadd, 1) := by decide +kernel
theorem dX6_exchange_205 : decode cX6_exchange 205 = .ok (.iload 4, 2) := by decide +kernel
theorem dX6_exchange_207 : decode cX6_exchange 207 = .ok (.iastore, 1) := by decide +kernel
theorem dX6_exchange_208 : decode cX6_exchange 208 = .ok (.aload_n 0, 1) := by decide +kernel
theorem dX6_exchange_209 : decode cX6_exchange 209 = .ok (.invokevirtual 52, 3) := by decide +kernel
theorem dX6_exchange_212 : decode cX6_exchange 212 = .ok (.iconst 0, 1) := by decide +kernel
theorem dX6_exchange_213 : decode cX6_exchange 213 = .ok (.ireturn, 1) := by decide +kernel
theorem dX6_copy_0 : decode cX6_copy 0 = .ok (.iload_n 1, 1) := by decide +kernel
theorem dX6_copy_1 : decode cX6_copy 1 = .ok (.invokestatic 55, 3) := by decide +kernel
theorem dX6_copy_4 : decode cX6_copy 4 = .ok (.ifCond .ne 5, 3) := by decide +kernel
theorem dX6_copy_7 : decode cX6_copy 7 = .ok (.iconst (-1), 1) := by decide +kernel
theorem dX6_copy_8 : decode cX6_copy 8 = .ok (.ireturn, 1) := by decide +kernel
theorem dX6_copy_9 : decode cX6_copy 9 = .ok (.iconst 0, 1) := by decide +kernel
theorem dX6_copy_10 : decode cX6_copy 10 = .ok (.istore_n 2, 1) := by decide +kernel
theorem dX6_copy_11 : decode cX6_copy 11 = .ok (.iload_n 2, 1) := by decide +kernel
theorem dX6_copy_12 : decode cX6_copy 12 = .ok (.aload_n 0, 1) := by decide +kernel
theorem dX6_copy_13 : decode cX6_copy 13 = .ok (.getfield 7, 3) := by decide +kernel
theorem dX6_copy_16 : decode cX6_copy 16 = .ok (.if_icmp .ge 74, 3) := by decide +kernel
theorem dX6_copy_19 : decode cX6_copy 19 = .ok (.aload_n 0, 1) := by decide +kernel
theorem dX6_copy_20 : decode cX6_copy 20 = .ok (.getfield 17, 3) := by decide +kernel
theorem dX6_copy_23 : decode cX6_copy 23 = .ok (.bipush 9, 2) := by decide +kernel
theorem dX6_copy_25 : decode cX6_copy 25 = .ok (.iload_n 1, 1) := by decide +kernel
theorem dX6_copy_26 : decode cX6_copy 26 = .ok (.imul, 1) := by decide +kernel
theorem dX6_copy_27 : decode cX6_copy 27 = .ok (.iload_n 2, 1) := by decide +kernel
theorem dX6_copy_28 : decode cX6_copy 28 = .ok (.iadd, 1) := by decide +kernel
theorem dX6_copy_29 : decode cX6_copy 29 = .ok (.aload_n 0, 1) := by decide +kernel
theorem dX6_copy_30 : decode cX6_copy 30 = .ok (.getfield 17, 3) := by decide +kernel
theorem dX6_copy_33 : decode cX6_copy 33 = .ok (.bipush 9, 2) := by decide +kernel
theorem dX6_copy_35 : decode cX6_copy 35 = .ok (.iconst 1, 1) := by decide +kernel
theorem dX6_copy_36 : decode cX6_copy 36 = .ok (.iload_n 1, 1) := by decide +kernel
theorem dX6_copy_37 : decode cX6_copy 37 = .ok (.isub, 1) := by decide +kernel
theorem dX6_copy_38 : decode cX6_copy 38 = .ok (.imul, 1) := by decide +kernel
theorem dX6_copy_39 : decode cX6_copy 39 = .ok (.iload_n 2, 1) := by decide +kernel
theorem dX6_copy_40 : decode cX6_copy 40 = .ok (.iadd, 1) := by decide +kernel
theorem dX6_copy_41 : decode cX6_copy 41 = .ok (.iaload, 1) := by decide +kernel
theorem dX6_copy_42 : decode cX6_copy 42 = .ok (.iastore, 1) := by decide +kernel
theorem dX6_copy_43 : decode cX6_copy 43 = .ok (.iconst 0, 1) := by decide +kernel
theorem dX6_copy_44 : decode cX6_copy 44 = .ok (.istore_n 3, 1) := by decide +kernel
theorem dX6_copy_45 : decode cX6_copy 45 = .ok (.iload_n 3, 1) := by decide +kernel
theorem dX6_copy_46 : decode cX6_copy 46 = .ok (.aload_n 0, 1) := by decide +kernel
theorem dX6_copy_47 : decode cX6_copy 47 = .ok (.getfield 7, 3) := by decide +kernel
theorem dX6_copy_50 : decode cX6_copy 50 = .ok (.if_icmp .ge 34, 3) := by decide +kernel
theorem dX6_copy_53 : decode cX6_copy 53 = .ok (.aload_n 0, 1) := by decide +kernel
theorem dX6_copy_54 : decode cX6_copy 54 = .ok (.getfield 13, 3) := by decide +kernel
theorem dX6_copy_57 : decode cX6_copy 57 = .ok (.bipush 81, 2) := by decide +kernel
theorem dX6_copy_59 : decode cX6_copy 59 = .ok (.iload_n 1, 1) := by decide +kernel
theorem dX6_copy_60 : decode cX6_copy 60 = .ok (.imul, 1) := by decide +kernel
theorem dX6_copy_61 : decode cX6_copy 61 = .ok (.bipush 9, 2) := by decide +kernel
theorem dX6_copy_63 : decode cX6_copy 63 = .ok (.iload_n 2, 1) := by decide +kernel
theorem dX6_copy_64 : decode cX6_copy 64 = .ok (.imul, 1) := by decide +kernel
theorem dX6_copy_65 : decode cX6_copy 65 = .ok (.iadd, 1) := by decide +kernel
theorem dX6_copy_66 : decode cX6_copy 66 = .ok (.iload_n 3, 1) := by decide +kernel
theorem dX6_copy_67 : decode cX6_copy 67 = .ok (.iadd, 1) := by decide +kernel
theorem dX6_copy_68 : decode cX6_copy 68 = .ok (.aload_n 0, 1) := by decide +kernel
theorem dX6_copy_69 : decode cX6_copy 69 = .ok (.iconst 1, 1) := by decide +kernel
theorem dX6_copy_70 : decode cX6_copy 70 = .ok (.iload_n 1, 1) := by decide +kernel
theorem dX6_copy_71 : decode cX6_copy 71 = .ok (.isub, 1) := by decide +kernel
theorem dX6_copy_72 : decode cX6_copy 72 = .ok (.iload_n 2, 1) := by decide +kernel
theorem dX6_copy_73 : decode cX6_copy 73 = .ok (.iload_n 3, 1) := by decide +kernel
theorem dX6_copy_74 : decode cX6_copy 74 = .ok (.invokevirtual 62, 3) := by decide +kernel
theorem dX6_copy_77 : decode cX6_copy 77 = .ok (.iastore, 1) := by decide +kernel
theorem dX6_copy_78 : decode cX6_copy 78 = .ok (.iinc 3 1, 3) := by decide +kernel
theorem dX6_copy_81 : decode cX6_copy 81 = .ok (.goto (-36), 3) := by decide +kernel
theorem dX6_copy_84 : decode cX6_copy 84 = .ok (.iinc 2 1, 3) := by decide +kernel
theorem dX6_copy_87 : decode cX6_copy 87 = .ok (.goto (-76), 3) := by decide +kernel
theorem dX6_copy_90 : decode cX6_copy 90 = .ok (.aload_n 0, 1) := by decide +kernel
theorem dX6_copy_91 : decode cX6_copy 91 = .ok (.invokevirtual 52, 3) := by decide +kernel
theorem dX6_copy_94 : decode cX6_copy 94 = .ok (.iconst 0, 1) := by decide +kernel
theorem dX6_copy_95 : decode cX6_copy 95 = .ok (.ireturn, 1) := by decide +kernel
theorem dX6_many_0 : decode cX6_many 0 = .ok (.iconst 0, 1) := by decide +kernel
theorem dX6_many_1 : decode cX6_many 1 = .ok (.istore 5, 2) := by decide +kernel
theorem dX6_many_3 : decode cX6_many 3 = .ok (.iconst 0, 1) := by decide +kernel
theorem dX6_many_4 : decode cX6_many 4 = .ok (.istore 6, 2) := by decide +kernel
theorem dX6_many_6 : decode cX6_many 6 = .ok (.iload 6, 2) := by decide +kernel
theorem dX6_many_8 : decode cX6_many 8 = .ok (.aload_n 0, 1) := by decide +kernel
theorem dX6_many_9 : decode cX6_many 9 = .ok (.getfield 7, 3) := by decide +kernel
theorem dX6_many_12 : decode cX6_many 12 = .ok (.if_icmp .ge 70, 3) := by decide +kernel
theorem dX6_many_15 : decode cX6_many 15 = .ok (.iload 5, 2) := by decide +kernel
theorem dX6_many_17 : decode cX6_many 17 = .ok (.iload 6, 2) := by decide +kernel
theorem dX6_many_19 : decode cX6_many 19 = .ok (.iload_n 2, 1) := by decide +kernel
theorem dX6_many_20 : decode cX6_many 20 = .ok (.if_icmp .eq 52, 3) := by decide +kernel
theorem dX6_many_23 : decode cX6_many 23 = .ok (.aload_n 0, 1) := by decide +kernel
theorem dX6_many_24 : decode cX6_many 24 = .ok (.getfield 39, 3) := by decide +kernel
theorem dX6_many_27 : decode cX6_many 27 = .ok (.bipush 9, 2) := by decide +kernel
theorem dX6_many_29 : decode cX6_many 29 = .ok (.iload_n 1, 1) := by decide +kernel
theorem dX6_many_30 : decode cX6_many 30 = .ok (.imul, 1) := by decide +kernel
theorem dX6_many_31 : decode cX6_many 31 = .ok (.iload 6, 2) := by decide +kernel
theorem dX6_many_33 : decode cX6_many 33 = .ok (.iadd, 1) := by decide +kernel
theorem dX6_many_34 : decode cX6_many 34 = .ok (.iaload, 1) := by decide +kernel
theorem dX6_many_35 : decode cX6_many 35 = .ok (.iload 4, 2) := by decide +kernel
theorem dX6_many_37 : decode cX6_many 37 = .ok (.if_icmp .ne 35, 3) := by decide +kernel
theorem dX6_many_40 : decode cX6_many 40 = .ok (.aload_n 0, 1) := by decide +kernel
theorem dX6_many_41 : decode cX6_many 41 = .ok (.iload_n 1, 1) := by decide +kernel
theorem dX6_many_42 : decode cX6_many 42 = .ok (.iload_n 2, 1) := by decide +kernel
theorem dX6_many_43 : decode cX6_many 43 = .ok (.iload 6, 2) := by decide +kernel
theorem dX6_many_45 : decode cX6_many 45 = .ok (.invokevirtual 62, 3) := by decide +kernel
theorem dX6_many_48 : decode cX6_many 48 = .ok (.iload_n 3, 1) := by decide +kernel
theorem dX6_many_49 : decode cX6_many 49 = .ok (.iconst 4, 1) := by decide +kernel
theorem dX6_many_50 : decode cX6_many 50 = .ok (.idiv, 1) := by decide +kernel
theorem dX6_many_51 : decode cX6_many 51 = .ok (.if_icmp .ne 21, 3) := by decide +kernel
theorem dX6_many_54 : decode cX6_many 54 = .ok (.aload_n 0, 1) := by decide +kernel
theorem dX6_many_55 : decode cX6_many 55 = .ok (.iload_n 1, 1) := by decide +kernel
theorem dX6_many_56 : decode cX6_many 56 = .ok (.iload 6, 2) := by decide +kernel
theorem dX6_many_58 : decode cX6_many 58 = .ok (.iload_n 2, 1) := by decide +kernel
theorem dX6_many_59 : decode cX6_many 59 = .ok (.invokevirtual 62, 3) := by decide +kernel
theorem dX6_many_62 : decode cX6_many 62 = .ok (.iload_n 3, 1) := by decide +kernel
theorem dX6_many_63 : decode cX6_many 63 = .ok (.iconst 4, 1) := by decide +kernel
theorem dX6_many_64 : decode cX6_many 64 = .ok (.irem, 1) := by decide +kernel
theorem dX6_many_65 : decode cX6_many 65 = .ok (.if_icmp .ne 7, 3) := by decide +kernel
theorem dX6_many_68 : decode cX6_many 68 = .ok (.iconst 1, 1) := by decide +kernel
theorem dX6_many_69 : decode cX6_many 69 = .ok (.goto 4, 3) := by decide +kernel
theorem dX6_many_72 : decode cX6_many 72 = .ok (.iconst 0, 1) := by decide +kernel
theorem dX6_many_73 : decode cX6_many 73 = .ok (.iadd, 1) := by decide +kernel
theorem dX6_many_74 : decode cX6_many 74 = .ok (.istore 5, 2) := by decide +kernel
theorem dX6_many_76 : decode cX6_many 76 = .ok (.iinc 6 1, 3) := by decide +kernel
theorem dX6_many_79 : decode cX6_many 79 = .ok (.goto (-73), 3) := by decide +kernel
theorem dX6_many_82 : decode cX6_many 82 = .ok (.iload 5, 2) := by decide +kernel
theorem dX6_many_84 : decode cX6_many 84 = .ok (.ireturn, 1) := by decide +kernel
theorem dX6_order_0 : decode cX6_order 0 = .ok (.aload_n 0, 1) := by decide +kernel
theorem dX6_order_1 : decode cX6_order 1 = .ok (.getfield 39, 3) := by decide +kernel
theorem dX6_order_4 : decode cX6_order 4 = .ok (.iload_n 1, 1) := by decide +kernel
theorem dX6_order_5 : decode cX6_order 5 = .ok (.iaload, 1) := by decide +kernel
theorem dX6_order_6 : decode cX6_order 6 = .ok (.aload_n 0, 1) := by decide +kernel
theorem dX6_order_7 : decode cX6_order 7 = .ok (.getfield 39, 3) := by decide +kernel
theorem dX6_order_10 : decode cX6_order 10 = .ok (.iload_n 2, 1) := by decide +kernel
theorem dX6_order_11 : decode cX6_order 11 = .ok (.iaload, 1) := by decide +kernel
theorem dX6_order_12 : decode cX6_order 12 = .ok (.if_icmp .eq 17, 3) := by decide +kernel
theorem dX6_order_15 : decode cX6_order 15 = .ok (.aload_n 0, 1) := by decide +kernel
theorem dX6_order_16 : decode cX6_order 16 = .ok (.getfield 39, 3) := by decide +kernel
theorem dX6_order_19 : decode cX6_order 19 = .ok (.iload_n 1, 1) := by decide +kernel
theorem dX6_order_20 : decode cX6_order 20 = .ok (.iaload, 1) := by decide +kernel
theorem dX6_order_21 : decode cX6_order 21 = .ok (.aload_n 0, 1) := by decide +kernel
theorem dX6_order_22 : decode cX6_order 22 = .ok (.getfield 39, 3) := by decide +kernel
theorem dX6_order_25 : decode cX6_order 25 = .ok (.iload_n 2, 1) := by decide +kernel
theorem dX6_order_26 : decode cX6_order 26 = .ok (.iaload, 1) := by decide +kernel
theorem dX6_order_27 : decode cX6_order 27 = .ok (.isub, 1) := by decide +kernel
theorem dX6_order_28 : decode cX6_order 28 = .ok (.ireturn, 1) := by decide +kernel
theorem dX6_order_29 : decode cX6_order 29 = .ok (.iconst 0, 1) := by decide +kernel
theorem dX6_order_30 : decode cX6_order 30 = .ok (.istore_n 3, 1) := by decide +kernel
theorem dX6_order_31 : decode cX6_order 31 = .ok (.iload_n 3, 1) := by decide +kernel
theorem dX6_order_32 : decode cX6_order 32 = .ok (.bipush 16, 2) := by decide +kernel
theorem dX6_order_34 : decode cX6_order 34 = .ok (.if_icmp .ge 74, 3) := by decide +kernel
theorem dX6_order_37 : decode cX6_order 37 = .ok (.iconst 0, 1) := by decide +kernel
theorem dX6_order_38 : decode cX6_order 38 = .ok (.istore 4, 2) := by decide +kernel
theorem dX6_order_40 : decode cX6_order 40 = .ok (.iload 4, 2) := by decide +kernel
theorem dX6_order_42 : decode cX6_order 42 = .ok (.aload_n 0, 1) := by decide +kernel
theorem dX6_order_43 : decode cX6_order 43 = .ok (.getfield 69, 3) := by decide +kernel
theorem dX6_order_46 : decode cX6_order 46 = .ok (.if_icmp .ge 56, 3) := by decide +kernel
theorem dX6_order_49 : decode cX6_order 49 = .ok (.aload_n 0, 1) := by decide +kernel
theorem dX6_order_50 : decode cX6_order 50 = .ok (.iload_n 1, 1) := by decide +kernel
theorem dX6_order_51 : decode cX6_order 51 = .ok (.bipush 9, 2) := by decide +kernel
theorem dX6_order_53 : decode cX6_order 53 = .ok (.idiv, 1) := by decide +kernel
theorem dX6_order_54 : decode cX6_order 54 = .ok (.iload_n 1, 1) := by decide +kernel
theorem dX6_order_55 : decode cX6_order 55 = .ok (.bipush 9, 2) := by decide +kernel
theorem dX6_order_57 : decode cX6_order 57 = .ok (.irem, 1) := by decide +kernel
theorem dX6_order_58 : decode cX6_order 58 = .ok (.iload_n 3, 1) := by decide +kernel
theorem dX6_order_59 : decode cX6_order 59 = .ok (.iload 4, 2) := by decide +kernel
theorem dX6_order_61 : decode cX6_order 61 = .ok (.invokevirtual 72, 3) := by decide +kernel
theorem dX6_order_64 : decode cX6_order 64 = .ok (.istore 5, 2) := by decide +kernel
theorem dX6_order_66 : decode cX6_order 66 = .ok (.aload_n 0, 1) := by decide +kernel
theorem dX6_order_67 : decode cX6_order 67 = .ok (.iload_n 2, 1) := by decide +kernel
theorem dX6_order_68 : decode cX6_order 68 = .ok (.bipush 9, 2) := by decide +kernel
theorem dX6_order_70 : decode cX6_order 70 = .ok (.idiv, 1) := by decide +kernel
theorem dX6_order_71 : decode cX6_order 71 = .ok (.iload_n 2, 1) := by decide +kernel
theorem dX6_order_72 : decode cX6_order 72 = .ok (.bipush 9, 2) := by decide +kernel
theorem dX6_order_74 : decode cX6_order 74 = .ok (.irem, 1) := by decide +kernel
theorem dX6_order_75 : decode cX6_order 75 = .ok (.iload_n 3, 1) := by decide +kernel
theorem dX6_order_76 : decode cX6_order 76 = .ok (.iload 4, 2) := by decide +kernel
theorem dX6_order_78 : decode cX6_order 78 = .ok (.invokevirtual 72, 3) := by decide +kernel
theorem dX6_order_81 : decode cX6_order 81 = .ok (.istore 6, 2) := by decide +kernel
theorem dX6_order_83 : decode cX6_order 83 = .ok (.iload 5, 2) := by decide +kernel
theorem dX6_order_85 : decode cX6_order 85 = .ok (.iload 6, 2) := by decide +kernel
theorem dX6_order_87 : decode cX6_order 87 = .ok (.if_icmp .eq 9, 3) := by decide +kernel
theorem dX6_order_90 : decode cX6_order 90 = .ok (.iload 6, 2) := by decide +kernel
theorem dX6_order_92 : decode cX6_order 92 = .ok (.iload 5, 2) := by decide +kernel
theorem dX6_order_94 : decode cX6_order 94 = .ok (.isub, 1) := by decide +kernel
theorem dX6_order_95 : decode cX6_order 95 = .ok (.ireturn, 1) := by decide +kernel
theorem dX6_order_96 : decode cX6_order 96 = .ok (.iinc 4 1, 3) := by decide +kernel
theorem dX6_order_99 : decode cX6_order 99 = .ok (.goto (-59), 3) := by decide +kernel
theorem dX6_order_102 : decode cX6_order 102 = .ok (.iinc 3 1, 3) := by decide +kernel
theorem dX6_order_105 : decode cX6_order 105 = .ok (.goto (-74), 3) := by decide +kernel
theorem dX6_order_108 : decode cX6_order 108 = .ok (.iconst 0, 1) := by decide +kernel
theorem dX6_order_109 : decode cX6_order 109 = .ok (.ireturn, 1) := by decide +kernel
theorem dX6_isThere_0 : decode cX6_isThere 0 = .ok (.iload_n 1, 1) := by decide +kernel
theorem dX6_isThere_1 : decode cX6_isThere 1 = .ok (.bipush 9, 2) := by decide +kernel
theorem dX6_isThere_3 : decode cX6_isThere 3 = .ok (.irem, 1) := by decide +kernel
theorem dX6_isThere_4 : decode cX6_isThere 4 = .ok (.aload_n 0, 1) := by decide +kernel
theorem dX6_isThere_5 : decode cX6_isThere 5 = .ok (.getfield 7, 3) := by decide +kernel
theorem dX6_isThere_8 : decode cX6_isThere 8 = .ok (.if_icmp .ge 7, 3) := by decide +kernel
theorem dX6_isThere_11 : decode cX6_isThere 11 = .ok (.iconst 1, 1) := by decide +kernel
theorem dX6_isThere_12 : decode cX6_isThere 12 = .ok (.goto 4, 3) := by decide +kernel
theorem dX6_isThere_15 : decode cX6_isThere 15 = .ok (.iconst 0, 1) := by decide +kernel
theorem dX6_isThere_16 : decode cX6_isThere 16 = .ok (.ireturn, 1) := by decide +kernel
theorem dX6_paint_0 : decode cX6_paint 0 = .ok (.aload_n 0, 1) := by decide +kernel
theorem dX6_paint_1 : decode cX6_paint 1 = .ok (.getfield 49, 3) := by decide +kernel
theorem dX6_paint_4 : decode cX6_paint 4 = .ok (.ifCond .eq 4, 3) := by decide +kernel
theorem dX6_paint_7 : decode cX6_paint 7 = .ok (.return_, 1) := by decide +kernel
theorem dX6_paint_8 : decode cX6_paint 8 = .ok (.aload_n 0, 1) := by decide +kernel
theorem dX6_paint_9 : decode cX6_paint 9 = .ok (.iconst 1, 1) := by decide +kernel
theorem dX6_paint_10 : decode cX6_paint 10 = .ok (.putfield 49, 3) := by decide +kernel
theorem dX6_paint_13 : decode cX6_paint 13 = .ok (.aload_n 0, 1) := by decide +kernel
theorem dX6_paint_14 : decode cX6_paint 14 = .ok (.iconst 0, 1) := by decide +kernel
theorem dX6_paint_15 : decode cX6_paint 15 = .ok (.putfield 69, 3) := by decide +kernel
theorem dX6_paint_18 : decode cX6_paint 18 = .ok (.iconst 0, 1) := by decide +kernel
theorem dX6_paint_19 : decode cX6_paint 19 = .ok (.istore_n 1, 1) := by decide +kernel
theorem dX6_paint_20 : decode cX6_paint 20 = .ok (.iload_n 1, 1) := by decide +kernel
theorem dX6_paint_21 : decode cX6_paint 21 = .ok (.iconst 4, 1) := by decide +kernel
theorem dX6_paint_22 : decode cX6_paint 22 = .ok (.if_icmp .ge 73, 3) := by decide +kernel
theorem dX6_paint_25 : decode cX6_paint 25 = .ok (.iconst 0, 1) := by decide +kernel
theorem dX6_paint_26 : decode cX6_paint 26 = .ok (.istore_n 2, 1) := by decide +kernel
theorem dX6_paint_27 : decode cX6_paint 27 = .ok (.iconst 0, 1) := by decide +kernel
theorem dX6_paint_28 : decode cX6_paint 28 = .ok (.istore_n 3, 1) := by decide +kernel
theorem dX6_paint_29 : decode cX6_paint 29 = .ok (.iload_n 3, 1) := by decide +kernel
theorem dX6_paint_30 : decode cX6_paint 30 = .ok (.bipush 18, 2) := by decide +kernel
theorem dX6_paint_32 : decode cX6_paint 32 = .ok (.if_icmp .ge 39, 3) := by decide +kernel
theorem dX6_paint_35 : decode cX6_paint 35 = .ok (.aload_n 0, 1) := by decide +kernel
theorem dX6_paint_36 : decode cX6_paint 36 = .ok (.iload_n 3, 1) := by decide +kernel
theorem dX6_paint_37 : decode cX6_paint 37 = .ok (.invokevirtual 76, 3) := by decide +kernel
theorem dX6_paint_40 : decode cX6_paint 40 = .ok (.ifCond .eq 25, 3) := by decide +kernel
theorem dX6_paint_43 : decode cX6_paint 43 = .ok (.aload_n 0, 1) := by decide +kernel
theorem dX6_paint_44 : decode cX6_paint 44 = .ok (.getfield 17, 3) := by decide +kernel
theorem dX6_paint_47 : decode cX6_paint 47 = .ok (.iload_n 3, 1) := by decide +kernel
theorem dX6_paint_48 : decode cX6_paint 48 = .ok (.iaload, 1) := by decide +kernel
theorem dX6_paint_49 : decode cX6_paint 49 = .ok (.iload_n 1, 1) := by decide +kernel
theorem dX6_paint_50 : decode cX6_paint 50 = .ok (.if_icmp .ne 15, 3) := by decide +kernel
theorem dX6_paint_53 : decode cX6_paint 53 = .ok (.aload_n 0, 1) := by decide +kernel
theorem dX6_paint_54 : decode cX6_paint 54 = .ok (.getfield 39, 3) := by decide +kernel
theorem dX6_paint_57 : decode cX6_paint 57 = .ok (.iload_n 3, 1) := by decide +kernel
theorem dX6_paint_58 : decode cX6_paint 58 = .ok (.aload_n 0, 1) := by decide +kernel
theorem dX6_paint_59 : decode cX6_paint 59 = .ok (.getfield 69, 3) := by decide +kernel
theorem dX6_paint_62 : decode cX6_paint 62 = .ok (.iastore, 1) := by decide +kernel
theorem dX6_paint_63 : decode cX6_paint 63 = .ok (.iconst 1, 1) := by decide +kernel
theorem dX6_paint_64 : decode cX6_paint 64 = .ok (.istore_n 2, 1) := by decide +kernel
theorem dX6_paint_65 : decode cX6_paint 65 = .ok (.iinc 3 1, 3) := by decide +kernel
theorem dX6_paint_68 : decode cX6_paint 68 = .ok (.goto (-39), 3) := by decide +kernel
theorem dX6_paint_71 : decode cX6_paint 71 = .ok (.aload_n 0, 1) := by decide +kernel
theorem dX6_paint_72 : decode cX6_paint 72 = .ok (.dup, 1) := by decide +kernel
theorem dX6_paint_73 : decode cX6_paint 73 = .ok (.getfield 69, 3) := by decide +kernel
theorem dX6_paint_76 : decode cX6_paint 76 = .ok (.iload_n 2, 1) := by decide +kernel
theorem dX6_paint_77 : decode cX6_paint 77 = .ok (.ifCond .eq 7, 3) := by decide +kernel
theorem dX6_paint_80 : decode cX6_paint 80 = .ok (.iconst 1, 1) := by decide +kernel
theorem dX6_paint_81 : decode cX6_paint 81 = .ok (.goto 4, 3) := by decide +kernel
theorem dX6_paint_84 : decode cX6_paint 84 = .ok (.iconst 0, 1) := by decide +kernel
theorem dX6_paint_85 : decode cX6_paint 85 = .ok (.iadd, 1) := by decide +kernel
theorem dX6_paint_86 : decode cX6_paint 86 = .ok (.putfield 69, 3) := by decide +kernel
theorem dX6_paint_89 : decode cX6_paint 89 = .ok (.iinc 1 1, 3) := by decide +kernel
theorem dX6_paint_92 : decode cX6_paint 92 = .ok (.goto (-72), 3) := by decide +kernel
theorem dX6_paint_95 : decode cX6_paint 95 = .ok (.iconst 0, 1) := by decide +kernel
theorem dX6_paint_96 : decode cX6_paint 96 = .ok (.istore_n 1, 1) := by decide +kernel
theorem dX6_paint_97 : decode cX6_paint 97 = .ok (.iload_n 1, 1) := by decide +kernel
theorem dX6_paint_98 : decode cX6_paint 98 = .ok (.aload_n 0, 1) := by decide +kernel
theorem dX6_paint_99 : decode cX6_paint 99 = .ok (.getfield 69, 3) := by decide +kernel
theorem dX6_paint_102 : decode cX6_paint 102 = .ok (.if_icmp .ge 229, 3) := by decide +kernel
theorem dX6_paint_105 : decode cX6_paint 105 = .ok (.aload_n 0, 1) := by decide +kernel
theorem dX6_paint_106 : decode cX6_paint 106 = .ok (.getfield 69, 3) := by decide +kernel
theorem dX6_paint_109 : decode cX6_paint 109 = .ok (.istore_n 1, 1) := by decide +kernel
theorem dX6_paint_110 : decode cX6_paint 110 = .ok (.iconst 0, 1) := by decide +kernel
theorem dX6_paint_111 : decode cX6_paint 111 = .ok (.istore_n 2, 1) := by decide +kernel
theorem dX6_paint_112 : decode cX6_paint 112 = .ok (.iconst 0, 1) := by decide +kernel
theorem dX6_paint_113 : decode cX6_paint 113 = .ok (.istore_n 3, 1) := by decide +kernel
theorem dX6_paint_114 : decode cX6_paint 114 = .ok (.iload_n 3, 1) := by decide +kernel
theorem dX6_paint_115 : decode cX6_paint 115 = .ok (.bipush 18, 2) := by decide +kernel
theorem dX6_paint_117 : decode cX6_paint 117 = .ok (.if_icmp .ge 180, 3) := by decide +kernel
theorem dX6_paint_120 : decode cX6_paint 120 = .ok (.aload_n 0, 1) := by decide +kernel
theorem dX6_paint_121 : decode cX6_paint 121 = .ok (.getfield 42, 3) := by decide +kernel
theorem dX6_paint_124 : decode cX6_paint 124 = .ok (.iload_n 3, 1) := by decide +kernel
theorem dX6_paint_125 : decode cX6_paint 125 = .ok (.iconst 0, 1) := by decide +kernel
theorem dX6_paint_126 : decode cX6_paint 126 = .ok (.iastore, 1) := by decide +kernel
theorem dX6_paint_127 : decode cX6_paint 127 = .ok (.aload_n 0, 1) := by decide +kernel
theorem dX6_paint_128 : decode cX6_paint 128 = .ok (.iload_n 3, 1) := by decide +kernel
theorem dX6_paint_129 : decode cX6_paint 129 = .ok (.invokevirtual 76, 3) := by decide +kernel
theorem dX6_paint_132 : decode cX6_paint 132 = .ok (.istore 4, 2) := by decide +kernel
theorem dX6_paint_134 : decode cX6_paint 134 = .ok (.iconst 0, 1) := by decide +kernel
theorem dX6_paint_135 : decode cX6_paint 135 = .ok (.istore 5, 2) := by decide +kernel
theorem dX6_paint_137 : decode cX6_paint 137 = .ok (.iload 5, 2) := by decide +kernel
theorem dX6_paint_139 : decode cX6_paint 139 = .ok (.bipush 18, 2) := by decide +kernel
theorem dX6_paint_141 : decode cX6_paint 141 = .ok (.if_icmp .ge 137, 3) := by decide +kernel
theorem dX6_paint_144 : decode cX6_paint 144 = .ok (.aload_n 0, 1) := by decide +kernel
theorem dX6_paint_145 : decode cX6_paint 145 = .ok (.iload_n 3, 1) := by decide +kernel
theorem dX6_paint_146 : decode cX6_paint 146 = .ok (.invokevirtual 76, 3) := by decide +kernel
theorem dX6_paint_149 : decode cX6_paint 149 = .ok (.ifCond .eq 123, 3) := by decide +kernel
theorem dX6_paint_152 : decode cX6_paint 152 = .ok (.aload_n 0, 1) := by decide +kernel
theorem dX6_paint_153 : decode cX6_paint 153 = .ok (.iload 5, 2) := by decide +kernel
theorem dX6_paint_155 : decode cX6_paint 155 = .ok (.invokevirtual 76, 3) := by decide +kernel
theorem dX6_paint_158 : decode cX6_paint 158 = .ok (.ifCond .eq 114, 3) := by decide +kernel
theorem dX6_paint_161 : decode cX6_paint 161 = .ok (.aload_n 0, 1) := by decide +kernel
theorem dX6_paint_162 : decode cX6_paint 162 = .ok (.iload 5, 2) := by decide +kernel
theorem dX6_paint_164 : decode cX6_paint 164 = .ok (.iload_n 3, 1) := by decide +kernel
theorem dX6_paint_165 : decode cX6_paint 165 = .ok (.invokevirtual 79, 3) := by decide +kernel
theorem dX6_paint_168 : decode cX6_paint 168 = .ok (.istore 6, 2) := by decide +kernel
theorem dX6_paint_170 : decode cX6_paint 170 = .ok (.iload 6, 2) := by decide +kernel
theorem dX6_paint_172 : decode cX6_paint 172 = .ok (.ifCond .ge 7, 3) := by decide +kernel
theorem dX6_paint_175 : decode cX6_paint 175 = .ok (.iconst 1, 1) := by decide +kernel
theorem dX6_paint_176 : decode cX6_paint 176 = .ok (.goto 4, 3) := by decide +kernel
theorem dX6_paint_179 : decode cX6_paint 179 = .ok (.iconst 0, 1) := by decide +kernel
theorem dX6_paint_180 : decode cX6_paint 180 = .ok (.istore 7, 2) := by decide +kernel
theorem dX6_paint_182 : decode cX6_paint 182 = .ok (.iconst 0, 1) := by decide +kernel
theorem dX6_paint_183 : decode cX6_paint 183 = .ok (.istore 8, 2) := by decide +kernel
theorem dX6_paint_185 : decode cX6_paint 185 = .ok (.iload 8, 2) := by decide +kernel
theorem dX6_paint_187 : decode cX6_paint 187 = .ok (.iload 5, 2) := by decide +kernel
theorem dX6_paint_189 : decode cX6_paint 189 = .ok (.if_icmp .ge 41, 3) := by decide +kernel
theorem dX6_paint_192 : decode cX6_paint 192 = .ok (.iload 7, 2) := by decide +kernel
theorem dX6_paint_194 : decode cX6_paint 194 = .ok (.ifCond .eq 36, 3) := by decide +kernel
theorem dX6_paint_197 : decode cX6_paint 197 = .ok (.aload_n 0, 1) := by decide +kernel
theorem dX6_paint_198 : decode cX6_paint 198 = .ok (.iload 8, 2) := by decide +kernel
theorem dX6_paint_200 : decode cX6_paint 200 = .ok (.invokevirtual 76, 3) := by decide +kernel
theorem dX6_paint_203 : decode cX6_paint 203 = .ok (.ifCond .eq 14, 3) := by decide +kernel
theorem dX6_paint_206 : decode cX6_paint 206 = .ok (.aload_n 0, 1) := by decide +kernel
theorem dX6_paint_207 : decode cX6_paint 207 = .ok (.iload 8, 2) := by decide +kernel
theorem dX6_paint_209 : decode cX6_paint 209 = .ok (.iload 5, 2) := by decide +kernel
theorem dX6_paint_211 : decode cX6_paint 211 = .ok (.invokevirtual 79, 3) := by decide +kernel
theorem dX6_paint_214 : decode cX6_paint 214 = .ok (.ifCond .eq 7, 3) := by decide +kernel
theorem dX6_paint_217 : decode cX6_paint 217 = .ok (.iconst 1, 1) := by decide +kernel
theorem dX6_paint_218 : decode cX6_paint 218 = .ok (.goto 4, 3) := by decide +kernel
theorem dX6_paint_221 : decode cX6_paint 221 = .ok (.iconst 0, 1) := by decide +kernel
theorem dX6_paint_222 : decode cX6_paint 222 = .ok (.istore 7, 2) := by decide +kernel
theorem dX6_paint_224 : decode cX6_paint 224 = .ok (.iinc 8 1, 3) := by decide +kernel
theorem dX6_paint_227 : decode cX6_paint 227 = .ok (.goto (-42), 3) := by decide +kernel
theorem dX6_paint_230 : decode cX6_paint 230 = .ok (.aload_n 0, 1) := by decide +kernel
theorem dX6_paint_231 : decode cX6_paint 231 = .ok (.getfield 42, 3) := by decide +kernel
theorem dX6_paint_234 : decode cX6_paint 234 = .ok (.iload_n 3, 1) := by decide +kernel
theorem dX6_paint_235 : decode cX6_paint 235 = .ok (.dup2, 1) := by decide +kernel
theorem dX6_paint_236 : decode cX6_paint 236 = .ok (.iaload, 1) := by decide +kernel
theorem dX6_paint_237 : decode cX6_paint 237 = .ok (.iload 7, 2) := by decide +kernel
theorem dX6_paint_239 : decode cX6_paint 239 = .ok (.ifCond .eq 7, 3) := by decide +kernel
theorem dX6_paint_242 : decode cX6_paint 242 = .ok (.iconst 1, 1) := by decide +kernel
theorem dX6_paint_243 : decode cX6_paint 243 = .ok (.goto 4, 3) := by decide +kernel
theorem dX6_paint_246 : decode cX6_paint 246 = .ok (.iconst 0, 1) := by decide +kernel
theorem dX6_paint_247 : decode cX6_paint 247 = .ok (.iadd, 1) := by decide +kernel
theorem dX6_paint_248 : decode cX6_paint 248 = .ok (.iastore, 1) := by decide +kernel
theorem dX6_paint_249 : decode cX6_paint 249 = .ok (.iload 4, 2) := by decide +kernel
theorem dX6_paint_251 : decode cX6_paint 251 = .ok (.ifCond .eq 18, 3) := by decide +kernel
theorem dX6_paint_254 : decode cX6_paint 254 = .ok (.iload 5, 2) := by decide +kernel
theorem dX6_paint_256 : decode cX6_paint 256 = .ok (.iload_n 3, 1) := by decide +kernel
theorem dX6_paint_257 : decode cX6_paint 257 = .ok (.if_icmp .ge 8, 3) := by decide +kernel
theorem dX6_paint_260 : decode cX6_paint 260 = .ok (.iload 6, 2) := by decide +kernel
theorem dX6_paint_262 : decode cX6_paint 262 = .ok (.ifCond .eq 7, 3) := by decide +kernel
theorem dX6_paint_265 : decode cX6_paint 265 = .ok (.iconst 1, 1) := by decide +kernel
theorem dX6_paint_266 : decode cX6_paint 266 = .ok (.goto 4, 3) := by decide +kernel
theorem dX6_paint_269 : decode cX6_paint 269 = .ok (.iconst 0, 1) := by decide +kernel
theorem dX6_paint_270 : decode cX6_paint 270 = .ok (.istore 4, 2) := by decide +kernel
theorem dX6_paint_272 : decode cX6_paint 272 = .ok (.iinc 5 1, 3) := by decide +kernel
theorem dX6_paint_275 : decode cX6_paint 275 = .ok (.goto (-138), 3) := by decide +kernel
theorem dX6_paint_278 : decode cX6_paint 278 = .ok (.iload_n 2, 1) := by decide +kernel
theorem dX6_paint_279 : decode cX6_paint 279 = .ok (.iload 4, 2) := by decide +kernel
theorem dX6_paint_281 : decode cX6_paint 281 = .ok (.ifCond .eq 7, 3) := by decide +kernel
theorem dX6_paint_284 : decode cX6_paint 284 = .ok (.iconst 1, 1) := by decide +kernel
theorem dX6_paint_285 : decode cX6_paint 285 = .ok (.goto 4, 3) := by decide +kernel
theorem dX6_paint_288 : decode cX6_paint 288 = .ok (.iconst 0, 1) := by decide +kernel
theorem dX6_paint_289 : decode cX6_paint 289 = .ok (.iadd, 1) := by decide +kernel
theorem dX6_paint_290 : decode cX6_paint 290 = .ok (.istore_n 2, 1) := by decide +kernel
theorem dX6_paint_291 : decode cX6_paint 291 = .ok (.iinc 3 1, 3) := by decide +kernel
theorem dX6_paint_294 : decode cX6_paint 294 = .ok (.goto (-180), 3) := by decide +kernel
theorem dX6_paint_297 : decode cX6_paint 297 = .ok (.iconst 0, 1) := by decide +kernel
theorem dX6_paint_298 : decode cX6_paint 298 = .ok (.istore_n 3, 1) := by decide +kernel
theorem dX6_paint_299 : decode cX6_paint 299 = .ok (.iload_n 3, 1) := by decide +kernel
theorem dX6_paint_300 : decode cX6_paint 300 = .ok (.bipush 18, 2) := by decide +kernel
theorem dX6_paint_302 : decode cX6_paint 302 = .ok (.if_icmp .ge 21, 3) := by decide +kernel
theorem dX6_paint_305 : decode cX6_paint 305 = .ok (.aload_n 0, 1) := by decide +kernel
theorem dX6_paint_306 : decode cX6_paint 306 = .ok (.getfield 39, 3) := by decide +kernel
theorem dX6_paint_309 : decode cX6_paint 309 = .ok (.iload_n 3, 1) := by decide +kernel
theorem dX6_paint_310 : decode cX6_paint 310 = .ok (.aload_n 0, 1) := by decide +kernel
theorem dX6_paint_311 : decode cX6_paint 311 = .ok (.getfield 42, 3) := by decide +kernel
theorem dX6_paint_314 : decode cX6_paint 314 = .ok (.iload_n 3, 1) := by decide +kernel
theorem dX6_paint_315 : decode cX6_paint 315 = .ok (.iaload, 1) := by decide +kernel
theorem dX6_paint_316 : decode cX6_paint 316 = .ok (.iastore, 1) := by decide +kernel
theorem dX6_paint_317 : decode cX6_paint 317 = .ok (.iinc 3 1, 3) := by decide +kernel
theorem dX6_paint_320 : decode cX6_paint 320 = .ok (.goto (-21), 3) := by decide +kernel
theorem dX6_paint_323 : decode cX6_paint 323 = .ok (.aload_n 0, 1) := by decide +kernel
theorem dX6_paint_324 : decode cX6_paint 324 = .ok (.iload_n 2, 1) := by decide +kernel
theorem dX6_paint_325 : decode cX6_paint 325 = .ok (.putfield 69, 3) := by decide +kernel
theorem dX6_paint_328 : decode cX6_paint 328 = .ok (.goto (-231), 3) := by decide +kernel
theorem dX6_paint_331 : decode cX6_paint 331 = .ok (.return_, 1) := by decide +kernel
theorem dX6_colours_0 : decode cX6_colours 0 = .ok (.aload_n 0, 1) := by decide +kernel
theorem dX6_colours_1 : decode cX6_colours 1 = .ok (.invokevirtual 83, 3) := by decide +kernel
theorem dX6_colours_4 : decode cX6_colours 4 = .ok (.aload_n 0, 1) := by decide +kernel
theorem dX6_colours_5 : decode cX6_colours 5 = .ok (.getfield 69, 3) := by decide +kernel
theorem dX6_colours_8 : decode cX6_colours 8 = .ok (.ireturn, 1) := by decide +kernel
theorem dX6_colour_0 : decode cX6_colour 0 = .ok (.iload_n 1, 1) := by decide +kernel
theorem dX6_colour_1 : decode cX6_colour 1 = .ok (.invokestatic 55, 3) := by decide +kernel
theorem dX6_colour_4 : decode cX6_colour 4 = .ok (.ifCond .eq 11, 3) := by decide +kernel
theorem dX6_colour_7 : decode cX6_colour 7 = .ok (.aload_n 0, 1) := by decide +kernel
theorem dX6_colour_8 : decode cX6_colour 8 = .ok (.iload_n 2, 1) := by decide +kernel
theorem dX6_colour_9 : decode cX6_colour 9 = .ok (.invokevirtual 59, 3) := by decide +kernel
theorem dX6_colour_12 : decode cX6_colour 12 = .ok (.ifCond .ne 5, 3) := by decide +kernel
theorem dX6_colour_15 : decode cX6_colour 15 = .ok (.iconst (-1), 1) := by decide +kernel
theorem dX6_colour_16 : decode cX6_colour 16 = .ok (.ireturn, 1) := by decide +kernel
theorem dX6_colour_17 : decode cX6_colour 17 = .ok (.aload_n 0, 1) := by decide +kernel
theorem dX6_colour_18 : decode cX6_colour 18 = .ok (.invokevirtual 83, 3) := by decide +kernel
theorem dX6_colour_21 : decode cX6_colour 21 = .ok (.aload_n 0, 1) := by decide +kernel
theorem dX6_colour_22 : decode cX6_colour 22 = .ok (.getfield 39, 3) := by decide +kernel
theorem dX6_colour_25 : decode cX6_colour 25 = .ok (.bipush 9, 2) := by decide +kernel
theorem dX6_colour_27 : decode cX6_colour 27 = .ok (.iload_n 1, 1) := by decide +kernel
theorem dX6_colour_28 : decode cX6_colour 28 = .ok (.imul, 1) := by decide +kernel
theorem dX6_colour_29 : decode cX6_colour 29 = .ok (.iload_n 2, 1) := by decide +kernel
theorem dX6_colour_30 : decode cX6_colour 30 = .ok (.iadd, 1) := by decide +kernel
theorem dX6_colour_31 : decode cX6_colour 31 = .ok (.iaload, 1) := by decide +kernel
theorem dX6_colour_32 : decode cX6_colour 32 = .ok (.ireturn, 1) := by decide +kernel
theorem dX6_fits_0 : decode cX6_fits 0 = .ok (.aload_n 0, 1) := by decide +kernel
theorem dX6_fits_1 : decode cX6_fits 1 = .ok (.getfield 17, 3) := by decide +kernel
theorem dX6_fits_4 : decode cX6_fits 4 = .ok (.bipush 9, 2) := by decide +kernel
theorem dX6_fits_6 : decode cX6_fits 6 = .ok (.iload_n 1, 1) := by decide +kernel
theorem dX6_fits_7 : decode cX6_fits 7 = .ok (.imul, 1) := by decide +kernel
theorem dX6_fits_8 : decode cX6_fits 8 = .ok (.iload_n 3, 1) := by decide +kernel
theorem dX6_fits_9 : decode cX6_fits 9 = .ok (.iadd, 1) := by decide +kernel
theorem dX6_fits_10 : decode cX6_fits 10 = .ok (.iaload, 1) := by decide +kernel
theorem dX6_fits_11 : decode cX6_fits 11 = .ok (.aload_n 0, 1) := by decide +kernel
theorem dX6_fits_12 : decode cX6_fits 12 = .ok (.getfield 17, 3) := by decide +kernel
theorem dX6_fits_15 : decode cX6_fits 15 = .ok (.bipush 9, 2) := by decide +kernel
theorem dX6_fits_17 : decode cX6_fits 17 = .ok (.iload_n 2, 1) := by decide +kernel
theorem dX6_fits_18 : decode cX6_fits 18 = .ok (.imul, 1) := by decide +kernel
theorem dX6_fits_19 : decode cX6_fits 19 = .ok (.iload 4, 2) := by decide +kernel
theorem dX6_fits_21 : decode cX6_fits 21 = .ok (.iadd, 1) := by decide +kernel
theorem dX6_fits_22 : decode cX6_fits 22 = .ok (.iaload, 1) := by decide +kernel
theorem dX6_fits_23 : decode cX6_fits 23 = .ok (.if_icmp .ne 24, 3) := by decide +kernel
theorem dX6_fits_26 : decode cX6_fits 26 = .ok (.aload_n 0, 1) := by decide +kernel
theorem dX6_fits_27 : decode cX6_fits 27 = .ok (.getfield 26, 3) := by decide +kernel
theorem dX6_fits_30 : decode cX6_fits 30 = .ok (.iload_n 3, 1) := by decide +kernel
theorem dX6_fits_31 : decode cX6_fits 31 = .ok (.iaload, 1) := by decide +kernel
theorem dX6_fits_32 : decode cX6_fits 32 = .ok (.iconst (-1), 1) := by decide +kernel
theorem dX6_fits_33 : decode cX6_fits 33 = .ok (.if_icmp .eq 16, 3) := by decide +kernel
theorem dX6_fits_36 : decode cX6_fits 36 = .ok (.aload_n 0, 1) := by decide +kernel
theorem dX6_fits_37 : decode cX6_fits 37 = .ok (.getfield 26, 3) := by decide +kernel
theorem dX6_fits_40 : decode cX6_fits 40 = .ok (.iload_n 3, 1) := by decide +kernel
theorem dX6_fits_41 : decode cX6_fits 41 = .ok (.iaload, 1) := by decide +kernel
theorem dX6_fits_42 : decode cX6_fits 42 = .ok (.iload 4, 2) := by decide +kernel
theorem dX6_fits_44 : decode cX6_fits 44 = .ok (.if_icmp .eq 5, 3) := by decide +kernel
theorem dX6_fits_47 : decode cX6_fits 47 = .ok (.iconst 0, 1) := by decide +kernel
theorem dX6_fits_48 : decode cX6_fits 48 = .ok (.ireturn, 1) := by decide +kernel
theorem dX6_fits_49 : decode cX6_fits 49 = .ok (.iconst 0, 1) := by decide +kernel
theorem dX6_fits_50 : decode cX6_fits 50 = .ok (.istore 5, 2) := by decide +kernel
theorem dX6_fits_52 : decode cX6_fits 52 = .ok (.iload 5, 2) := by decide +kernel
theorem dX6_fits_54 : decode cX6_fits 54 = .ok (.iload_n 3, 1) := by decide +kernel
theorem dX6_fits_55 : decode cX6_fits 55 = .ok (.if_icmp .ge 73, 3) := by decide +kernel
theorem dX6_fits_58 : decode cX6_fits 58 = .ok (.aload_n 0, 1) := by decide +kernel
theorem dX6_fits_59 : decode cX6_fits 59 = .ok (.getfield 23, 3) := by decide +kernel
theorem dX6_fits_62 : decode cX6_fits 62 = .ok (.iload 5, 2) := by decide +kernel
theorem dX6_fits_64 : decode cX6_fits 64 = .ok (.iaload, 1) := by decide +kernel
theorem dX6_fits_65 : decode cX6_fits 65 = .ok (.iload 4, 2) := by decide +kernel
theorem dX6_fits_67 : decode cX6_fits 67 = .ok (.if_icmp .eq 53, 3) := by decide +kernel
theorem dX6_fits_70 : decode cX6_fits 70 = .ok (.aload_n 0, 1) := by decide +kernel
theorem dX6_fits_71 : decode cX6_fits 71 = .ok (.iload_n 1, 1) := by decide +kernel
theorem dX6_fits_72 : decode cX6_fits 72 = .ok (.iload_n 3, 1) := by decide +kernel
theorem dX6_fits_73 : decode cX6_fits 73 = .ok (.iload 5, 2) := by decide +kernel
theorem dX6_fits_75 : decode cX6_fits 75 = .ok (.invokevirtual 62, 3) := by decide +kernel
theorem dX6_fits_78 : decode cX6_fits 78 = .ok (.aload_n 0, 1) := by decide +kernel
theorem dX6_fits_79 : decode cX6_fits 79 = .ok (.iload_n 2, 1) := by decide +kernel
theorem dX6_fits_80 : decode cX6_fits 80 = .ok (.iload 4, 2) := by decide +kernel
theorem dX6_fits_82 : decode cX6_fits 82 = .ok (.aload_n 0, 1) := by decide +kernel
theorem dX6_fits_83 : decode cX6_fits 83 = .ok (.getfield 23, 3) := by decide +kernel
theorem dX6_fits_86 : decode cX6_fits 86 = .ok (.iload 5, 2) := by decide +kernel
theorem dX6_fits_88 : decode cX6_fits 88 = .ok (.iaload, 1) := by decide +kernel
theorem dX6_fits_89 : decode cX6_fits 89 = .ok (.invokevirtual 62, 3) := by decide +kernel
theorem dX6_fits_92 : decode cX6_fits 92 = .ok (.if_icmp .ne 28, 3) := by decide +kernel
theorem dX6_fits_95 : decode cX6_fits 95 = .ok (.aload_n 0, 1) := by decide +kernel
theorem dX6_fits_96 : decode cX6_fits 96 = .ok (.iload_n 1, 1) := by decide +kernel
theorem dX6_fits_97 : decode cX6_fits 97 = .ok (.iload 5, 2) := by decide +kernel
theorem dX6_fits_99 : decode cX6_fits 99 = .ok (.iload_n 3, 1) := by decide +kernel
theorem dX6_fits_100 : decode cX6_fits 100 = .ok (.invokevirtual 62, 3) := by decide +kernel
theorem dX6_fits_103 : decode cX6_fits 103 = .ok (.aload_n 0, 1) := by decide +kernel
theorem dX6_fits_104 : decode cX6_fits 104 = .ok (.iload_n 2, 1) := by decide +kernel
theorem dX6_fits_105 : decode cX6_fits 105 = .ok (.aload_n 0, 1) := by decide +kernel
theorem dX6_fits_106 : decode cX6_fits 106 = .ok (.getfield 23, 3) := by decide +kernel
theorem dX6_fits_109 : decode cX6_fits 109 = .ok (.iload 5, 2) := by decide +kernel
theorem dX6_fits_111 : decode cX6_fits 111 = .ok (.iaload, 1) := by decide +kernel
theorem dX6_fits_112 : decode cX6_fits 112 = .ok (.iload 4, 2) := by decide +kernel
theorem dX6_fits_114 : decode cX6_fits 114 = .ok (.invokevirtual 62, 3) := by decide +kernel
theorem dX6_fits_117 : decode cX6_fits 117 = .ok (.if_icmp .eq 5, 3) := by decide +kernel
theorem dX6_fits_120 : decode cX6_fits 120 = .ok (.iconst 0, 1) := by decide +kernel
theorem dX6_fits_121 : decode cX6_fits 121 = .ok (.ireturn, 1) := by decide +kernel
theorem dX6_fits_122 : decode cX6_fits 122 = .ok (.iinc 5 1, 3) := by decide +kernel
theorem dX6_fits_125 : decode cX6_fits 125 = .ok (.goto (-73), 3) := by decide +kernel
theorem dX6_fits_128 : decode cX6_fits 128 = .ok (.iconst 1, 1) := by decide +kernel
theorem dX6_fits_129 : decode cX6_fits 129 = .ok (.ireturn, 1) := by decide +kernel
theorem dX6_search_0 : decode cX6_search 0 = .ok (.iload_n 3, 1) := by decide +kernel
theorem dX6_search_1 : decode cX6_search 1 = .ok (.istore 4, 2) := by decide +kernel
theorem dX6_search_3 : decode cX6_search 3 = .ok (.iload 4, 2) := by decide +kernel
theorem dX6_search_5 : decode cX6_search 5 = .ok (.ifCond .lt 79, 3) := by decide +kernel
theorem dX6_search_8 : decode cX6_search 8 = .ok (.aload_n 0, 1) := by decide +kernel
theorem dX6_search_9 : decode cX6_search 9 = .ok (.getfield 23, 3) := by decide +kernel
theorem dX6_search_12 : decode cX6_search 12 = .ok (.iload 4, 2) := by decide +kernel
theorem dX6_search_14 : decode cX6_search 14 = .ok (.dup2, 1) := by decide +kernel
theorem dX6_search_15 : decode cX6_search 15 = .ok (.iaload, 1) := by decide +kernel
theorem dX6_search_16 : decode cX6_search 16 = .ok (.iconst 1, 1) := by decide +kernel
theorem dX6_search_17 : decode cX6_search 17 = .ok (.iadd, 1) := by decide +kernel
theorem dX6_search_18 : decode cX6_search 18 = .ok (.iastore, 1) := by decide +kernel
theorem dX6_search_19 : decode cX6_search 19 = .ok (.aload_n 0, 1) := by decide +kernel
theorem dX6_search_20 : decode cX6_search 20 = .ok (.getfield 23, 3) := by decide +kernel
theorem dX6_search_23 : decode cX6_search 23 = .ok (.iload 4, 2) := by decide +kernel
theorem dX6_search_25 : decode cX6_search 25 = .ok (.iaload, 1) := by decide +kernel
theorem dX6_search_26 : decode cX6_search 26 = .ok (.aload_n 0, 1) := by decide +kernel
theorem dX6_search_27 : decode cX6_search 27 = .ok (.getfield 7, 3) := by decide +kernel
theorem dX6_search_30 : decode cX6_search 30 = .ok (.if_icmp .lt 9, 3) := by decide +kernel
theorem dX6_search_33 : decode cX6_search 33 = .ok (.iinc 4 (-1), 3) := by decide +kernel
theorem dX6_search_36 : decode cX6_search 36 = .ok (.goto (-33), 3) := by decide +kernel
theorem dX6_search_39 : decode cX6_search 39 = .ok (.aload_n 0, 1) := by decide +kernel
theorem dX6_search_40 : decode cX6_search 40 = .ok (.iload_n 1, 1) := by decide +kernel
theorem dX6_search_41 : decode cX6_search 41 = .ok (.iload_n 2, 1) := by decide +kernel
theorem dX6_search_42 : decode cX6_search 42 = .ok (.iload 4, 2) := by decide +kernel
theorem dX6_search_44 : decode cX6_search 44 = .ok (.aload_n 0, 1) := by decide +kernel
theorem dX6_search_45 : decode cX6_search 45 = .ok (.getfield 23, 3) := by decide +kernel
theorem dX6_search_48 : decode cX6_search 48 = .ok (.iload 4, 2) := by decide +kernel
theorem dX6_search_50 : decode cX6_search 50 = .ok (.iaload, 1) := by decide +kernel
theorem dX6_search_51 : decode cX6_search 51 = .ok (.invokevirtual 86, 3) := by decide +kernel
theorem dX6_search_54 : decode cX6_search 54 = .ok (.ifCond .eq (-51), 3) := by decide +kernel
theorem dX6_search_57 : decode cX6_search 57 = .ok (.iload 4, 2) := by decide +kernel
theorem dX6_search_59 : decode cX6_search 59 = .ok (.aload_n 0, 1) := by decide +kernel
theorem dX6_search_60 : decode cX6_search 60 = .ok (.getfield 7, 3) := by decide +kernel
theorem dX6_search_63 : decode cX6_search 63 = .ok (.iconst 1, 1) := by decide +kernel
theorem dX6_search_64 : decode cX6_search 64 = .ok (.isub, 1) := by decide +kernel
theorem dX6_search_65 : decode cX6_search 65 = .ok (.if_icmp .ne 5, 3) := by decide +kernel
theorem dX6_search_68 : decode cX6_search 68 = .ok (.iconst 1, 1) := by decide +kernel
theorem dX6_search_69 : decode cX6_search 69 = .ok (.ireturn, 1) := by decide +kernel
theorem dX6_search_70 : decode cX6_search 70 = .ok (.iinc 4 1, 3) := by decide +kernel
theorem dX6_search_73 : decode cX6_search 73 = .ok (.aload_n 0, 1) := by decide +kernel
theorem dX6_search_74 : decode cX6_search 74 = .ok (.getfield 23, 3) := by decide +kernel
theorem dX6_search_77 : decode cX6_search 77 = .ok (.iload 4, 2) := by decide +kernel
theorem dX6_search_79 : decode cX6_search 79 = .ok (.iconst (-1), 1) := by decide +kernel
theorem dX6_search_80 : decode cX6_search 80 = .ok (.iastore, 1) := by decide +kernel
theorem dX6_search_81 : decode cX6_search 81 = .ok (.goto (-78), 3) := by decide +kernel
theorem dX6_search_84 : decode cX6_search 84 = .ok (.iconst 0, 1) := by decide +kernel
theorem dX6_search_85 : decode cX6_search 85 = .ok (.ireturn, 1) := by decide +kernel
theorem dX6_free_0 : decode cX6_free 0 = .ok (.iconst 0, 1) := by decide +kernel
theorem dX6_free_1 : decode cX6_free 1 = .ok (.istore_n 1, 1) := by decide +kernel
theorem dX6_free_2 : decode cX6_free 2 = .ok (.iload_n 1, 1) := by decide +kernel
theorem dX6_free_3 : decode cX6_free 3 = .ok (.bipush 9, 2) := by decide +kernel
theorem dX6_free_5 : decode cX6_free 5 = .ok (.if_icmp .ge 16, 3) := by decide +kernel
theorem dX6_free_8 : decode cX6_free 8 = .ok (.aload_n 0, 1) := by decide +kernel
theorem dX6_free_9 : decode cX6_free 9 = .ok (.getfield 26, 3) := by decide +kernel
theorem dX6_free_12 : decode cX6_free 12 = .ok (.iload_n 1, 1) := by decide +kernel
theorem dX6_free_13 : decode cX6_free 13 = .ok (.iconst (-1), 1) := by decide +kernel
theorem dX6_free_14 : decode cX6_free 14 = .ok (.iastore, 1) := by decide +kernel
theorem dX6_free_15 : decode cX6_free 15 = .ok (.iinc 1 1, 3) := by decide +kernel
theorem dX6_free_18 : decode cX6_free 18 = .ok (.goto (-16), 3) := by decide +kernel
theorem dX6_free_21 : decode cX6_free 21 = .ok (.aload_n 0, 1) := by decide +kernel
theorem dX6_free_22 : decode cX6_free 22 = .ok (.getfield 23, 3) := by decide +kernel
theorem dX6_free_25 : decode cX6_free 25 = .ok (.iconst 0, 1) := by decide +kernel
theorem dX6_free_26 : decode cX6_free 26 = .ok (.iconst (-1), 1) := by decide +kernel
theorem dX6_free_27 : decode cX6_free 27 = .ok (.iastore, 1) := by decide +kernel
theorem dX6_free_28 : decode cX6_free 28 = .ok (.return_, 1) := by decide +kernel
theorem dX6_twins_0 : decode cX6_twins 0 = .ok (.aload_n 0, 1) := by decide +kernel
theorem dX6_twins_1 : decode cX6_twins 1 = .ok (.invokevirtual 90, 3) := by decide +kernel
theorem dX6_twins_4 : decode cX6_twins 4 = .ok (.aload_n 0, 1) := by decide +kernel
theorem dX6_twins_5 : decode cX6_twins 5 = .ok (.aload_n 0, 1) := by decide +kernel
theorem dX6_twins_6 : decode cX6_twins 6 = .ok (.iconst 0, 1) := by decide +kernel
theorem dX6_twins_7 : decode cX6_twins 7 = .ok (.iconst 1, 1) := by decide +kernel
theorem dX6_twins_8 : decode cX6_twins 8 = .ok (.iconst 0, 1) := by decide +kernel
theorem dX6_twins_9 : decode cX6_twins 9 = .ok (.invokevirtual 93, 3) := by decide +kernel
theorem dX6_twins_12 : decode cX6_twins 12 = .ok (.putfield 45, 3) := by decide +kernel
theorem dX6_twins_15 : decode cX6_twins 15 = .ok (.aload_n 0, 1) := by decide +kernel
theorem dX6_twins_16 : decode cX6_twins 16 = .ok (.invokevirtual 97, 3) := by decide +kernel
theorem dX6_twins_19 : decode cX6_twins 19 = .ok (.aload_n 0, 1) := by decide +kernel
theorem dX6_twins_20 : decode cX6_twins 20 = .ok (.getfield 45, 3) := by decide +kernel
theorem dX6_twins_23 : decode cX6_twins 23 = .ok (.ifCond .eq 7, 3) := by decide +kernel
theorem dX6_twins_26 : decode cX6_twins 26 = .ok (.iconst 1, 1) := by decide +kernel
theorem dX6_twins_27 : decode cX6_twins 27 = .ok (.goto 4, 3) := by decide +kernel
theorem dX6_twins_30 : decode cX6_twins 30 = .ok (.iconst 0, 1) := by decide +kernel
theorem dX6_twins_31 : decode cX6_twins 31 = .ok (.ireturn, 1) := by decide +kernel
theorem dX6_keep_0 : decode cX6_keep 0 = .ok (.iconst 0, 1) := by decide +kernel
theorem dX6_keep_1 : decode cX6_keep 1 = .ok (.istore_n 1, 1) := by decide +kernel
theorem dX6_keep_2 : decode cX6_keep 2 = .ok (.iload_n 1, 1) := by decide +kernel
theorem dX6_keep_3 : decode cX6_keep 3 = .ok (.aload_n 0, 1) := by decide +kernel
theorem dX6_keep_4 : decode cX6_keep 4 = .ok (.getfield 7, 3) := by decide +kernel
theorem dX6_keep_7 : decode cX6_keep 7 = .ok (.if_icmp .ge 28, 3) := by decide +kernel
theorem dX6_keep_10 : decode cX6_keep 10 = .ok (.aload_n 0, 1) := by decide +kernel
theorem dX6_keep_11 : decode cX6_keep 11 = .ok (.getfield 45, 3) := by decide +kernel
theorem dX6_keep_14 : decode cX6_keep 14 = .ok (.ifCond .eq 21, 3) := by decide +kernel
theorem dX6_keep_17 : decode cX6_keep 17 = .ok (.aload_n 0, 1) := by decide +kernel
theorem dX6_keep_18 : decode cX6_keep 18 = .ok (.getfield 20, 3) := by decide +kernel
theorem dX6_keep_21 : decode cX6_keep 21 = .ok (.iload_n 1, 1) := by decide +kernel
theorem dX6_keep_22 : decode cX6_keep 22 = .ok (.aload_n 0, 1) := by decide +kernel
theorem dX6_keep_23 : decode cX6_keep 23 = .ok (.getfield 23, 3) := by decide +kernel
theorem dX6_keep_26 : decode cX6_keep 26 = .ok (.iload_n 1, 1) := by decide +kernel
theorem dX6_keep_27 : decode cX6_keep 27 = .ok (.iaload, 1) := by decide +kernel
theorem dX6_keep_28 : decode cX6_keep 28 = .ok (.iastore, 1) := by decide +kernel
theorem dX6_keep_29 : decode cX6_keep 29 = .ok (.iinc 1 1, 3) := by decide +kernel
theorem dX6_keep_32 : decode cX6_keep 32 = .ok (.goto (-30), 3) := by decide +kernel
theorem dX6_keep_35 : decode cX6_keep 35 = .ok (.return_, 1) := by decide +kernel
theorem dX6_image_0 : decode cX6_image 0 = .ok (.aload_n 0, 1) := by decide +kernel
theorem dX6_image_1 : decode cX6_image 1 = .ok (.iload_n 1, 1) := by decide +kernel
theorem dX6_image_2 : decode cX6_image 2 = .ok (.invokevirtual 59, 3) := by decide +kernel
theorem dX6_image_5 : decode cX6_image 5 = .ok (.ifCond .eq 19, 3) := by decide +kernel
theorem dX6_image_8 : decode cX6_image 8 = .ok (.aload_n 0, 1) := by decide +kernel
theorem dX6_image_9 : decode cX6_image 9 = .ok (.getfield 45, 3) := by decide +kernel
theorem dX6_image_12 : decode cX6_image 12 = .ok (.ifCond .eq 12, 3) := by decide +kernel
theorem dX6_image_15 : decode cX6_image 15 = .ok (.aload_n 0, 1) := by decide +kernel
theorem dX6_image_16 : decode cX6_image 16 = .ok (.getfield 20, 3) := by decide +kernel
theorem dX6_image_19 : decode cX6_image 19 = .ok (.iload_n 1, 1) := by decide +kernel
theorem dX6_image_20 : decode cX6_image 20 = .ok (.iaload, 1) := by decide +kernel
theorem dX6_image_21 : decode cX6_image 21 = .ok (.goto 4, 3) := by decide +kernel
theorem dX6_image_24 : decode cX6_image 24 = .ok (.iconst (-1), 1) := by decide +kernel
theorem dX6_image_25 : decode cX6_image 25 = .ok (.ireturn, 1) := by decide +kernel
theorem dX6_next_0 : decode cX6_next 0 = .ok (.aload_n 0, 1) := by decide +kernel
theorem dX6_next_1 : decode cX6_next 1 = .ok (.getfield 45, 3) := by decide +kernel
theorem dX6_next_4 : decode cX6_next 4 = .ok (.ifCond .ne 5, 3) := by decide +kernel
theorem dX6_next_7 : decode cX6_next 7 = .ok (.iconst (-1), 1) := by decide +kernel
theorem dX6_next_8 : decode cX6_next 8 = .ok (.ireturn, 1) := by decide +kernel
theorem dX6_next_9 : decode cX6_next 9 = .ok (.aload_n 0, 1) := by decide +kernel
theorem dX6_next_10 : decode cX6_next 10 = .ok (.invokevirtual 90, 3) := by decide +kernel
theorem dX6_next_13 : decode cX6_next 13 = .ok (.iconst 0, 1) := by decide +kernel
theorem dX6_next_14 : decode cX6_next 14 = .ok (.istore_n 1, 1) := by decide +kernel
theorem dX6_next_15 : decode cX6_next 15 = .ok (.iload_n 1, 1) := by decide +kernel
theorem dX6_next_16 : decode cX6_next 16 = .ok (.aload_n 0, 1) := by decide +kernel
theorem dX6_next_17 : decode cX6_next 17 = .ok (.getfield 7, 3) := by decide +kernel
theorem dX6_next_20 : decode cX6_next 20 = .ok (.if_icmp .ge 21, 3) := by decide +kernel
theorem dX6_next_23 : decode cX6_next 23 = .ok (.aload_n 0, 1) := by decide +kernel
theorem dX6_next_24 : decode cX6_next 24 = .ok (.getfield 23, 3) := by decide +kernel
theorem dX6_next_27 : decode cX6_next 27 = .ok (.iload_n 1, 1) := by decide +kernel
theorem dX6_next_28 : decode cX6_next 28 = .ok (.aload_n 0, 1) := by decide +kernel
theorem dX6_next_29 : decode cX6_next 29 = .ok (.getfield 20, 3) := by decide +kernel
theorem dX6_next_32 : decode cX6_next 32 = .ok (.iload_n 1, 1) := by decide +kernel
theorem dX6_next_33 : decode cX6_next 33 = .ok (.iaload, 1) := by decide +kernel
theorem dX6_next_34 : decode cX6_next 34 = .ok (.iastore, 1) := by decide +kernel
theorem dX6_next_35 : decode cX6_next 35 = .ok (.iinc 1 1, 3) := by decide +kernel
theorem dX6_next_38 : decode cX6_next 38 = .ok (.goto (-23), 3) := by decide +kernel
theorem dX6_next_41 : decode cX6_next 41 = .ok (.aload_n 0, 1) := by decide +kernel
theorem dX6_next_42 : decode cX6_next 42 = .ok (.aload_n 0, 1) := by decide +kernel
theorem dX6_next_43 : decode cX6_next 43 = .ok (.iconst 0, 1) := by decide +kernel
theorem dX6_next_44 : decode cX6_next 44 = .ok (.iconst 1, 1) := by decide +kernel
theorem dX6_next_45 : decode cX6_next 45 = .ok (.aload_n 0, 1) := by decide +kernel
theorem dX6_next_46 : decode cX6_next 46 = .ok (.getfield 7, 3) := by decide +kernel
theorem dX6_next_49 : decode cX6_next 49 = .ok (.iconst 1, 1) := by decide +kernel
theorem dX6_next_50 : decode cX6_next 50 = .ok (.isub, 1) := by decide +kernel
theorem dX6_next_51 : decode cX6_next 51 = .ok (.invokevirtual 93, 3) := by decide +kernel
theorem dX6_next_54 : decode cX6_next 54 = .ok (.putfield 45, 3) := by decide +kernel
theorem dX6_next_57 : decode cX6_next 57 = .ok (.aload_n 0, 1) := by decide +kernel
theorem dX6_next_58 : decode cX6_next 58 = .ok (.invokevirtual 97, 3) := by decide +kernel
theorem dX6_next_61 : decode cX6_next 61 = .ok (.aload_n 0, 1) := by decide +kernel
theorem dX6_next_62 : decode cX6_next 62 = .ok (.getfield 45, 3) := by decide +kernel
theorem dX6_next_65 : decode cX6_next 65 = .ok (.ifCond .eq 7, 3) := by decide +kernel
theorem dX6_next_68 : decode cX6_next 68 = .ok (.iconst 1, 1) := by decide +kernel
theorem dX6_next_69 : decode cX6_next 69 = .ok (.goto 4, 3) := by decide +kernel
theorem dX6_next_72 : decode cX6_next 72 = .ok (.iconst 0, 1) := by decide +kernel
theorem dX6_next_73 : decode cX6_next 73 = .ok (.ireturn, 1) := by decide +kernel
theorem dX6_symmetries_0 : decode cX6_symmetries 0 = .ok (.iload_n 1, 1) := by decide +kernel
theorem dX6_symmetries_1 : decode cX6_symmetries 1 = .ok (.invokestatic 55, 3) := by decide +kernel
theorem dX6_symmetries_4 : decode cX6_symmetries 4 = .ok (.ifCond .ne 5, 3) := by decide +kernel
theorem dX6_symmetries_7 : decode cX6_symmetries 7 = .ok (.iconst (-1), 1) := by decide +kernel
theorem dX6_symmetries_8 : decode cX6_symmetries 8 = .ok (.ireturn, 1) := by decide +kernel
theorem dX6_symmetries_9 : decode cX6_symmetries 9 = .ok (.aload_n 0, 1) := by decide +kernel
theorem dX6_symmetries_10 : decode cX6_symmetries 10 = .ok (.invokevirtual 90, 3) := by decide +kernel
theorem dX6_symmetries_13 : decode cX6_symmetries 13 = .ok (.iconst 0, 1) := by decide +kernel
theorem dX6_symmetries_14 : decode cX6_symmetries 14 = .ok (.istore_n 2, 1) := by decide +kernel
theorem dX6_symmetries_15 : decode cX6_symmetries 15 = .ok (.aload_n 0, 1) := by decide +kernel
theorem dX6_symmetries_16 : decode cX6_symmetries 16 = .ok (.iload_n 1, 1) := by decide +kernel
theorem dX6_symmetries_17 : decode cX6_symmetries 17 = .ok (.iload_n 1, 1) := by decide +kernel
theorem dX6_symmetries_18 : decode cX6_symmetries 18 = .ok (.iconst 0, 1) := by decide +kernel
theorem dX6_symmetries_19 : decode cX6_symmetries 19 = .ok (.invokevirtual 93, 3) := by decide +kernel
theorem dX6_symmetries_22 : decode cX6_symmetries 22 = .ok (.istore_n 3, 1) := by decide +kernel
theorem dX6_symmetries_23 : decode cX6_symmetries 23 = .ok (.iload_n 3, 1) := by decide +kernel
theorem dX6_symmetries_24 : decode cX6_symmetries 24 = .ok (.ifCond .eq 22, 3) := by decide +kernel
theorem dX6_symmetries_27 : decode cX6_symmetries 27 = .ok (.iinc 2 1, 3) := by decide +kernel
theorem dX6_symmetries_30 : decode cX6_symmetries 30 = .ok (.aload_n 0, 1) := by decide +kernel
theorem dX6_symmetries_31 : decode cX6_symmetries 31 = .ok (.iload_n 1, 1) := by decide +kernel
theorem dX6_symmetries_32 : decode cX6_symmetries 32 = .ok (.iload_n 1, 1) := by decide +kernel
theorem dX6_symmetries_33 : decode cX6_symmetries 33 = .ok (.aload_n 0, 1) := by decide +kernel
theorem dX6_symmetries_34 : decode cX6_symmetries 34 = .ok (.getfield 7, 3) := by decide +kernel
theorem dX6_symmetries_37 : decode cX6_symmetries 37 = .ok (.iconst 1, 1) := by decide +kernel
theorem dX6_symmetries_38 : decode cX6_symmetries 38 = .ok (.isub, 1) := by decide +kernel
theorem dX6_symmetries_39 : decode cX6_symmetries 39 = .ok (.invokevirtual 93, 3) := by decide +kernel
theorem dX6_symmetries_42 : decode cX6_symmetries 42 = .ok (.istore_n 3, 1) := by decide +kernel
theorem dX6_symmetries_43 : decode cX6_symmetries 43 = .ok (.goto (-20), 3) := by decide +kernel
theorem dX6_symmetries_46 : decode cX6_symmetries 46 = .ok (.iload_n 2, 1) := by decide +kernel
theorem dX6_symmetries_47 : decode cX6_symmetries 47 = .ok (.ireturn, 1) := by decide +kernel
theorem dX6_orbit_0 : decode cX6_orbit 0 = .ok (.iload_n 1, 1) := by decide +kernel
theorem dX6_orbit_1 : decode cX6_orbit 1 = .ok (.invokestatic 55, 3) := by decide +kernel
theorem dX6_orbit_4 : decode cX6_orbit 4 = .ok (.ifCond .eq 11, 3) := by decide +kernel
theorem dX6_orbit_7 : decode cX6_orbit 7 = .ok (.aload_n 0, 1) := by decide +kernel
theorem dX6_orbit_8 : decode cX6_orbit 8 = .ok (.iload_n 2, 1) := by decide +kernel
theorem dX6_orbit_9 : decode cX6_orbit 9 = .ok (.invokevirtual 59, 3) := by decide +kernel
theorem dX6_orbit_12 : decode cX6_orbit 12 = .ok (.ifCond .ne 5, 3) := by decide +kernel
theorem dX6_orbit_15 : decode cX6_orbit 15 = .ok (.iconst (-1), 1) := by decide +kernel
theorem dX6_orbit_16 : decode cX6_orbit 16 = .ok (.ireturn, 1) := by decide +kernel
theorem dX6_orbit_17 : decode cX6_orbit 17 = .ok (.iconst 0, 1) := by decide +kernel
theorem dX6_orbit_18 : decode cX6_orbit 18 = .ok (.istore_n 3, 1) := by decide +kernel
theorem dX6_orbit_19 : decode cX6_orbit 19 = .ok (.iload_n 3, 1) := by decide +kernel
theorem dX6_orbit_20 : decode cX6_orbit 20 = .ok (.iload_n 2, 1) := by decide +kernel
theorem dX6_orbit_21 : decode cX6_orbit 21 = .ok (.if_icmp .ge 32, 3) := by decide +kernel
theorem dX6_orbit_24 : decode cX6_orbit 24 = .ok (.aload_n 0, 1) := by decide +kernel
theorem dX6_orbit_25 : decode cX6_orbit 25 = .ok (.invokevirtual 90, 3) := by decide +kernel
theorem dX6_orbit_28 : decode cX6_orbit 28 = .ok (.aload_n 0, 1) := by decide +kernel
theorem dX6_orbit_29 : decode cX6_orbit 29 = .ok (.getfield 26, 3) := by decide +kernel
theorem dX6_orbit_32 : decode cX6_orbit 32 = .ok (.iload_n 2, 1) := by decide +kernel
theorem dX6_orbit_33 : decode cX6_orbit 33 = .ok (.iload_n 3, 1) := by decide +kernel
theorem dX6_orbit_34 : decode cX6_orbit 34 = .ok (.iastore, 1) := by decide +kernel
theorem dX6_orbit_35 : decode cX6_orbit 35 = .ok (.aload_n 0, 1) := by decide +kernel
theorem dX6_orbit_36 : decode cX6_orbit 36 = .ok (.iload_n 1, 1) := by decide +kernel
theorem dX6_orbit_37 : decode cX6_orbit 37 = .ok (.iload_n 1, 1) := by decide +kernel
theorem dX6_orbit_38 : decode cX6_orbit 38 = .ok (.iconst 0, 1) := by decide +kernel
theorem dX6_orbit_39 : decode cX6_orbit 39 = .ok (.invokevirtual 93, 3) := by decide +kernel
theorem dX6_orbit_42 : decode cX6_orbit 42 = .ok (.ifCond .eq 5, 3) := by decide +kernel
theorem dX6_orbit_45 : decode cX6_orbit 45 = .ok (.iload_n 3, 1) := by decide +kernel
theorem dX6_orbit_46 : decode cX6_orbit 46 = .ok (.ireturn, 1) := by decide +kernel
theorem dX6_orbit_47 : decode cX6_orbit 47 = .ok (.iinc 3 1, 3) := by decide +kernel
theorem dX6_orbit_50 : decode cX6_orbit 50 = .ok (.goto (-31), 3) := by decide +kernel
theorem dX6_orbit_53 : decode cX6_orbit 53 = .ok (.iload_n 2, 1) := by decide +kernel
theorem dX6_orbit_54 : decode cX6_orbit 54 = .ok (.ireturn, 1) := by decide +kernel
theorem dX6_sizeOf_0 : decode cX6_sizeOf 0 = .ok (.iload_n 0, 1) := by decide +kernel
theorem dX6_sizeOf_1 : decode cX6_sizeOf 1 = .ok (.iload_n 0, 1) := by decide +kernel
theorem dX6_sizeOf_2 : decode cX6_sizeOf 2 = .ok (.imul, 1) := by decide +kernel
theorem dX6_sizeOf_3 : decode cX6_sizeOf 3 = .ok (.ireturn, 1) := by decide +kernel
theorem dX6_write_0 : decode cX6_write 0 = .ok (.aload_n 0, 1) := by decide +kernel
theorem dX6_write_1 : decode cX6_write 1 = .ok (.getfield 29, 3) := by decide +kernel
theorem dX6_write_4 : decode cX6_write 4 = .ok (.iload_n 1, 1) := by decide +kernel
theorem dX6_write_5 : decode cX6_write 5 = .ok (.baload, 1) := by decide +kernel
theorem dX6_write_6 : decode cX6_write 6 = .ok (.ifCond .eq 4, 3) := by decide +kernel
theorem dX6_write_9 : decode cX6_write 9 = .ok (.return_, 1) := by decide +kernel
theorem dX6_write_10 : decode cX6_write 10 = .ok (.aload_n 0, 1) := by decide +kernel
theorem dX6_write_11 : decode cX6_write 11 = .ok (.getfield 29, 3) := by decide +kernel
theorem dX6_write_14 : decode cX6_write 14 = .ok (.iload_n 1, 1) := by decide +kernel
theorem dX6_write_15 : decode cX6_write 15 = .ok (.iconst 1, 1) := by decide +kernel
theorem dX6_write_16 : decode cX6_write 16 = .ok (.bastore, 1) := by decide +kernel
theorem dX6_write_17 : decode cX6_write 17 = .ok (.iconst 1, 1) := by decide +kernel
theorem dX6_write_18 : decode cX6_write 18 = .ok (.istore_n 2, 1) := by decide +kernel
theorem dX6_write_19 : decode cX6_write 19 = .ok (.iconst 0, 1) := by decide +kernel
theorem dX6_write_20 : decode cX6_write 20 = .ok (.istore_n 3, 1) := by decide +kernel
theorem dX6_write_21 : decode cX6_write 21 = .ok (.aload_n 0, 1) := by decide +kernel
theorem dX6_write_22 : decode cX6_write 22 = .ok (.getfield 23, 3) := by decide +kernel
theorem dX6_write_25 : decode cX6_write 25 = .ok (.iconst 0, 1) := by decide +kernel
theorem dX6_write_26 : decode cX6_write 26 = .ok (.iconst (-1), 1) := by decide +kernel
theorem dX6_write_27 : decode cX6_write 27 = .ok (.iastore, 1) := by decide +kernel
theorem dX6_write_28 : decode cX6_write 28 = .ok (.iload_n 3, 1) := by decide +kernel
theorem dX6_write_29 : decode cX6_write 29 = .ok (.ifCond .lt 147, 3) := by decide +kernel
theorem dX6_write_32 : decode cX6_write 32 = .ok (.aload_n 0, 1) := by decide +kernel
theorem dX6_write_33 : decode cX6_write 33 = .ok (.getfield 23, 3) := by decide +kernel
theorem dX6_write_36 : decode cX6_write 36 = .ok (.iload_n 3, 1) := by decide +kernel
theorem dX6_write_37 : decode cX6_write 37 = .ok (.dup2, 1) := by decide +kernel
theorem dX6_write_38 : decode cX6_write 38 = .ok (.iaload, 1) := by decide +kernel
theorem dX6_write_39 : decode cX6_write 39 = .ok (.iconst 1, 1) := by decide +kernel
theorem dX6_write_40 : decode cX6_write 40 = .ok (.iadd, 1) := by decide +kernel
theorem dX6_write_41 : decode cX6_write 41 = .ok (.iastore, 1) := by decide +kernel
theorem dX6_write_42 : decode cX6_write 42 = .ok (.aload_n 0, 1) := by decide +kernel
theorem dX6_write_43 : decode cX6_write 43 = .ok (.getfield 23, 3) := by decide +kernel
theorem dX6_write_46 : decode cX6_write 46 = .ok (.iload_n 3, 1) := by decide +kernel
theorem dX6_write_47 : decode cX6_write 47 = .ok (.iaload, 1) := by decide +kernel
theorem dX6_write_48 : decode cX6_write 48 = .ok (.aload_n 0, 1) := by decide +kernel
theorem dX6_write_49 : decode cX6_write 49 = .ok (.getfield 7, 3) := by decide +kernel
theorem dX6_write_52 : decode cX6_write 52 = .ok (.if_icmp .lt 9, 3) := by decide +kernel
theorem dX6_write_55 : decode cX6_write 55 = .ok (.iinc 3 (-1), 3) := by decide +kernel
theorem dX6_write_58 : decode cX6_write 58 = .ok (.goto (-30), 3) := by decide +kernel
theorem dX6_write_61 : decode cX6_write 61 = .ok (.aload_n 0, 1) := by decide +kernel
theorem dX6_write_62 : decode cX6_write 62 = .ok (.iload_n 3, 1) := by decide +kernel
theorem dX6_write_63 : decode cX6_write 63 = .ok (.invokevirtual 100, 3) := by decide +kernel
theorem dX6_write_66 : decode cX6_write 66 = .ok (.ifCond .eq (-38), 3) := by decide +kernel
theorem dX6_write_69 : decode cX6_write 69 = .ok (.aload_n 0, 1) := by decide +kernel
theorem dX6_write_70 : decode cX6_write 70 = .ok (.iload_n 1, 1) := by decide +kernel
theorem dX6_write_71 : decode cX6_write 71 = .ok (.iload_n 3, 1) := by decide +kernel
theorem dX6_write_72 : decode cX6_write 72 = .ok (.invokevirtual 103, 3) := by decide +kernel
theorem dX6_write_75 : decode cX6_write 75 = .ok (.iload_n 2, 1) := by decide +kernel
theorem dX6_write_76 : decode cX6_write 76 = .ok (.ifCond .eq 7, 3) := by decide +kernel
theorem dX6_write_79 : decode cX6_write 79 = .ok (.iconst (-1), 1) := by decide +kernel
theorem dX6_write_80 : decode cX6_write 80 = .ok (.goto 14, 3) := by decide +kernel
theorem dX6_write_83 : decode cX6_write 83 = .ok (.aload_n 0, 1) := by decide +kernel
theorem dX6_write_84 : decode cX6_write 84 = .ok (.iload_n 1, 1) := by decide +kernel
theorem dX6_write_85 : decode cX6_write 85 = .ok (.iload_n 3, 1) := by decide +kernel
theorem dX6_write_86 : decode cX6_write 86 = .ok (.iconst 1, 1) := by decide +kernel
theorem dX6_write_87 : decode cX6_write 87 = .ok (.iadd, 1) := by decide +kernel
theorem dX6_write_88 : decode cX6_write 88 = .ok (.invokestatic 107, 3) := by decide +kernel
theorem dX6_write_91 : decode cX6_write 91 = .ok (.invokevirtual 111, 3) := by decide +kernel
theorem dX6_write_94 : decode cX6_write 94 = .ok (.istore 4, 2) := by decide +kernel
theorem dX6_write_96 : decode cX6_write 96 = .ok (.iload 4, 2) := by decide +kernel
theorem dX6_write_98 : decode cX6_write 98 = .ok (.ifCond .gt 26, 3) := by decide +kernel
theorem dX6_write_101 : decode cX6_write 101 = .ok (.iload_n 3, 1) := by decide +kernel
theorem dX6_write_102 : decode cX6_write 102 = .ok (.aload_n 0, 1) := by decide +kernel
theorem dX6_write_103 : decode cX6_write 103 = .ok (.getfield 7, 3) := by decide +kernel
theorem dX6_write_106 : decode cX6_write 106 = .ok (.iconst 1, 1) := by decide +kernel
theorem dX6_write_107 : decode cX6_write 107 = .ok (.isub, 1) := by decide +kernel
theorem dX6_write_108 : decode cX6_write 108 = .ok (.if_icmp .ge 16, 3) := by decide +kernel
theorem dX6_write_111 : decode cX6_write 111 = .ok (.iinc 3 1, 3) := by decide +kernel
theorem dX6_write_114 : decode cX6_write 114 = .ok (.aload_n 0, 1) := by decide +kernel
theorem dX6_write_115 : decode cX6_write 115 = .ok (.getfield 23, 3) := by decide +kernel
theorem dX6_write_118 : decode cX6_write 118 = .ok (.iload_n 3, 1) := by decide +kernel
theorem dX6_write_119 : decode cX6_write 119 = .ok (.iconst (-1), 1) := by decide +kernel
theorem dX6_write_120 : decode cX6_write 120 = .ok (.iastore, 1) := by decide +kernel
theorem dX6_write_121 : decode cX6_write 121 = .ok (.goto 52, 3) := by decide +kernel
theorem dX6_write_124 : decode cX6_write 124 = .ok (.iload 4, 2) := by decide +kernel
theorem dX6_write_126 : decode cX6_write 126 = .ok (.ifCond .ge 47, 3) := by decide +kernel
theorem dX6_write_129 : decode cX6_write 129 = .ok (.iconst 0, 1) := by decide +kernel
theorem dX6_write_130 : decode cX6_write 130 = .ok (.istore_n 2, 1) := by decide +kernel
theorem dX6_write_131 : decode cX6_write 131 = .ok (.iconst 0, 1) := by decide +kernel
theorem dX6_write_132 : decode cX6_write 132 = .ok (.istore 5, 2) := by decide +kernel
theorem dX6_write_134 : decode cX6_write 134 = .ok (.iload 5, 2) := by decide +kernel
theorem dX6_write_136 : decode cX6_write 136 = .ok (.aload_n 0, 1) := by decide +kernel
theorem dX6_write_137 : decode cX6_write 137 = .ok (.getfield 7, 3) := by decide +kernel
theorem dX6_write_140 : decode cX6_write 140 = .ok (.aload_n 0, 1) := by decide +kernel
theorem dX6_write_141 : decode cX6_write 141 = .ok (.getfield 7, 3) := by decide +kernel
theorem dX6_write_144 : decode cX6_write 144 = .ok (.imul, 1) := by decide +kernel
theorem dX6_write_145 : decode cX6_write 145 = .ok (.if_icmp .ge 28, 3) := by decide +kernel
theorem dX6_write_148 : decode cX6_write 148 = .ok (.aload_n 0, 1) := by decide +kernel
theorem dX6_write_149 : decode cX6_write 149 = .ok (.getfield 33, 3) := by decide +kernel
theorem dX6_write_152 : decode cX6_write 152 = .ok (.bipush 81, 2) := by decide +kernel
theorem dX6_write_154 : decode cX6_write 154 = .ok (.iload_n 1, 1) := by decide +kernel
theorem dX6_write_155 : decode cX6_write 155 = .ok (.imul, 1) := by decide +kernel
theorem dX6_write_156 : decode cX6_write 156 = .ok (.iload 5, 2) := by decide +kernel
theorem dX6_write_158 : decode cX6_write 158 = .ok (.iadd, 1) := by decide +kernel
theorem dX6_write_159 : decode cX6_write 159 = .ok (.aload_n 0, 1) := by decide +kernel
theorem dX6_write_160 : decode cX6_write 160 = .ok (.getfield 36, 3) := by decide +kernel
theorem dX6_write_163 : decode cX6_write 163 = .ok (.iload 5, 2) := by decide +kernel
theorem dX6_write_165 : decode cX6_write 165 = .ok (.iaload, 1) := by decide +kernel
theorem dX6_write_166 : decode cX6_write 166 = .ok (.iastore, 1) := by decide +kernel
theorem dX6_write_167 : decode cX6_write 167 = .ok (.iinc 5 1, 3) := by decide +kernel
theorem dX6_write_170 : decode cX6_write 170 = .ok (.goto (-36), 3) := by decide +kernel
theorem dX6_write_173 : decode cX6_write 173 = .ok (.goto (-145), 3) := by decide +kernel
theorem dX6_write_176 : decode cX6_write 176 = .ok (.return_, 1) := by decide +kernel
theorem dX6_isUnused_0 : decode cX6_isUnused 0 = .ok (.iconst 0, 1) := by decide +kernel
theorem dX6_isUnused_1 : decode cX6_isUnused 1 = .ok (.istore_n 2, 1) := by decide +kernel
theorem dX6_isUnused_2 : decode cX6_isUnused 2 = .ok (.iload_n 2, 1) := by decide +kernel
theorem dX6_isUnused_3 : decode cX6_isUnused 3 = .ok (.iload_n 1, 1) := by decide +kernel
theorem dX6_isUnused_4 : decode cX6_isUnused 4 = .ok (.if_icmp .ge 26, 3) := by decide +kernel
theorem dX6_isUnused_7 : decode cX6_isUnused 7 = .ok (.aload_n 0, 1) := by decide +kernel
theorem dX6_isUnused_8 : decode cX6_isUnused 8 = .ok (.getfield 23, 3) := by decide +kernel
theorem dX6_isUnused_11 : decode cX6_isUnused 11 = .ok (.iload_n 2, 1) := by decide +kernel
theorem dX6_isUnused_12 : decode cX6_isUnused 12 = .ok (.iaload, 1) := by decide +kernel
theorem dX6_isUnused_13 : decode cX6_isUnused 13 = .ok (.aload_n 0, 1) := by decide +kernel
theorem dX6_isUnused_14 : decode cX6_isUnused 14 = .ok (.getfield 23, 3) := by decide +kernel
theorem dX6_isUnused_17 : decode cX6_isUnused 17 = .ok (.iload_n 1, 1) := by decide +kernel
theorem dX6_isUnused_18 : decode cX6_isUnused 18 = .ok (.iaload, 1) := by decide +kernel
theorem dX6_isUnused_19 : decode cX6_isUnused 19 = .ok (.if_icmp .ne 5, 3) := by decide +kernel
theorem dX6_isUnused_22 : decode cX6_isUnused 22 = .ok (.iconst 0, 1) := by decide +kernel
theorem dX6_isUnused_23 : decode cX6_isUnused 23 = .ok (.ireturn, 1) := by decide +kernel
theorem dX6_isUnused_24 : decode cX6_isUnused 24 = .ok (.iinc 2 1, 3) := by decide +kernel
theorem dX6_isUnused_27 : decode cX6_isUnused 27 = .ok (.goto (-25), 3) := by decide +kernel
theorem dX6_isUnused_30 : decode cX6_isUnused 30 = .ok (.iconst 1, 1) := by decide +kernel
theorem dX6_isUnused_31 : decode cX6_isUnused 31 = .ok (.ireturn, 1) := by decide +kernel
theorem dX6_part_0 : decode cX6_part 0 = .ok (.iload_n 2, 1) := by decide +kernel
theorem dX6_part_1 : decode cX6_part 1 = .ok (.invokestatic 107, 3) := by decide +kernel
theorem dX6_part_4 : decode cX6_part 4 = .ok (.istore_n 3, 1) := by decide +kernel
theorem dX6_part_5 : decode cX6_part 5 = .ok (.aload_n 0, 1) := by decide +kernel
theorem dX6_part_6 : decode cX6_part 6 = .ok (.getfield 36, 3) := by decide +kernel
theorem dX6_part_9 : decode cX6_part 9 = .ok (.iload_n 3, 1) := by decide +kernel
theorem dX6_part_10 : decode cX6_part 10 = .ok (.aload_n 0, 1) := by decide +kernel
theorem dX6_part_11 : decode cX6_part 11 = .ok (.getfield 17, 3) := by decide +kernel
theorem dX6_part_14 : decode cX6_part 14 = .ok (.bipush 9, 2) := by decide +kernel
theorem dX6_part_16 : decode cX6_part 16 = .ok (.iload_n 1, 1) := by decide +kernel
theorem dX6_part_17 : decode cX6_part 17 = .ok (.imul, 1) := by decide +kernel
theorem dX6_part_18 : decode cX6_part 18 = .ok (.aload_n 0, 1) := by decide +kernel
theorem dX6_part_19 : decode cX6_part 19 = .ok (.getfield 23, 3) := by decide +kernel
theorem dX6_part_22 : decode cX6_part 22 = .ok (.iload_n 2, 1) := by decide +kernel
theorem dX6_part_23 : decode cX6_part 23 = .ok (.iaload, 1) := by decide +kernel
theorem dX6_part_24 : decode cX6_part 24 = .ok (.iadd, 1) := by decide +kernel
theorem dX6_part_25 : decode cX6_part 25 = .ok (.iaload, 1) := by decide +kernel
theorem dX6_part_26 : decode cX6_part 26 = .ok (.iastore, 1) := by decide +kernel
theorem dX6_part_27 : decode cX6_part 27 = .ok (.iconst 0, 1) := by decide +kernel
theorem dX6_part_28 : decode cX6_part 28 = .ok (.istore 4, 2) := by decide +kernel
theorem dX6_part_30 : decode cX6_part 30 = .ok (.iload 4, 2) := by decide +kernel
theorem dX6_part_32 : decode cX6_part 32 = .ok (.iload_n 2, 1) := by decide +kernel
theorem dX6_part_33 : decode cX6_part 33 = .ok (.if_icmp .ge 71, 3) := by decide +kernel
theorem dX6_part_36 : decode cX6_part 36 = .ok (.aload_n 0, 1) := by decide +kernel
theorem dX6_part_37 : decode cX6_part 37 = .ok (.getfield 36, 3) := by decide +kernel
theorem dX6_part_40 : decode cX6_part 40 = .ok (.iload_n 3, 1) := by decide +kernel
theorem dX6_part_41 : decode cX6_part 41 = .ok (.iconst 1, 1) := by decide +kernel
theorem dX6_part_42 : decode cX6_part 42 = .ok (.iadd, 1) := by decide +kernel
theorem dX6_part_43 : decode cX6_part 43 = .ok (.iconst 2, 1) := by decide +kernel
theorem dX6_part_44 : decode cX6_part 44 = .ok (.iload 4, 2) := by decide +kernel
theorem dX6_part_46 : decode cX6_part 46 = .ok (.imul, 1) := by decide +kernel
theorem dX6_part_47 : decode cX6_part 47 = .ok (.iadd, 1) := by decide +kernel
theorem dX6_part_48 : decode cX6_part 48 = .ok (.aload_n 0, 1) := by decide +kernel
theorem dX6_part_49 : decode cX6_part 49 = .ok (.iload_n 1, 1) := by decide +kernel
theorem dX6_part_50 : decode cX6_part 50 = .ok (.aload_n 0, 1) := by decide +kernel
theorem dX6_part_51 : decode cX6_part 51 = .ok (.getfield 23, 3) := by decide +kernel
theorem dX6_part_54 : decode cX6_part 54 = .ok (.iload_n 2, 1) := by decide +kernel
theorem dX6_part_55 : decode cX6_part 55 = .ok (.iaload, 1) := by decide +kernel
theorem dX6_part_56 : decode cX6_part 56 = .ok (.aload_n 0, 1) := by decide +kernel
theorem dX6_part_57 : decode cX6_part 57 = .ok (.getfield 23, 3) := by decide +kernel
theorem dX6_part_60 : decode cX6_part 60 = .ok (.iload 4, 2) := by decide +kernel
theorem dX6_part_62 : decode cX6_part 62 = .ok (.iaload, 1) := by decide +kernel
theorem dX6_part_63 : decode cX6_part 63 = .ok (.invokevirtual 62, 3) := by decide +kernel
theorem dX6_part_66 : decode cX6_part 66 = .ok (.iastore, 1) := by decide +kernel
theorem dX6_part_67 : decode cX6_part 67 = .ok (.aload_n 0, 1) := by decide +kernel
theorem dX6_part_68 : decode cX6_part 68 = .ok (.getfield 36, 3) := by decide +kernel
theorem dX6_part_71 : decode cX6_part 71 = .ok (.iload_n 3, 1) := by decide +kernel
theorem dX6_part_72 : decode cX6_part 72 = .ok (.iconst 2, 1) := by decide +kernel
theorem dX6_part_73 : decode cX6_part 73 = .ok (.iadd, 1) := by decide +kernel
theorem dX6_part_74 : decode cX6_part 74 = .ok (.iconst 2, 1) := by decide +kernel
theorem dX6_part_75 : decode cX6_part 75 = .ok (.iload 4, 2) := by decide +kernel
theorem dX6_part_77 : decode cX6_part 77 = .ok (.imul, 1) := by decide +kernel
theorem dX6_part_78 : decode cX6_part 78 = .ok (.iadd, 1) := by decide +kernel
theorem dX6_part_79 : decode cX6_part 79 = .ok (.aload_n 0, 1) := by decide +kernel
theorem dX6_part_80 : decode cX6_part 80 = .ok (.iload_n 1, 1) := by decide +kernel
theorem dX6_part_81 : decode cX6_part 81 = .ok (.aload_n 0, 1) := by decide +kernel
theorem dX6_part_82 : decode cX6_part 82 = .ok (.getfield 23, 3) := by decide +kernel
theorem dX6_part_85 : decode cX6_part 85 = .ok (.iload 4, 2) := by decide +kernel
theorem dX6_part_87 : decode cX6_part 87 = .ok (.iaload, 1) := by decide +kernel
theorem dX6_part_88 : decode cX6_part 88 = .ok (.aload_n 0, 1) := by decide +kernel
theorem dX6_part_89 : decode cX6_part 89 = .ok (.getfield 23, 3) := by decide +kernel
theorem dX6_part_92 : decode cX6_part 92 = .ok (.iload_n 2, 1) := by decide +kernel
theorem dX6_part_93 : decode cX6_part 93 = .ok (.iaload, 1) := by decide +kernel
theorem dX6_part_94 : decode cX6_part 94 = .ok (.invokevirtual 62, 3) := by decide +kernel
theorem dX6_part_97 : decode cX6_part 97 = .ok (.iastore, 1) := by decide +kernel
theorem dX6_part_98 : decode cX6_part 98 = .ok (.iinc 4 1, 3) := by decide +kernel
theorem dX6_part_101 : decode cX6_part 101 = .ok (.goto (-71), 3) := by decide +kernel
theorem dX6_part_104 : decode cX6_part 104 = .ok (.return_, 1) := by decide +kernel
theorem dX6_compareRows_0 : decode cX6_compareRows 0 = .ok (.iconst 0, 1) := by decide +kernel
theorem dX6_compareRows_1 : decode cX6_compareRows 1 = .ok (.istore_n 3, 1) := by decide +kernel
theorem dX6_compareRows_2 : decode cX6_compareRows 2 = .ok (.iload_n 3, 1) := by decide +kernel
theorem dX6_compareRows_3 : decode cX6_compareRows 3 = .ok (.iload_n 2, 1) := by decide +kernel
theorem dX6_compareRows_4 : decode cX6_compareRows 4 = .ok (.if_icmp .ge 55, 3) := by decide +kernel
theorem dX6_compareRows_7 : decode cX6_compareRows 7 = .ok (.aload_n 0, 1) := by decide +kernel
theorem dX6_compareRows_8 : decode cX6_compareRows 8 = .ok (.getfield 36, 3) := by decide +kernel
theorem dX6_compareRows_11 : decode cX6_compareRows 11 = .ok (.iload_n 3, 1) := by decide +kernel
theorem dX6_compareRows_12 : decode cX6_compareRows 12 = .ok (.iaload, 1) := by decide +kernel
theorem dX6_compareRows_13 : decode cX6_compareRows 13 = .ok (.aload_n 0, 1) := by decide +kernel
theorem dX6_compareRows_14 : decode cX6_compareRows 14 = .ok (.getfield 33, 3) := by decide +kernel
theorem dX6_compareRows_17 : decode cX6_compareRows 17 = .ok (.bipush 81, 2) := by decide +kernel
theorem dX6_compareRows_19 : decode cX6_compareRows 19 = .ok (.iload_n 1, 1) := by decide +kernel
theorem dX6_compareRows_20 : decode cX6_compareRows 20 = .ok (.imul, 1) := by decide +kernel
theorem dX6_compareRows_21 : decode cX6_compareRows 21 = .ok (.iload_n 3, 1) := by decide +kernel
theorem dX6_compareRows_22 : decode cX6_compareRows 22 = .ok (.iadd, 1) := by decide +kernel
theorem dX6_compareRows_23 : decode cX6_compareRows 23 = .ok (.iaload, 1) := by decide +kernel
theorem dX6_compareRows_24 : decode cX6_compareRows 24 = .ok (.if_icmp .eq 29, 3) := by decide +kernel
theorem dX6_compareRows_27 : decode cX6_compareRows 27 = .ok (.aload_n 0, 1) := by decide +kernel
theorem dX6_compareRows_28 : decode cX6_compareRows 28 = .ok (.getfield 36, 3) := by decide +kernel
theorem dX6_compareRows_31 : decode cX6_compareRows 31 = .ok (.iload_n 3, 1) := by decide +kernel
theorem dX6_compareRows_32 : decode cX6_compareRows 32 = .ok (.iaload, 1) := by decide +kernel
theorem dX6_compareRows_33 : decode cX6_compareRows 33 = .ok (.aload_n 0, 1) := by decide +kernel
theorem dX6_compareRows_34 : decode cX6_compareRows 34 = .ok (.getfield 33, 3) := by decide +kernel
theorem dX6_compareRows_37 : decode cX6_compareRows 37 = .ok (.bipush 81, 2) := by decide +kernel
theorem dX6_compareRows_39 : decode cX6_compareRows 39 = .ok (.iload_n 1, 1) := by decide +kernel
theorem dX6_compareRows_40 : decode cX6_compareRows 40 = .ok (.imul, 1) := by decide +kernel
theorem dX6_compareRows_41 : decode cX6_compareRows 41 = .ok (.iload_n 3, 1) := by decide +kernel
theorem dX6_compareRows_42 : decode cX6_compareRows 42 = .ok (.iadd, 1) := by decide +kernel
theorem dX6_compareRows_43 : decode cX6_compareRows 43 = .ok (.iaload, 1) := by decide +kernel
theorem dX6_compareRows_44 : decode cX6_compareRows 44 = .ok (.if_icmp .ge 7, 3) := by decide +kernel
theorem dX6_compareRows_47 : decode cX6_compareRows 47 = .ok (.iconst (-1), 1) := by decide +kernel
theorem dX6_compareRows_48 : decode cX6_compareRows 48 = .ok (.goto 4, 3) := by decide +kernel
theorem dX6_compareRows_51 : decode cX6_compareRows 51 = .ok (.iconst 1, 1) := by decide +kernel
theorem dX6_compareRows_52 : decode cX6_compareRows 52 = .ok (.ireturn, 1) := by decide +kernel
theorem dX6_compareRows_53 : decode cX6_compareRows 53 = .ok (.iinc 3 1, 3) := by decide +kernel
theorem dX6_compareRows_56 : decode cX6_compareRows 56 = .ok (.goto (-54), 3) := by decide +kernel
theorem dX6_compareRows_59 : decode cX6_compareRows 59 = .ok (.iconst 0, 1) := by decide +kernel
theorem dX6_compareRows_60 : decode cX6_compareRows 60 = .ok (.ireturn, 1) := by decide +kernel
theorem dX6_form_0 : decode cX6_form 0 = .ok (.iload_n 1, 1) := by decide +kernel
theorem dX6_form_1 : decode cX6_form 1 = .ok (.invokestatic 55, 3) := by decide +kernel
theorem dX6_form_4 : decode cX6_form 4 = .ok (.ifCond .eq 20, 3) := by decide +kernel
theorem dX6_form_7 : decode cX6_form 7 = .ok (.iload_n 2, 1) := by decide +kernel
theorem dX6_form_8 : decode cX6_form 8 = .ok (.ifCond .lt 16, 3) := by decide +kernel
theorem dX6_form_11 : decode cX6_form 11 = .ok (.iload_n 2, 1) := by decide +kernel
theorem dX6_form_12 : decode cX6_form 12 = .ok (.aload_n 0, 1) := by decide +kernel
theorem dX6_form_13 : decode cX6_form 13 = .ok (.getfield 7, 3) := by decide +kernel
theorem dX6_form_16 : decode cX6_form 16 = .ok (.aload_n 0, 1) := by decide +kernel
theorem dX6_form_17 : decode cX6_form 17 = .ok (.getfield 7, 3) := by decide +kernel
theorem dX6_form_20 : decode cX6_form 20 = .ok (.imul, 1) := by decide +kernel
theorem dX6_form_21 : decode cX6_form 21 = .ok (.if_icmp .lt 5, 3) := by decide +kernel
theorem dX6_form_24 : decode cX6_form 24 = .ok (.iconst (-1), 1) := by decide +kernel
theorem dX6_form_25 : decode cX6_form 25 = .ok (.ireturn, 1) := by decide +kernel
theorem dX6_form_26 : decode cX6_form 26 = .ok (.aload_n 0, 1) := by decide +kernel
theorem dX6_form_27 : decode cX6_form 27 = .ok (.iload_n 1, 1) := by decide +kernel
theorem dX6_form_28 : decode cX6_form 28 = .ok (.invokevirtual 114, 3) := by decide +kernel
theorem dX6_form_31 : decode cX6_form 31 = .ok (.aload_n 0, 1) := by decide +kernel
theorem dX6_form_32 : decode cX6_form 32 = .ok (.getfield 33, 3) := by decide +kernel
theorem dX6_form_35 : decode cX6_form 35 = .ok (.bipush 81, 2) := by decide +kernel
theorem dX6_form_37 : decode cX6_form 37 = .ok (.iload_n 1, 1) := by decide +kernel
theorem dX6_form_38 : decode cX6_form 38 = .ok (.imul, 1) := by decide +kernel
theorem dX6_form_39 : decode cX6_form 39 = .ok (.iload_n 2, 1) := by decide +kernel
theorem dX6_form_40 : decode cX6_form 40 = .ok (.iadd, 1) := by decide +kernel
theorem dX6_form_41 : decode cX6_form 41 = .ok (.iaload, 1) := by decide +kernel
theorem dX6_form_42 : decode cX6_form 42 = .ok (.ireturn, 1) := by decide +kernel
theorem dX6_compare_0 : decode cX6_compare 0 = .ok (.iload_n 1, 1) := by decide +kernel
theorem dX6_compare_1 : decode cX6_compare 1 = .ok (.invokestatic 55, 3) := by decide +kernel
theorem dX6_compare_4 : decode cX6_compare 4 = .ok (.ifCond .ne 6, 3) := by decide +kernel
theorem dX6_compare_7 : decode cX6_compare 7 = .ok (.bipush (-2), 2) := by decide +kernel
theorem dX6_compare_9 : decode cX6_compare 9 = .ok (.ireturn, 1) := by decide +kernel
theorem dX6_compare_10 : decode cX6_compare 10 = .ok (.aload_n 0, 1) := by decide +kernel
theorem dX6_compare_11 : decode cX6_compare 11 = .ok (.iconst 0, 1) := by decide +kernel
theorem dX6_compare_12 : decode cX6_compare 12 = .ok (.invokevirtual 114, 3) := by decide +kernel
theorem dX6_compare_15 : decode cX6_compare 15 = .ok (.aload_n 0, 1) := by decide +kernel
theorem dX6_compare_16 : decode cX6_compare 16 = .ok (.iconst 1, 1) := by decide +kernel
theorem dX6_compare_17 : decode cX6_compare 17 = .ok (.invokevirtual 114, 3) := by decide +kernel
theorem dX6_compare_20 : decode cX6_compare 20 = .ok (.iconst 0, 1) := by decide +kernel
theorem dX6_compare_21 : decode cX6_compare 21 = .ok (.istore_n 2, 1) := by decide +kernel
theorem dX6_compare_22 : decode cX6_compare 22 = .ok (.iload_n 2, 1) := by decide +kernel
theorem dX6_compare_23 : decode cX6_compare 23 = .ok (.aload_n 0, 1) := by decide +kernel
theorem dX6_compare_24 : decode cX6_compare 24 = .ok (.getfield 7, 3) := by decide +kernel
theorem dX6_compare_27 : decode cX6_compare 27 = .ok (.aload_n 0, 1) := by decide +kernel
theorem dX6_compare_28 : decode cX6_compare 28 = .ok (.getfield 7, 3) := by decide +kernel
theorem dX6_compare_31 : decode cX6_compare 31 = .ok (.imul, 1) := by decide +kernel
theorem dX6_compare_32 : decode cX6_compare 32 = .ok (.if_icmp .ge 54, 3) := by decide +kernel
theorem dX6_compare_35 : decode cX6_compare 35 = .ok (.aload_n 0, 1) := by decide +kernel
theorem dX6_compare_36 : decode cX6_compare 36 = .ok (.getfield 33, 3) := by decide +kernel
theorem dX6_compare_39 : decode cX6_compare 39 = .ok (.bipush 81, 2) := by decide +kernel
theorem dX6_compare_41 : decode cX6_compare 41 = .ok (.iload_n 1, 1) := by decide +kernel
theorem dX6_compare_42 : decode cX6_compare 42 = .ok (.imul, 1) := by decide +kernel
theorem dX6_compare_43 : decode cX6_compare 43 = .ok (.iload_n 2, 1) := by decide +kernel
theorem dX6_compare_44 : decode cX6_compare 44 = .ok (.iadd, 1) := by decide +kernel
theorem dX6_compare_45 : decode cX6_compare 45 = .ok (.iaload, 1) := by decide +kernel
theorem dX6_compare_46 : decode cX6_compare 46 = .ok (.istore_n 3, 1) := by decide +kernel
theorem dX6_compare_47 : decode cX6_compare 47 = .ok (.aload_n 0, 1) := by decide +kernel
theorem dX6_compare_48 : decode cX6_compare 48 = .ok (.getfield 33, 3) := by decide +kernel
theorem dX6_compare_51 : decode cX6_compare 51 = .ok (.bipush 81, 2) := by decide +kernel
theorem dX6_compare_53 : decode cX6_compare 53 = .ok (.iconst 1, 1) := by decide +kernel
theorem dX6_compare_54 : decode cX6_compare 54 = .ok (.iload_n 1, 1) := by decide +kernel
theorem dX6_compare_55 : decode cX6_compare 55 = .ok (.isub, 1) := by decide +kernel
theorem dX6_compare_56 : decode cX6_compare 56 = .ok (.imul, 1) := by decide +kernel
theorem dX6_compare_57 : decode cX6_compare 57 = .ok (.iload_n 2, 1) := by decide +kernel
theorem dX6_compare_58 : decode cX6_compare 58 = .ok (.iadd, 1) := by decide +kernel
theorem dX6_compare_59 : decode cX6_compare 59 = .ok (.iaload, 1) := by decide +kernel
theorem dX6_compare_60 : decode cX6_compare 60 = .ok (.istore 4, 2) := by decide +kernel
theorem dX6_compare_62 : decode cX6_compare 62 = .ok (.iload_n 3, 1) := by decide +kernel
theorem dX6_compare_63 : decode cX6_compare 63 = .ok (.iload 4, 2) := by decide +kernel
theorem dX6_compare_65 : decode cX6_compare 65 = .ok (.if_icmp .eq 15, 3) := by decide +kernel
theorem dX6_compare_68 : decode cX6_compare 68 = .ok (.iload_n 3, 1) := by decide +kernel
theorem dX6_compare_69 : decode cX6_compare 69 = .ok (.iload 4, 2) := by decide +kernel
theorem dX6_compare_71 : decode cX6_compare 71 = .ok (.if_icmp .ge 7, 3) := by decide +kernel
theorem dX6_compare_74 : decode cX6_compare 74 = .ok (.iconst (-1), 1) := by decide +kernel
theorem dX6_compare_75 : decode cX6_compare 75 = .ok (.goto 4, 3) := by decide +kernel
theorem dX6_compare_78 : decode cX6_compare 78 = .ok (.iconst 1, 1) := by decide +kernel
theorem dX6_compare_79 : decode cX6_compare 79 = .ok (.ireturn, 1) := by decide +kernel
theorem dX6_compare_80 : decode cX6_compare 80 = .ok (.iinc 2 1, 3) := by decide +kernel
theorem dX6_compare_83 : decode cX6_compare 83 = .ok (.goto (-61), 3) := by decide +kernel
theorem dX6_compare_86 : decode cX6_compare 86 = .ok (.iconst 0, 1) := by decide +kernel
theorem dX6_compare_87 : decode cX6_compare 87 = .ok (.ireturn, 1) := by decide +kernel
theorem dX6_edges_0 : decode cX6_edges 0 = .ok (.iconst 0, 1) := by decide +kernel
theorem dX6_edges_1 : decode cX6_edges 1 = .ok (.istore_n 2, 1) := by decide +kernel
theorem dX6_edges_2 : decode cX6_edges 2 = .ok (.iconst 0, 1) := by decide +kernel
theorem dX6_edges_3 : decode cX6_edges 3 = .ok (.istore_n 3, 1) := by decide +kernel
theorem dX6_edges_4 : decode cX6_edges 4 = .ok (.iload_n 3, 1) := by decide +kernel
theorem dX6_edges_5 : decode cX6_edges 5 = .ok (.aload_n 0, 1) := by decide +kernel
theorem dX6_edges_6 : decode cX6_edges 6 = .ok (.getfield 7, 3) := by decide +kernel
theorem dX6_edges_9 : decode cX6_edges 9 = .ok (.if_icmp .ge 52, 3) := by decide +kernel
theorem dX6_edges_12 : decode cX6_edges 12 = .ok (.iconst 0, 1) := by decide +kernel
theorem dX6_edges_13 : decode cX6_edges 13 = .ok (.istore 4, 2) := by decide +kernel
theorem dX6_edges_15 : decode cX6_edges 15 = .ok (.iload 4, 2) := by decide +kernel
theorem dX6_edges_17 : decode cX6_edges 17 = .ok (.aload_n 0, 1) := by decide +kernel
theorem dX6_edges_18 : decode cX6_edges 18 = .ok (.getfield 7, 3) := by decide +kernel
theorem dX6_edges_21 : decode cX6_edges 21 = .ok (.if_icmp .ge 34, 3) := by decide +kernel
theorem dX6_edges_24 : decode cX6_edges 24 = .ok (.iload_n 2, 1) := by decide +kernel
theorem dX6_edges_25 : decode cX6_edges 25 = .ok (.iload_n 3, 1) := by decide +kernel
theorem dX6_edges_26 : decode cX6_edges 26 = .ok (.iload 4, 2) := by decide +kernel
theorem dX6_edges_28 : decode cX6_edges 28 = .ok (.if_icmp .eq 18, 3) := by decide +kernel
theorem dX6_edges_31 : decode cX6_edges 31 = .ok (.aload_n 0, 1) := by decide +kernel
theorem dX6_edges_32 : decode cX6_edges 32 = .ok (.iload_n 1, 1) := by decide +kernel
theorem dX6_edges_33 : decode cX6_edges 33 = .ok (.iload_n 3, 1) := by decide +kernel
theorem dX6_edges_34 : decode cX6_edges 34 = .ok (.iload 4, 2) := by decide +kernel
theorem dX6_edges_36 : decode cX6_edges 36 = .ok (.invokevirtual 62, 3) := by decide +kernel
theorem dX6_edges_39 : decode cX6_edges 39 = .ok (.ifCond .le 7, 3) := by decide +kernel
theorem dX6_edges_42 : decode cX6_edges 42 = .ok (.iconst 1, 1) := by decide +kernel
theorem dX6_edges_43 : decode cX6_edges 43 = .ok (.goto 4, 3) := by decide +kernel
theorem dX6_edges_46 : decode cX6_edges 46 = .ok (.iconst 0, 1) := by decide +kernel
theorem dX6_edges_47 : decode cX6_edges 47 = .ok (.iadd, 1) := by decide +kernel
theorem dX6_edges_48 : decode cX6_edges 48 = .ok (.istore_n 2, 1) := by decide +kernel
theorem dX6_edges_49 : decode cX6_edges 49 = .ok (.iinc 4 1, 3) := by decide +kernel
theorem dX6_edges_52 : decode cX6_edges 52 = .ok (.goto (-37), 3) := by decide +kernel
theorem dX6_edges_55 : decode cX6_edges 55 = .ok (.iinc 3 1, 3) := by decide +kernel
theorem dX6_edges_58 : decode cX6_edges 58 = .ok (.goto (-54), 3) := by decide +kernel
theorem dX6_edges_61 : decode cX6_edges 61 = .ok (.iload_n 2, 1) := by decide +kernel
theorem dX6_edges_62 : decode cX6_edges 62 = .ok (.ireturn, 1) := by decide +kernel
theorem dX6_count_0 : decode cX6_count 0 = .ok (.iload_n 1, 1) := by decide +kernel
theorem dX6_count_1 : decode cX6_count 1 = .ok (.tableswitch 75 0 4 #[35, 40, 46, 52, 65], 35) := by decide +kernel
theorem dX6_count_36 : decode cX6_count 36 = .ok (.aload_n 0, 1) := by decide +kernel
theorem dX6_count_37 : decode cX6_count 37 = .ok (.getfield 7, 3) := by decide +kernel
theorem dX6_count_40 : decode cX6_count 40 = .ok (.ireturn, 1) := by decide +kernel
theorem dX6_count_41 : decode cX6_count 41 = .ok (.aload_n 0, 1) := by decide +kernel
theorem dX6_count_42 : decode cX6_count 42 = .ok (.iconst 0, 1) := by decide +kernel
theorem dX6_count_43 : decode cX6_count 43 = .ok (.invokevirtual 118, 3) := by decide +kernel
theorem dX6_count_46 : decode cX6_count 46 = .ok (.ireturn, 1) := by decide +kernel
theorem dX6_count_47 : decode cX6_count 47 = .ok (.aload_n 0, 1) := by decide +kernel
theorem dX6_count_48 : decode cX6_count 48 = .ok (.iconst 1, 1) := by decide +kernel
theorem dX6_count_49 : decode cX6_count 49 = .ok (.invokevirtual 118, 3) := by decide +kernel
theorem dX6_count_52 : decode cX6_count 52 = .ok (.ireturn, 1) := by decide +kernel
theorem dX6_count_53 : decode cX6_count 53 = .ok (.aload_n 0, 1) := by decide +kernel
theorem dX6_count_54 : decode cX6_count 54 = .ok (.getfield 45, 3) := by decide +kernel
theorem dX6_count_57 : decode cX6_count 57 = .ok (.ifCond .eq 7, 3) := by decide +kernel
theorem dX6_count_60 : decode cX6_count 60 = .ok (.iconst 1, 1) := by decide +kernel
theorem dX6_count_61 : decode cX6_count 61 = .ok (.goto 4, 3) := by decide +kernel
theorem dX6_count_64 : decode cX6_count 64 = .ok (.iconst 0, 1) := by decide +kernel
theorem dX6_count_65 : decode cX6_count 65 = .ok (.ireturn, 1) := by decide +kernel
theorem dX6_count_66 : decode cX6_count 66 = .ok (.aload_n 0, 1) := by decide +kernel
theorem dX6_count_67 : decode cX6_count 67 = .ok (.getfield 7, 3) := by decide +kernel
theorem dX6_count_70 : decode cX6_count 70 = .ok (.aload_n 0, 1) := by decide +kernel
theorem dX6_count_71 : decode cX6_count 71 = .ok (.getfield 7, 3) := by decide +kernel
theorem dX6_count_74 : decode cX6_count 74 = .ok (.imul, 1) := by decide +kernel
theorem dX6_count_75 : decode cX6_count 75 = .ok (.ireturn, 1) := by decide +kernel
theorem dX6_count_76 : decode cX6_count 76 = .ok (.iconst (-1), 1) := by decide +kernel
theorem dX6_count_77 : decode cX6_count 77 = .ok (.ireturn, 1) := by decide +kernel
