theorem dX5_init_0 : decode cX5_init 0 = .ok (.aload_n 0, 1) := by decide +kernel
theorem dX5_init_1 : decode cX5_init 1 = .ok (.invokespecial 1, 3) := by decide +kernel
theorem dX5_init_4 : decode cX5_init 4 = .ok (.aload_n 0, 1) := by decide +kernel
theorem dX5_init_5 : decode cX5_init 5 = .ok (.iconst 2, 1) := by decide +kernel
theorem dX5_init_6 : decode cX5_init 6 = .ok (.anewarray 7, 3) := by decide +kernel
theorem dX5_init_9 : decode cX5_init 9 = .ok (.putfield 9, 3) := by decide +kernel
theorem dX5_init_12 : decode cX5_init 12 = .ok (.aload_n 0, 1) := by decide +kernel
theorem dX5_init_13 : decode cX5_init 13 = .ok (.new 15, 3) := by decide +kernel
theorem dX5_init_16 : decode cX5_init 16 = .ok (.dup, 1) := by decide +kernel
theorem dX5_init_17 : decode cX5_init 17 = .ok (.invokespecial 17, 3) := by decide +kernel
theorem dX5_init_20 : decode cX5_init 20 = .ok (.putfield 18, 3) := by decide +kernel
theorem dX5_init_23 : decode cX5_init 23 = .ok (.aload_n 0, 1) := by decide +kernel
theorem dX5_init_24 : decode cX5_init 24 = .ok (.new 22, 3) := by decide +kernel
theorem dX5_init_27 : decode cX5_init 27 = .ok (.dup, 1) := by decide +kernel
theorem dX5_init_28 : decode cX5_init 28 = .ok (.invokespecial 24, 3) := by decide +kernel
theorem dX5_init_31 : decode cX5_init 31 = .ok (.putfield 25, 3) := by decide +kernel
theorem dX5_init_34 : decode cX5_init 34 = .ok (.aload_n 0, 1) := by decide +kernel
theorem dX5_init_35 : decode cX5_init 35 = .ok (.new 29, 3) := by decide +kernel
theorem dX5_init_38 : decode cX5_init 38 = .ok (.dup, 1) := by decide +kernel
theorem dX5_init_39 : decode cX5_init 39 = .ok (.invokespecial 31, 3) := by decide +kernel
theorem dX5_init_42 : decode cX5_init 42 = .ok (.putfield 32, 3) := by decide +kernel
theorem dX5_init_45 : decode cX5_init 45 = .ok (.aload_n 0, 1) := by decide +kernel
theorem dX5_init_46 : decode cX5_init 46 = .ok (.new 36, 3) := by decide +kernel
theorem dX5_init_49 : decode cX5_init 49 = .ok (.dup, 1) := by decide +kernel
theorem dX5_init_50 : decode cX5_init 50 = .ok (.invokespecial 38, 3) := by decide +kernel
theorem dX5_init_53 : decode cX5_init 53 = .ok (.putfield 39, 3) := by decide +kernel
theorem dX5_init_56 : decode cX5_init 56 = .ok (.aload_n 0, 1) := by decide +kernel
theorem dX5_init_57 : decode cX5_init 57 = .ok (.getfield 9, 3) := by decide +kernel
theorem dX5_init_60 : decode cX5_init 60 = .ok (.iconst 0, 1) := by decide +kernel
theorem dX5_init_61 : decode cX5_init 61 = .ok (.new 7, 3) := by decide +kernel
theorem dX5_init_64 : decode cX5_init 64 = .ok (.dup, 1) := by decide +kernel
theorem dX5_init_65 : decode cX5_init 65 = .ok (.invokespecial 43, 3) := by decide +kernel
theorem dX5_init_68 : decode cX5_init 68 = .ok (.aastore, 1) := by decide +kernel
theorem dX5_init_69 : decode cX5_init 69 = .ok (.aload_n 0, 1) := by decide +kernel
theorem dX5_init_70 : decode cX5_init 70 = .ok (.getfield 9, 3) := by decide +kernel
theorem dX5_init_73 : decode cX5_init 73 = .ok (.iconst 1, 1) := by decide +kernel
theorem dX5_init_74 : decode cX5_init 74 = .ok (.new 7, 3) := by decide +kernel
theorem dX5_init_77 : decode cX5_init 77 = .ok (.dup, 1) := by decide +kernel
theorem dX5_init_78 : decode cX5_init 78 = .ok (.invokespecial 43, 3) := by decide +kernel
theorem dX5_init_81 : decode cX5_init 81 = .ok (.aastore, 1) := by decide +kernel
theorem dX5_init_82 : decode cX5_init 82 = .ok (.return_, 1) := by decide +kernel
theorem dX5_begin_0 : decode cX5_begin 0 = .ok (.iload_n 1, 1) := by decide +kernel
theorem dX5_begin_1 : decode cX5_begin 1 = .ok (.iconst 1, 1) := by decide +kernel
theorem dX5_begin_2 : decode cX5_begin 2 = .ok (.if_icmp .lt 9, 3) := by decide +kernel
theorem dX5_begin_5 : decode cX5_begin 5 = .ok (.iload_n 1, 1) := by decide +kernel
theorem dX5_begin_6 : decode cX5_begin 6 = .ok (.bipush 9, 2) := by decide +kernel
theorem dX5_begin_8 : decode cX5_begin 8 = .ok (.if_icmp .le 5, 3) := by decide +kernel
theorem dX5_begin_11 : decode cX5_begin 11 = .ok (.iconst (-1), 1) := by decide +kernel
theorem dX5_begin_12 : decode cX5_begin 12 = .ok (.ireturn, 1) := by decide +kernel
theorem dX5_begin_13 : decode cX5_begin 13 = .ok (.aload_n 0, 1) := by decide +kernel
theorem dX5_begin_14 : decode cX5_begin 14 = .ok (.getfield 9, 3) := by decide +kernel
theorem dX5_begin_17 : decode cX5_begin 17 = .ok (.iconst 0, 1) := by decide +kernel
theorem dX5_begin_18 : decode cX5_begin 18 = .ok (.aaload, 1) := by decide +kernel
theorem dX5_begin_19 : decode cX5_begin 19 = .ok (.iload_n 1, 1) := by decide +kernel
theorem dX5_begin_20 : decode cX5_begin 20 = .ok (.invokevirtual 44, 3) := by decide +kernel
theorem dX5_begin_23 : decode cX5_begin 23 = .ok (.aload_n 0, 1) := by decide +kernel
theorem dX5_begin_24 : decode cX5_begin 24 = .ok (.getfield 9, 3) := by decide +kernel
theorem dX5_begin_27 : decode cX5_begin 27 = .ok (.iconst 1, 1) := by decide +kernel
theorem dX5_begin_28 : decode cX5_begin 28 = .ok (.aaload, 1) := by decide +kernel
theorem dX5_begin_29 : decode cX5_begin 29 = .ok (.iload_n 1, 1) := by decide +kernel
theorem dX5_begin_30 : decode cX5_begin 30 = .ok (.invokevirtual 44, 3) := by decide +kernel
theorem dX5_begin_33 : decode cX5_begin 33 = .ok (.aload_n 0, 1) := by decide +kernel
theorem dX5_begin_34 : decode cX5_begin 34 = .ok (.aload_n 0, 1) := by decide +kernel
theorem dX5_begin_35 : decode cX5_begin 35 = .ok (.getfield 9, 3) := by decide +kernel
theorem dX5_begin_38 : decode cX5_begin 38 = .ok (.iconst 0, 1) := by decide +kernel
theorem dX5_begin_39 : decode cX5_begin 39 = .ok (.aaload, 1) := by decide +kernel
theorem dX5_begin_40 : decode cX5_begin 40 = .ok (.invokevirtual 48, 3) := by decide +kernel
theorem dX5_begin_43 : decode cX5_begin 43 = .ok (.aload_n 0, 1) := by decide +kernel
theorem dX5_begin_44 : decode cX5_begin 44 = .ok (.aload_n 0, 1) := by decide +kernel
theorem dX5_begin_45 : decode cX5_begin 45 = .ok (.getfield 9, 3) := by decide +kernel
theorem dX5_begin_48 : decode cX5_begin 48 = .ok (.iconst 1, 1) := by decide +kernel
theorem dX5_begin_49 : decode cX5_begin 49 = .ok (.aaload, 1) := by decide +kernel
theorem dX5_begin_50 : decode cX5_begin 50 = .ok (.invokevirtual 48, 3) := by decide +kernel
theorem dX5_begin_53 : decode cX5_begin 53 = .ok (.iconst 0, 1) := by decide +kernel
theorem dX5_begin_54 : decode cX5_begin 54 = .ok (.ireturn, 1) := by decide +kernel
theorem dX5_label_0 : decode cX5_label 0 = .ok (.aload_n 0, 1) := by decide +kernel
theorem dX5_label_1 : decode cX5_label 1 = .ok (.iload_n 1, 1) := by decide +kernel
theorem dX5_label_2 : decode cX5_label 2 = .ok (.iload_n 2, 1) := by decide +kernel
theorem dX5_label_3 : decode cX5_label 3 = .ok (.invokevirtual 52, 3) := by decide +kernel
theorem dX5_label_6 : decode cX5_label 6 = .ok (.ifCond .eq 25, 3) := by decide +kernel
theorem dX5_label_9 : decode cX5_label 9 = .ok (.aload_n 0, 1) := by decide +kernel
theorem dX5_label_10 : decode cX5_label 10 = .ok (.iload_n 1, 1) := by decide +kernel
theorem dX5_label_11 : decode cX5_label 11 = .ok (.iload_n 3, 1) := by decide +kernel
theorem dX5_label_12 : decode cX5_label 12 = .ok (.invokevirtual 52, 3) := by decide +kernel
theorem dX5_label_15 : decode cX5_label 15 = .ok (.ifCond .eq 16, 3) := by decide +kernel
theorem dX5_label_18 : decode cX5_label 18 = .ok (.iload 4, 2) := by decide +kernel
theorem dX5_label_20 : decode cX5_label 20 = .ok (.invokestatic 56, 3) := by decide +kernel
theorem dX5_label_23 : decode cX5_label 23 = .ok (.ifCond .eq 8, 3) := by decide +kernel
theorem dX5_label_26 : decode cX5_label 26 = .ok (.iload_n 2, 1) := by decide +kernel
theorem dX5_label_27 : decode cX5_label 27 = .ok (.iload_n 3, 1) := by decide +kernel
theorem dX5_label_28 : decode cX5_label 28 = .ok (.if_icmp .ne 5, 3) := by decide +kernel
theorem dX5_label_31 : decode cX5_label 31 = .ok (.iconst (-1), 1) := by decide +kernel
theorem dX5_label_32 : decode cX5_label 32 = .ok (.ireturn, 1) := by decide +kernel
theorem dX5_label_33 : decode cX5_label 33 = .ok (.aload_n 0, 1) := by decide +kernel
theorem dX5_label_34 : decode cX5_label 34 = .ok (.getfield 9, 3) := by decide +kernel
theorem dX5_label_37 : decode cX5_label 37 = .ok (.iload_n 1, 1) := by decide +kernel
theorem dX5_label_38 : decode cX5_label 38 = .ok (.aaload, 1) := by decide +kernel
theorem dX5_label_39 : decode cX5_label 39 = .ok (.astore 5, 2) := by decide +kernel
theorem dX5_label_41 : decode cX5_label 41 = .ok (.aload 5, 2) := by decide +kernel
theorem dX5_label_43 : decode cX5_label 43 = .ok (.getfield 60, 3) := by decide +kernel
theorem dX5_label_46 : decode cX5_label 46 = .ok (.iload_n 2, 1) := by decide +kernel
theorem dX5_label_47 : decode cX5_label 47 = .ok (.aaload, 1) := by decide +kernel
theorem dX5_label_48 : decode cX5_label 48 = .ok (.iload_n 3, 1) := by decide +kernel
theorem dX5_label_49 : decode cX5_label 49 = .ok (.iaload, 1) := by decide +kernel
theorem dX5_label_50 : decode cX5_label 50 = .ok (.istore 6, 2) := by decide +kernel
theorem dX5_label_52 : decode cX5_label 52 = .ok (.aload 5, 2) := by decide +kernel
theorem dX5_label_54 : decode cX5_label 54 = .ok (.getfield 60, 3) := by decide +kernel
theorem dX5_label_57 : decode cX5_label 57 = .ok (.iload_n 2, 1) := by decide +kernel
theorem dX5_label_58 : decode cX5_label 58 = .ok (.aaload, 1) := by decide +kernel
theorem dX5_label_59 : decode cX5_label 59 = .ok (.iload_n 3, 1) := by decide +kernel
theorem dX5_label_60 : decode cX5_label 60 = .ok (.iload 4, 2) := by decide +kernel
theorem dX5_label_62 : decode cX5_label 62 = .ok (.iastore, 1) := by decide +kernel
theorem dX5_label_63 : decode cX5_label 63 = .ok (.aload_n 0, 1) := by decide +kernel
theorem dX5_label_64 : decode cX5_label 64 = .ok (.aload 5, 2) := by decide +kernel
theorem dX5_label_66 : decode cX5_label 66 = .ok (.invokevirtual 48, 3) := by decide +kernel
theorem dX5_label_69 : decode cX5_label 69 = .ok (.iload 6, 2) := by decide +kernel
theorem dX5_label_71 : decode cX5_label 71 = .ok (.ireturn, 1) := by decide +kernel
theorem dX5_tint_0 : decode cX5_tint 0 = .ok (.aload_n 0, 1) := by decide +kernel
theorem dX5_tint_1 : decode cX5_tint 1 = .ok (.iload_n 1, 1) := by decide +kernel
theorem dX5_tint_2 : decode cX5_tint 2 = .ok (.iload_n 2, 1) := by decide +kernel
theorem dX5_tint_3 : decode cX5_tint 3 = .ok (.invokevirtual 52, 3) := by decide +kernel
theorem dX5_tint_6 : decode cX5_tint 6 = .ok (.ifCond .eq 10, 3) := by decide +kernel
theorem dX5_tint_9 : decode cX5_tint 9 = .ok (.iload_n 3, 1) := by decide +kernel
theorem dX5_tint_10 : decode cX5_tint 10 = .ok (.invokestatic 56, 3) := by decide +kernel
theorem dX5_tint_13 : decode cX5_tint 13 = .ok (.ifCond .ne 5, 3) := by decide +kernel
theorem dX5_tint_16 : decode cX5_tint 16 = .ok (.iconst (-1), 1) := by decide +kernel
theorem dX5_tint_17 : decode cX5_tint 17 = .ok (.ireturn, 1) := by decide +kernel
theorem dX5_tint_18 : decode cX5_tint 18 = .ok (.aload_n 0, 1) := by decide +kernel
theorem dX5_tint_19 : decode cX5_tint 19 = .ok (.getfield 9, 3) := by decide +kernel
theorem dX5_tint_22 : decode cX5_tint 22 = .ok (.iload_n 1, 1) := by decide +kernel
theorem dX5_tint_23 : decode cX5_tint 23 = .ok (.aaload, 1) := by decide +kernel
theorem dX5_tint_24 : decode cX5_tint 24 = .ok (.astore 4, 2) := by decide +kernel
theorem dX5_tint_26 : decode cX5_tint 26 = .ok (.aload 4, 2) := by decide +kernel
theorem dX5_tint_28 : decode cX5_tint 28 = .ok (.getfield 64, 3) := by decide +kernel
theorem dX5_tint_31 : decode cX5_tint 31 = .ok (.iload_n 2, 1) := by decide +kernel
theorem dX5_tint_32 : decode cX5_tint 32 = .ok (.iaload, 1) := by decide +kernel
theorem dX5_tint_33 : decode cX5_tint 33 = .ok (.istore 5, 2) := by decide +kernel
theorem dX5_tint_35 : decode cX5_tint 35 = .ok (.aload 4, 2) := by decide +kernel
theorem dX5_tint_37 : decode cX5_tint 37 = .ok (.getfield 64, 3) := by decide +kernel
theorem dX5_tint_40 : decode cX5_tint 40 = .ok (.iload_n 2, 1) := by decide +kernel
theorem dX5_tint_41 : decode cX5_tint 41 = .ok (.iload_n 3, 1) := by decide +kernel
theorem dX5_tint_42 : decode cX5_tint 42 = .ok (.iastore, 1) := by decide +kernel
theorem dX5_tint_43 : decode cX5_tint 43 = .ok (.aload_n 0, 1) := by decide +kernel
theorem dX5_tint_44 : decode cX5_tint 44 = .ok (.aload 4, 2) := by decide +kernel
theorem dX5_tint_46 : decode cX5_tint 46 = .ok (.invokevirtual 48, 3) := by decide +kernel
theorem dX5_tint_49 : decode cX5_tint 49 = .ok (.iload 5, 2) := by decide +kernel
theorem dX5_tint_51 : decode cX5_tint 51 = .ok (.ireturn, 1) := by decide +kernel
theorem dX5_exchange_0 : decode cX5_exchange 0 = .ok (.aload_n 0, 1) := by decide +kernel
theorem dX5_exchange_1 : decode cX5_exchange 1 = .ok (.iload_n 1, 1) := by decide +kernel
theorem dX5_exchange_2 : decode cX5_exchange 2 = .ok (.iload_n 2, 1) := by decide +kernel
theorem dX5_exchange_3 : decode cX5_exchange 3 = .ok (.invokevirtual 52, 3) := by decide +kernel
theorem dX5_exchange_6 : decode cX5_exchange 6 = .ok (.ifCond .eq 12, 3) := by decide +kernel
theorem dX5_exchange_9 : decode cX5_exchange 9 = .ok (.aload_n 0, 1) := by decide +kernel
theorem dX5_exchange_10 : decode cX5_exchange 10 = .ok (.iload_n 1, 1) := by decide +kernel
theorem dX5_exchange_11 : decode cX5_exchange 11 = .ok (.iload_n 3, 1) := by decide +kernel
theorem dX5_exchange_12 : decode cX5_exchange 12 = .ok (.invokevirtual 52, 3) := by decide +kernel
theorem dX5_exchange_15 : decode cX5_exchange 15 = .ok (.ifCond .ne 5, 3) := by decide +kernel
theorem dX5_exchange_18 : decode cX5_exchange 18 = .ok (.iconst (-1), 1) := by decide +kernel
theorem dX5_exchange_19 : decode cX5_exchange 19 = .ok (.ireturn, 1) := by decide +kernel
theorem dX5_exchange_20 : decode cX5_exchange 20 = .ok (.aload_n 0, 1) := by decide +kernel
theorem dX5_exchange_21 : decode cX5_exchange 21 = .ok (.getfield 9, 3) := by decide +kernel
theorem dX5_exchange_24 : decode cX5_exchange 24 = .ok (.iload_n 1, 1) := by decide +kernel
theorem dX5_exchange_25 : decode cX5_exchange 25 = .ok (.aaload, 1) := by decide +kernel
theorem dX5_exchange_26 : decode cX5_exchange 26 = .ok (.iload_n 2, 1) := by decide +kernel
theorem dX5_exchange_27 : decode cX5_exchange 27 = .ok (.iload_n 3, 1) := by decide +kernel
theorem dX5_exchange_28 : decode cX5_exchange 28 = .ok (.invokevirtual 68, 3) := by decide +kernel
theorem dX5_exchange_31 : decode cX5_exchange 31 = .ok (.aload_n 0, 1) := by decide +kernel
theorem dX5_exchange_32 : decode cX5_exchange 32 = .ok (.aload_n 0, 1) := by decide +kernel
theorem dX5_exchange_33 : decode cX5_exchange 33 = .ok (.getfield 9, 3) := by decide +kernel
theorem dX5_exchange_36 : decode cX5_exchange 36 = .ok (.iload_n 1, 1) := by decide +kernel
theorem dX5_exchange_37 : decode cX5_exchange 37 = .ok (.aaload, 1) := by decide +kernel
theorem dX5_exchange_38 : decode cX5_exchange 38 = .ok (.invokevirtual 48, 3) := by decide +kernel
theorem dX5_exchange_41 : decode cX5_exchange 41 = .ok (.iconst 0, 1) := by decide +kernel
theorem dX5_exchange_42 : decode cX5_exchange 42 = .ok (.ireturn, 1) := by decide +kernel
theorem dX5_copy_0 : decode cX5_copy 0 = .ok (.iload_n 1, 1) := by decide +kernel
theorem dX5_copy_1 : decode cX5_copy 1 = .ok (.invokestatic 72, 3) := by decide +kernel
theorem dX5_copy_4 : decode cX5_copy 4 = .ok (.ifCond .ne 5, 3) := by decide +kernel
theorem dX5_copy_7 : decode cX5_copy 7 = .ok (.iconst (-1), 1) := by decide +kernel
theorem dX5_copy_8 : decode cX5_copy 8 = .ok (.ireturn, 1) := by decide +kernel
theorem dX5_copy_9 : decode cX5_copy 9 = .ok (.aload_n 0, 1) := by decide +kernel
theorem dX5_copy_10 : decode cX5_copy 10 = .ok (.getfield 9, 3) := by decide +kernel
theorem dX5_copy_13 : decode cX5_copy 13 = .ok (.iload_n 1, 1) := by decide +kernel
theorem dX5_copy_14 : decode cX5_copy 14 = .ok (.aaload, 1) := by decide +kernel
theorem dX5_copy_15 : decode cX5_copy 15 = .ok (.aload_n 0, 1) := by decide +kernel
theorem dX5_copy_16 : decode cX5_copy 16 = .ok (.getfield 9, 3) := by decide +kernel
theorem dX5_copy_19 : decode cX5_copy 19 = .ok (.iconst 1, 1) := by decide +kernel
theorem dX5_copy_20 : decode cX5_copy 20 = .ok (.iload_n 1, 1) := by decide +kernel
theorem dX5_copy_21 : decode cX5_copy 21 = .ok (.isub, 1) := by decide +kernel
theorem dX5_copy_22 : decode cX5_copy 22 = .ok (.aaload, 1) := by decide +kernel
theorem dX5_copy_23 : decode cX5_copy 23 = .ok (.invokevirtual 75, 3) := by decide +kernel
theorem dX5_copy_26 : decode cX5_copy 26 = .ok (.aload_n 0, 1) := by decide +kernel
theorem dX5_copy_27 : decode cX5_copy 27 = .ok (.aload_n 0, 1) := by decide +kernel
theorem dX5_copy_28 : decode cX5_copy 28 = .ok (.getfield 9, 3) := by decide +kernel
theorem dX5_copy_31 : decode cX5_copy 31 = .ok (.iload_n 1, 1) := by decide +kernel
theorem dX5_copy_32 : decode cX5_copy 32 = .ok (.aaload, 1) := by decide +kernel
theorem dX5_copy_33 : decode cX5_copy 33 = .ok (.invokevirtual 48, 3) := by decide +kernel
theorem dX5_copy_36 : decode cX5_copy 36 = .ok (.iconst 0, 1) := by decide +kernel
theorem dX5_copy_37 : decode cX5_copy 37 = .ok (.ireturn, 1) := by decide +kernel
theorem dX5_colours_0 : decode cX5_colours 0 = .ok (.aload_n 0, 1) := by decide +kernel
theorem dX5_colours_1 : decode cX5_colours 1 = .ok (.invokevirtual 78, 3) := by decide +kernel
theorem dX5_colours_4 : decode cX5_colours 4 = .ok (.aload_n 0, 1) := by decide +kernel
theorem dX5_colours_5 : decode cX5_colours 5 = .ok (.getfield 18, 3) := by decide +kernel
theorem dX5_colours_8 : decode cX5_colours 8 = .ok (.getfield 81, 3) := by decide +kernel
theorem dX5_colours_11 : decode cX5_colours 11 = .ok (.ireturn, 1) := by decide +kernel
theorem dX5_colour_0 : decode cX5_colour 0 = .ok (.aload_n 0, 1) := by decide +kernel
theorem dX5_colour_1 : decode cX5_colour 1 = .ok (.iload_n 1, 1) := by decide +kernel
theorem dX5_colour_2 : decode cX5_colour 2 = .ok (.iload_n 2, 1) := by decide +kernel
theorem dX5_colour_3 : decode cX5_colour 3 = .ok (.invokevirtual 52, 3) := by decide +kernel
theorem dX5_colour_6 : decode cX5_colour 6 = .ok (.ifCond .ne 5, 3) := by decide +kernel
theorem dX5_colour_9 : decode cX5_colour 9 = .ok (.iconst (-1), 1) := by decide +kernel
theorem dX5_colour_10 : decode cX5_colour 10 = .ok (.ireturn, 1) := by decide +kernel
theorem dX5_colour_11 : decode cX5_colour 11 = .ok (.aload_n 0, 1) := by decide +kernel
theorem dX5_colour_12 : decode cX5_colour 12 = .ok (.invokevirtual 78, 3) := by decide +kernel
theorem dX5_colour_15 : decode cX5_colour 15 = .ok (.aload_n 0, 1) := by decide +kernel
theorem dX5_colour_16 : decode cX5_colour 16 = .ok (.getfield 9, 3) := by decide +kernel
theorem dX5_colour_19 : decode cX5_colour 19 = .ok (.iload_n 1, 1) := by decide +kernel
theorem dX5_colour_20 : decode cX5_colour 20 = .ok (.aaload, 1) := by decide +kernel
theorem dX5_colour_21 : decode cX5_colour 21 = .ok (.getfield 85, 3) := by decide +kernel
theorem dX5_colour_24 : decode cX5_colour 24 = .ok (.iload_n 2, 1) := by decide +kernel
theorem dX5_colour_25 : decode cX5_colour 25 = .ok (.iaload, 1) := by decide +kernel
theorem dX5_colour_26 : decode cX5_colour 26 = .ok (.ireturn, 1) := by decide +kernel
theorem dX5_twins_0 : decode cX5_twins 0 = .ok (.aload_n 0, 1) := by decide +kernel
theorem dX5_twins_1 : decode cX5_twins 1 = .ok (.invokevirtual 78, 3) := by decide +kernel
theorem dX5_twins_4 : decode cX5_twins 4 = .ok (.aload_n 0, 1) := by decide +kernel
theorem dX5_twins_5 : decode cX5_twins 5 = .ok (.aload_n 0, 1) := by decide +kernel
theorem dX5_twins_6 : decode cX5_twins 6 = .ok (.getfield 18, 3) := by decide +kernel
theorem dX5_twins_9 : decode cX5_twins 9 = .ok (.aload_n 0, 1) := by decide +kernel
theorem dX5_twins_10 : decode cX5_twins 10 = .ok (.getfield 9, 3) := by decide +kernel
theorem dX5_twins_13 : decode cX5_twins 13 = .ok (.invokevirtual 88, 3) := by decide +kernel
theorem dX5_twins_16 : decode cX5_twins 16 = .ok (.ifCond .eq 29, 3) := by decide +kernel
theorem dX5_twins_19 : decode cX5_twins 19 = .ok (.aload_n 0, 1) := by decide +kernel
theorem dX5_twins_20 : decode cX5_twins 20 = .ok (.getfield 25, 3) := by decide +kernel
theorem dX5_twins_23 : decode cX5_twins 23 = .ok (.aload_n 0, 1) := by decide +kernel
theorem dX5_twins_24 : decode cX5_twins 24 = .ok (.getfield 9, 3) := by decide +kernel
theorem dX5_twins_27 : decode cX5_twins 27 = .ok (.iconst 0, 1) := by decide +kernel
theorem dX5_twins_28 : decode cX5_twins 28 = .ok (.aaload, 1) := by decide +kernel
theorem dX5_twins_29 : decode cX5_twins 29 = .ok (.aload_n 0, 1) := by decide +kernel
theorem dX5_twins_30 : decode cX5_twins 30 = .ok (.getfield 9, 3) := by decide +kernel
theorem dX5_twins_33 : decode cX5_twins 33 = .ok (.iconst 1, 1) := by decide +kernel
theorem dX5_twins_34 : decode cX5_twins 34 = .ok (.aaload, 1) := by decide +kernel
theorem dX5_twins_35 : decode cX5_twins 35 = .ok (.invokevirtual 92, 3) := by decide +kernel
theorem dX5_twins_38 : decode cX5_twins 38 = .ok (.ifCond .eq 7, 3) := by decide +kernel
theorem dX5_twins_41 : decode cX5_twins 41 = .ok (.iconst 1, 1) := by decide +kernel
theorem dX5_twins_42 : decode cX5_twins 42 = .ok (.goto 4, 3) := by decide +kernel
theorem dX5_twins_45 : decode cX5_twins 45 = .ok (.iconst 0, 1) := by decide +kernel
theorem dX5_twins_46 : decode cX5_twins 46 = .ok (.putfield 96, 3) := by decide +kernel
theorem dX5_twins_49 : decode cX5_twins 49 = .ok (.aload_n 0, 1) := by decide +kernel
theorem dX5_twins_50 : decode cX5_twins 50 = .ok (.getfield 96, 3) := by decide +kernel
theorem dX5_twins_53 : decode cX5_twins 53 = .ok (.ifCond .eq 7, 3) := by decide +kernel
theorem dX5_twins_56 : decode cX5_twins 56 = .ok (.iconst 1, 1) := by decide +kernel
theorem dX5_twins_57 : decode cX5_twins 57 = .ok (.goto 4, 3) := by decide +kernel
theorem dX5_twins_60 : decode cX5_twins 60 = .ok (.iconst 0, 1) := by decide +kernel
theorem dX5_twins_61 : decode cX5_twins 61 = .ok (.ireturn, 1) := by decide +kernel
theorem dX5_image_0 : decode cX5_image 0 = .ok (.aload_n 0, 1) := by decide +kernel
theorem dX5_image_1 : decode cX5_image 1 = .ok (.getfield 96, 3) := by decide +kernel
theorem dX5_image_4 : decode cX5_image 4 = .ok (.ifCond .eq 24, 3) := by decide +kernel
theorem dX5_image_7 : decode cX5_image 7 = .ok (.aload_n 0, 1) := by decide +kernel
theorem dX5_image_8 : decode cX5_image 8 = .ok (.iconst 0, 1) := by decide +kernel
theorem dX5_image_9 : decode cX5_image 9 = .ok (.iload_n 1, 1) := by decide +kernel
theorem dX5_image_10 : decode cX5_image 10 = .ok (.invokevirtual 52, 3) := by decide +kernel
theorem dX5_image_13 : decode cX5_image 13 = .ok (.ifCond .eq 15, 3) := by decide +kernel
theorem dX5_image_16 : decode cX5_image 16 = .ok (.aload_n 0, 1) := by decide +kernel
theorem dX5_image_17 : decode cX5_image 17 = .ok (.getfield 25, 3) := by decide +kernel
theorem dX5_image_20 : decode cX5_image 20 = .ok (.getfield 100, 3) := by decide +kernel
theorem dX5_image_23 : decode cX5_image 23 = .ok (.iload_n 1, 1) := by decide +kernel
theorem dX5_image_24 : decode cX5_image 24 = .ok (.iaload, 1) := by decide +kernel
theorem dX5_image_25 : decode cX5_image 25 = .ok (.goto 4, 3) := by decide +kernel
theorem dX5_image_28 : decode cX5_image 28 = .ok (.iconst (-1), 1) := by decide +kernel
theorem dX5_image_29 : decode cX5_image 29 = .ok (.ireturn, 1) := by decide +kernel
theorem dX5_next_0 : decode cX5_next 0 = .ok (.aload_n 0, 1) := by decide +kernel
theorem dX5_next_1 : decode cX5_next 1 = .ok (.getfield 96, 3) := by decide +kernel
theorem dX5_next_4 : decode cX5_next 4 = .ok (.ifCond .ne 5, 3) := by decide +kernel
theorem dX5_next_7 : decode cX5_next 7 = .ok (.iconst (-1), 1) := by decide +kernel
theorem dX5_next_8 : decode cX5_next 8 = .ok (.ireturn, 1) := by decide +kernel
theorem dX5_next_9 : decode cX5_next 9 = .ok (.aload_n 0, 1) := by decide +kernel
theorem dX5_next_10 : decode cX5_next 10 = .ok (.aload_n 0, 1) := by decide +kernel
theorem dX5_next_11 : decode cX5_next 11 = .ok (.getfield 25, 3) := by decide +kernel
theorem dX5_next_14 : decode cX5_next 14 = .ok (.aload_n 0, 1) := by decide +kernel
theorem dX5_next_15 : decode cX5_next 15 = .ok (.getfield 9, 3) := by decide +kernel
theorem dX5_next_18 : decode cX5_next 18 = .ok (.iconst 0, 1) := by decide +kernel
theorem dX5_next_19 : decode cX5_next 19 = .ok (.aaload, 1) := by decide +kernel
theorem dX5_next_20 : decode cX5_next 20 = .ok (.aload_n 0, 1) := by decide +kernel
theorem dX5_next_21 : decode cX5_next 21 = .ok (.getfield 9, 3) := by decide +kernel
theorem dX5_next_24 : decode cX5_next 24 = .ok (.iconst 1, 1) := by decide +kernel
theorem dX5_next_25 : decode cX5_next 25 = .ok (.aaload, 1) := by decide +kernel
theorem dX5_next_26 : decode cX5_next 26 = .ok (.invokevirtual 103, 3) := by decide +kernel
theorem dX5_next_29 : decode cX5_next 29 = .ok (.putfield 96, 3) := by decide +kernel
theorem dX5_next_32 : decode cX5_next 32 = .ok (.aload_n 0, 1) := by decide +kernel
theorem dX5_next_33 : decode cX5_next 33 = .ok (.getfield 96, 3) := by decide +kernel
theorem dX5_next_36 : decode cX5_next 36 = .ok (.ifCond .eq 7, 3) := by decide +kernel
theorem dX5_next_39 : decode cX5_next 39 = .ok (.iconst 1, 1) := by decide +kernel
theorem dX5_next_40 : decode cX5_next 40 = .ok (.goto 4, 3) := by decide +kernel
theorem dX5_next_43 : decode cX5_next 43 = .ok (.iconst 0, 1) := by decide +kernel
theorem dX5_next_44 : decode cX5_next 44 = .ok (.ireturn, 1) := by decide +kernel
theorem dX5_symmetries_0 : decode cX5_symmetries 0 = .ok (.iload_n 1, 1) := by decide +kernel
theorem dX5_symmetries_1 : decode cX5_symmetries 1 = .ok (.invokestatic 72, 3) := by decide +kernel
theorem dX5_symmetries_4 : decode cX5_symmetries 4 = .ok (.ifCond .eq 14, 3) := by decide +kernel
theorem dX5_symmetries_7 : decode cX5_symmetries 7 = .ok (.aload_n 0, 1) := by decide +kernel
theorem dX5_symmetries_8 : decode cX5_symmetries 8 = .ok (.iload_n 1, 1) := by decide +kernel
theorem dX5_symmetries_9 : decode cX5_symmetries 9 = .ok (.invokevirtual 106, 3) := by decide +kernel
theorem dX5_symmetries_12 : decode cX5_symmetries 12 = .ok (.getfield 110, 3) := by decide +kernel
theorem dX5_symmetries_15 : decode cX5_symmetries 15 = .ok (.goto 4, 3) := by decide +kernel
theorem dX5_symmetries_18 : decode cX5_symmetries 18 = .ok (.iconst (-1), 1) := by decide +kernel
theorem dX5_symmetries_19 : decode cX5_symmetries 19 = .ok (.ireturn, 1) := by decide +kernel
theorem dX5_orbit_0 : decode cX5_orbit 0 = .ok (.aload_n 0, 1) := by decide +kernel
theorem dX5_orbit_1 : decode cX5_orbit 1 = .ok (.iload_n 1, 1) := by decide +kernel
theorem dX5_orbit_2 : decode cX5_orbit 2 = .ok (.iload_n 2, 1) := by decide +kernel
theorem dX5_orbit_3 : decode cX5_orbit 3 = .ok (.invokevirtual 52, 3) := by decide +kernel
theorem dX5_orbit_6 : decode cX5_orbit 6 = .ok (.ifCond .eq 16, 3) := by decide +kernel
theorem dX5_orbit_9 : decode cX5_orbit 9 = .ok (.aload_n 0, 1) := by decide +kernel
theorem dX5_orbit_10 : decode cX5_orbit 10 = .ok (.iload_n 1, 1) := by decide +kernel
theorem dX5_orbit_11 : decode cX5_orbit 11 = .ok (.invokevirtual 106, 3) := by decide +kernel
theorem dX5_orbit_14 : decode cX5_orbit 14 = .ok (.getfield 113, 3) := by decide +kernel
theorem dX5_orbit_17 : decode cX5_orbit 17 = .ok (.iload_n 2, 1) := by decide +kernel
theorem dX5_orbit_18 : decode cX5_orbit 18 = .ok (.iaload, 1) := by decide +kernel
theorem dX5_orbit_19 : decode cX5_orbit 19 = .ok (.goto 4, 3) := by decide +kernel
theorem dX5_orbit_22 : decode cX5_orbit 22 = .ok (.iconst (-1), 1) := by decide +kernel
theorem dX5_orbit_23 : decode cX5_orbit 23 = .ok (.ireturn, 1) := by decide +kernel
theorem dX5_form_0 : decode cX5_form 0 = .ok (.iload_n 1, 1) := by decide +kernel
theorem dX5_form_1 : decode cX5_form 1 = .ok (.invokestatic 72, 3) := by decide +kernel
theorem dX5_form_4 : decode cX5_form 4 = .ok (.ifCond .eq 15, 3) := by decide +kernel
theorem dX5_form_7 : decode cX5_form 7 = .ok (.iload_n 2, 1) := by decide +kernel
theorem dX5_form_8 : decode cX5_form 8 = .ok (.ifCond .lt 11, 3) := by decide +kernel
theorem dX5_form_11 : decode cX5_form 11 = .ok (.iload_n 2, 1) := by decide +kernel
theorem dX5_form_12 : decode cX5_form 12 = .ok (.aload_n 0, 1) := by decide +kernel
theorem dX5_form_13 : decode cX5_form 13 = .ok (.invokevirtual 116, 3) := by decide +kernel
theorem dX5_form_16 : decode cX5_form 16 = .ok (.if_icmp .lt 5, 3) := by decide +kernel
theorem dX5_form_19 : decode cX5_form 19 = .ok (.iconst (-1), 1) := by decide +kernel
theorem dX5_form_20 : decode cX5_form 20 = .ok (.ireturn, 1) := by decide +kernel
theorem dX5_form_21 : decode cX5_form 21 = .ok (.aload_n 0, 1) := by decide +kernel
theorem dX5_form_22 : decode cX5_form 22 = .ok (.iload_n 1, 1) := by decide +kernel
theorem dX5_form_23 : decode cX5_form 23 = .ok (.invokevirtual 120, 3) := by decide +kernel
theorem dX5_form_26 : decode cX5_form 26 = .ok (.iload_n 2, 1) := by decide +kernel
theorem dX5_form_27 : decode cX5_form 27 = .ok (.invokevirtual 123, 3) := by decide +kernel
theorem dX5_form_30 : decode cX5_form 30 = .ok (.ireturn, 1) := by decide +kernel
theorem dX5_compare_0 : decode cX5_compare 0 = .ok (.iload_n 1, 1) := by decide +kernel
theorem dX5_compare_1 : decode cX5_compare 1 = .ok (.invokestatic 72, 3) := by decide +kernel
theorem dX5_compare_4 : decode cX5_compare 4 = .ok (.ifCond .ne 6, 3) := by decide +kernel
theorem dX5_compare_7 : decode cX5_compare 7 = .ok (.bipush (-2), 2) := by decide +kernel
theorem dX5_compare_9 : decode cX5_compare 9 = .ok (.ireturn, 1) := by decide +kernel
theorem dX5_compare_10 : decode cX5_compare 10 = .ok (.aload_n 0, 1) := by decide +kernel
theorem dX5_compare_11 : decode cX5_compare 11 = .ok (.iload_n 1, 1) := by decide +kernel
theorem dX5_compare_12 : decode cX5_compare 12 = .ok (.invokevirtual 120, 3) := by decide +kernel
theorem dX5_compare_15 : decode cX5_compare 15 = .ok (.getfield 127, 3) := by decide +kernel
theorem dX5_compare_18 : decode cX5_compare 18 = .ok (.aload_n 0, 1) := by decide +kernel
theorem dX5_compare_19 : decode cX5_compare 19 = .ok (.iconst 1, 1) := by decide +kernel
theorem dX5_compare_20 : decode cX5_compare 20 = .ok (.iload_n 1, 1) := by decide +kernel
theorem dX5_compare_21 : decode cX5_compare 21 = .ok (.isub, 1) := by decide +kernel
theorem dX5_compare_22 : decode cX5_compare 22 = .ok (.invokevirtual 120, 3) := by decide +kernel
theorem dX5_compare_25 : decode cX5_compare 25 = .ok (.getfield 127, 3) := by decide +kernel
theorem dX5_compare_28 : decode cX5_compare 28 = .ok (.aload_n 0, 1) := by decide +kernel
theorem dX5_compare_29 : decode cX5_compare 29 = .ok (.getfield 9, 3) := by decide +kernel
theorem dX5_compare_32 : decode cX5_compare 32 = .ok (.iload_n 1, 1) := by decide +kernel
theorem dX5_compare_33 : decode cX5_compare 33 = .ok (.aaload, 1) := by decide +kernel
theorem dX5_compare_34 : decode cX5_compare 34 = .ok (.getfield 131, 3) := by decide +kernel
theorem dX5_compare_37 : decode cX5_compare 37 = .ok (.invokestatic 134, 3) := by decide +kernel
theorem dX5_compare_40 : decode cX5_compare 40 = .ok (.ireturn, 1) := by decide +kernel
theorem dX5_count_0 : decode cX5_count 0 = .ok (.iload_n 1, 1) := by decide +kernel
theorem dX5_count_1 : decode cX5_count 1 = .ok (.tableswitch 83 0 4 #[35, 45, 55, 65, 78], 35) := by decide +kernel
theorem dX5_count_36 : decode cX5_count 36 = .ok (.aload_n 0, 1) := by decide +kernel
theorem dX5_count_37 : decode cX5_count 37 = .ok (.getfield 9, 3) := by decide +kernel
theorem dX5_count_40 : decode cX5_count 40 = .ok (.iconst 0, 1) := by decide +kernel
theorem dX5_count_41 : decode cX5_count 41 = .ok (.aaload, 1) := by decide +kernel
theorem dX5_count_42 : decode cX5_count 42 = .ok (.getfield 131, 3) := by decide +kernel
theorem dX5_count_45 : decode cX5_count 45 = .ok (.ireturn, 1) := by decide +kernel
theorem dX5_count_46 : decode cX5_count 46 = .ok (.aload_n 0, 1) := by decide +kernel
theorem dX5_count_47 : decode cX5_count 47 = .ok (.getfield 9, 3) := by decide +kernel
theorem dX5_count_50 : decode cX5_count 50 = .ok (.iconst 0, 1) := by decide +kernel
theorem dX5_count_51 : decode cX5_count 51 = .ok (.aaload, 1) := by decide +kernel
theorem dX5_count_52 : decode cX5_count 52 = .ok (.invokevirtual 138, 3) := by decide +kernel
theorem dX5_count_55 : decode cX5_count 55 = .ok (.ireturn, 1) := by decide +kernel
theorem dX5_count_56 : decode cX5_count 56 = .ok (.aload_n 0, 1) := by decide +kernel
theorem dX5_count_57 : decode cX5_count 57 = .ok (.getfield 9, 3) := by decide +kernel
theorem dX5_count_60 : decode cX5_count 60 = .ok (.iconst 1, 1) := by decide +kernel
theorem dX5_count_61 : decode cX5_count 61 = .ok (.aaload, 1) := by decide +kernel
theorem dX5_count_62 : decode cX5_count 62 = .ok (.invokevirtual 138, 3) := by decide +kernel
theorem dX5_count_65 : decode cX5_count 65 = .ok (.ireturn, 1) := by decide +kernel
theorem dX5_count_66 : decode cX5_count 66 = .ok (.aload_n 0, 1) := by decide +kernel
theorem dX5_count_67 : decode cX5_count 67 = .ok (.getfield 96, 3) := by decide +kernel
theorem dX5_count_70 : decode cX5_count 70 = .ok (.ifCond .eq 7, 3) := by decide +kernel
theorem dX5_count_73 : decode cX5_count 73 = .ok (.iconst 1, 1) := by decide +kernel
theorem dX5_count_74 : decode cX5_count 74 = .ok (.goto 4, 3) := by decide +kernel
theorem dX5_count_77 : decode cX5_count 77 = .ok (.iconst 0, 1) := by decide +kernel
theorem dX5_count_78 : decode cX5_count 78 = .ok (.ireturn, 1) := by decide +kernel
theorem dX5_count_79 : decode cX5_count 79 = .ok (.aload_n 0, 1) := by decide +kernel
theorem dX5_count_80 : decode cX5_count 80 = .ok (.invokevirtual 116, 3) := by decide +kernel
theorem dX5_count_83 : decode cX5_count 83 = .ok (.ireturn, 1) := by decide +kernel
theorem dX5_count_84 : decode cX5_count 84 = .ok (.iconst (-1), 1) := by decide +kernel
theorem dX5_count_85 : decode cX5_count 85 = .ok (.ireturn, 1) := by decide +kernel
theorem dX5_isGraph_0 : decode cX5_isGraph 0 = .ok (.iload_n 0, 1) := by decide +kernel
theorem dX5_isGraph_1 : decode cX5_isGraph 1 = .ok (.ifCond .eq 8, 3) := by decide +kernel
theorem dX5_isGraph_4 : decode cX5_isGraph 4 = .ok (.iload_n 0, 1) := by decide +kernel
theorem dX5_isGraph_5 : decode cX5_isGraph 5 = .ok (.iconst 1, 1) := by decide +kernel
theorem dX5_isGraph_6 : decode cX5_isGraph 6 = .ok (.if_icmp .ne 7, 3) := by decide +kernel
theorem dX5_isGraph_9 : decode cX5_isGraph 9 = .ok (.iconst 1, 1) := by decide +kernel
theorem dX5_isGraph_10 : decode cX5_isGraph 10 = .ok (.goto 4, 3) := by decide +kernel
theorem dX5_isGraph_13 : decode cX5_isGraph 13 = .ok (.iconst 0, 1) := by decide +kernel
theorem dX5_isGraph_14 : decode cX5_isGraph 14 = .ok (.ireturn, 1) := by decide +kernel
theorem dX5_isVertex_0 : decode cX5_isVertex 0 = .ok (.iload_n 1, 1) := by decide +kernel
theorem dX5_isVertex_1 : decode cX5_isVertex 1 = .ok (.invokestatic 72, 3) := by decide +kernel
theorem dX5_isVertex_4 : decode cX5_isVertex 4 = .ok (.ifCond .eq 24, 3) := by decide +kernel
theorem dX5_isVertex_7 : decode cX5_isVertex 7 = .ok (.iload_n 2, 1) := by decide +kernel
theorem dX5_isVertex_8 : decode cX5_isVertex 8 = .ok (.ifCond .lt 20, 3) := by decide +kernel
theorem dX5_isVertex_11 : decode cX5_isVertex 11 = .ok (.iload_n 2, 1) := by decide +kernel
theorem dX5_isVertex_12 : decode cX5_isVertex 12 = .ok (.aload_n 0, 1) := by decide +kernel
theorem dX5_isVertex_13 : decode cX5_isVertex 13 = .ok (.getfield 9, 3) := by decide +kernel
theorem dX5_isVertex_16 : decode cX5_isVertex 16 = .ok (.iload_n 1, 1) := by decide +kernel
theorem dX5_isVertex_17 : decode cX5_isVertex 17 = .ok (.aaload, 1) := by decide +kernel
theorem dX5_isVertex_18 : decode cX5_isVertex 18 = .ok (.getfield 131, 3) := by decide +kernel
theorem dX5_isVertex_21 : decode cX5_isVertex 21 = .ok (.if_icmp .ge 7, 3) := by decide +kernel
theorem dX5_isVertex_24 : decode cX5_isVertex 24 = .ok (.iconst 1, 1) := by decide +kernel
theorem dX5_isVertex_25 : decode cX5_isVertex 25 = .ok (.goto 4, 3) := by decide +kernel
theorem dX5_isVertex_28 : decode cX5_isVertex 28 = .ok (.iconst 0, 1) := by decide +kernel
theorem dX5_isVertex_29 : decode cX5_isVertex 29 = .ok (.ireturn, 1) := by decide +kernel
theorem dX5_isMark_0 : decode cX5_isMark 0 = .ok (.iload_n 0, 1) := by decide +kernel
theorem dX5_isMark_1 : decode cX5_isMark 1 = .ok (.ifCond .lt 12, 3) := by decide +kernel
theorem dX5_isMark_4 : decode cX5_isMark 4 = .ok (.iload_n 0, 1) := by decide +kernel
theorem dX5_isMark_5 : decode cX5_isMark 5 = .ok (.iconst 3, 1) := by decide +kernel
theorem dX5_isMark_6 : decode cX5_isMark 6 = .ok (.if_icmp .gt 7, 3) := by decide +kernel
theorem dX5_isMark_9 : decode cX5_isMark 9 = .ok (.iconst 1, 1) := by decide +kernel
theorem dX5_isMark_10 : decode cX5_isMark 10 = .ok (.goto 4, 3) := by decide +kernel
theorem dX5_isMark_13 : decode cX5_isMark 13 = .ok (.iconst 0, 1) := by decide +kernel
theorem dX5_isMark_14 : decode cX5_isMark 14 = .ok (.ireturn, 1) := by decide +kernel
theorem dX5_formLength_0 : decode cX5_formLength 0 = .ok (.aload_n 0, 1) := by decide +kernel
theorem dX5_formLength_1 : decode cX5_formLength 1 = .ok (.getfield 9, 3) := by decide +kernel
theorem dX5_formLength_4 : decode cX5_formLength 4 = .ok (.iconst 0, 1) := by decide +kernel
theorem dX5_formLength_5 : decode cX5_formLength 5 = .ok (.aaload, 1) := by decide +kernel
theorem dX5_formLength_6 : decode cX5_formLength 6 = .ok (.getfield 131, 3) := by decide +kernel
theorem dX5_formLength_9 : decode cX5_formLength 9 = .ok (.aload_n 0, 1) := by decide +kernel
theorem dX5_formLength_10 : decode cX5_formLength 10 = .ok (.getfield 9, 3) := by decide +kernel
theorem dX5_formLength_13 : decode cX5_formLength 13 = .ok (.iconst 0, 1) := by decide +kernel
theorem dX5_formLength_14 : decode cX5_formLength 14 = .ok (.aaload, 1) := by decide +kernel
theorem dX5_formLength_15 : decode cX5_formLength 15 = .ok (.getfield 131, 3) := by decide +kernel
theorem dX5_formLength_18 : decode cX5_formLength 18 = .ok (.imul, 1) := by decide +kernel
theorem dX5_formLength_19 : decode cX5_formLength 19 = .ok (.ireturn, 1) := by decide +kernel
theorem dX5_noteChange_0 : decode cX5_noteChange 0 = .ok (.aload_n 1, 1) := by decide +kernel
theorem dX5_noteChange_1 : decode cX5_noteChange 1 = .ok (.iconst 0, 1) := by decide +kernel
theorem dX5_noteChange_2 : decode cX5_noteChange 2 = .ok (.putfield 141, 3) := by decide +kernel
theorem dX5_noteChange_5 : decode cX5_noteChange 5 = .ok (.aload_n 1, 1) := by decide +kernel
theorem dX5_noteChange_6 : decode cX5_noteChange 6 = .ok (.iconst 0, 1) := by decide +kernel
theorem dX5_noteChange_7 : decode cX5_noteChange 7 = .ok (.putfield 144, 3) := by decide +kernel
theorem dX5_noteChange_10 : decode cX5_noteChange 10 = .ok (.aload_n 0, 1) := by decide +kernel
theorem dX5_noteChange_11 : decode cX5_noteChange 11 = .ok (.iconst 0, 1) := by decide +kernel
theorem dX5_noteChange_12 : decode cX5_noteChange 12 = .ok (.putfield 147, 3) := by decide +kernel
theorem dX5_noteChange_15 : decode cX5_noteChange 15 = .ok (.aload_n 0, 1) := by decide +kernel
theorem dX5_noteChange_16 : decode cX5_noteChange 16 = .ok (.iconst 0, 1) := by decide +kernel
theorem dX5_noteChange_17 : decode cX5_noteChange 17 = .ok (.putfield 96, 3) := by decide +kernel
theorem dX5_noteChange_20 : decode cX5_noteChange 20 = .ok (.return_, 1) := by decide +kernel
theorem dX5_paintGraphs_0 : decode cX5_paintGraphs 0 = .ok (.aload_n 0, 1) := by decide +kernel
theorem dX5_paintGraphs_1 : decode cX5_paintGraphs 1 = .ok (.getfield 147, 3) := by decide +kernel
theorem dX5_paintGraphs_4 : decode cX5_paintGraphs 4 = .ok (.ifCond .ne 19, 3) := by decide +kernel
theorem dX5_paintGraphs_7 : decode cX5_paintGraphs 7 = .ok (.aload_n 0, 1) := by decide +kernel
theorem dX5_paintGraphs_8 : decode cX5_paintGraphs 8 = .ok (.getfield 18, 3) := by decide +kernel
theorem dX5_paintGraphs_11 : decode cX5_paintGraphs 11 = .ok (.aload_n 0, 1) := by decide +kernel
theorem dX5_paintGraphs_12 : decode cX5_paintGraphs 12 = .ok (.getfield 9, 3) := by decide +kernel
theorem dX5_paintGraphs_15 : decode cX5_paintGraphs 15 = .ok (.invokevirtual 150, 3) := by decide +kernel
theorem dX5_paintGraphs_18 : decode cX5_paintGraphs 18 = .ok (.aload_n 0, 1) := by decide +kernel
theorem dX5_paintGraphs_19 : decode cX5_paintGraphs 19 = .ok (.iconst 1, 1) := by decide +kernel
theorem dX5_paintGraphs_20 : decode cX5_paintGraphs 20 = .ok (.putfield 147, 3) := by decide +kernel
theorem dX5_paintGraphs_23 : decode cX5_paintGraphs 23 = .ok (.return_, 1) := by decide +kernel
theorem dX5_withSymmetries_0 : decode cX5_withSymmetries 0 = .ok (.aload_n 0, 1) := by decide +kernel
theorem dX5_withSymmetries_1 : decode cX5_withSymmetries 1 = .ok (.getfield 9, 3) := by decide +kernel
theorem dX5_withSymmetries_4 : decode cX5_withSymmetries 4 = .ok (.iload_n 1, 1) := by decide +kernel
theorem dX5_withSymmetries_5 : decode cX5_withSymmetries 5 = .ok (.aaload, 1) := by decide +kernel
theorem dX5_withSymmetries_6 : decode cX5_withSymmetries 6 = .ok (.astore_n 2, 1) := by decide +kernel
theorem dX5_withSymmetries_7 : decode cX5_withSymmetries 7 = .ok (.aload_n 2, 1) := by decide +kernel
theorem dX5_withSymmetries_8 : decode cX5_withSymmetries 8 = .ok (.getfield 141, 3) := by decide +kernel
theorem dX5_withSymmetries_11 : decode cX5_withSymmetries 11 = .ok (.ifCond .ne 20, 3) := by decide +kernel
theorem dX5_withSymmetries_14 : decode cX5_withSymmetries 14 = .ok (.aload_n 0, 1) := by decide +kernel
theorem dX5_withSymmetries_15 : decode cX5_withSymmetries 15 = .ok (.invokevirtual 78, 3) := by decide +kernel
theorem dX5_withSymmetries_18 : decode cX5_withSymmetries 18 = .ok (.aload_n 0, 1) := by decide +kernel
theorem dX5_withSymmetries_19 : decode cX5_withSymmetries 19 = .ok (.getfield 32, 3) := by decide +kernel
theorem dX5_withSymmetries_22 : decode cX5_withSymmetries 22 = .ok (.aload_n 2, 1) := by decide +kernel
theorem dX5_withSymmetries_23 : decode cX5_withSymmetries 23 = .ok (.invokevirtual 154, 3) := by decide +kernel
theorem dX5_withSymmetries_26 : decode cX5_withSymmetries 26 = .ok (.aload_n 2, 1) := by decide +kernel
theorem dX5_withSymmetries_27 : decode cX5_withSymmetries 27 = .ok (.iconst 1, 1) := by decide +kernel
theorem dX5_withSymmetries_28 : decode cX5_withSymmetries 28 = .ok (.putfield 141, 3) := by decide +kernel
theorem dX5_withSymmetries_31 : decode cX5_withSymmetries 31 = .ok (.aload_n 2, 1) := by decide +kernel
theorem dX5_withSymmetries_32 : decode cX5_withSymmetries 32 = .ok (.areturn, 1) := by decide +kernel
theorem dX5_withForm_0 : decode cX5_withForm 0 = .ok (.aload_n 0, 1) := by decide +kernel
theorem dX5_withForm_1 : decode cX5_withForm 1 = .ok (.getfield 9, 3) := by decide +kernel
theorem dX5_withForm_4 : decode cX5_withForm 4 = .ok (.iload_n 1, 1) := by decide +kernel
theorem dX5_withForm_5 : decode cX5_withForm 5 = .ok (.aaload, 1) := by decide +kernel
theorem dX5_withForm_6 : decode cX5_withForm 6 = .ok (.astore_n 2, 1) := by decide +kernel
theorem dX5_withForm_7 : decode cX5_withForm 7 = .ok (.aload_n 2, 1) := by decide +kernel
theorem dX5_withForm_8 : decode cX5_withForm 8 = .ok (.getfield 144, 3) := by decide +kernel
theorem dX5_withForm_11 : decode cX5_withForm 11 = .ok (.ifCond .ne 16, 3) := by decide +kernel
theorem dX5_withForm_14 : decode cX5_withForm 14 = .ok (.aload_n 0, 1) := by decide +kernel
theorem dX5_withForm_15 : decode cX5_withForm 15 = .ok (.getfield 39, 3) := by decide +kernel
theorem dX5_withForm_18 : decode cX5_withForm 18 = .ok (.aload_n 2, 1) := by decide +kernel
theorem dX5_withForm_19 : decode cX5_withForm 19 = .ok (.invokevirtual 157, 3) := by decide +kernel
theorem dX5_withForm_22 : decode cX5_withForm 22 = .ok (.aload_n 2, 1) := by decide +kernel
theorem dX5_withForm_23 : decode cX5_withForm 23 = .ok (.iconst 1, 1) := by decide +kernel
theorem dX5_withForm_24 : decode cX5_withForm 24 = .ok (.putfield 144, 3) := by decide +kernel
theorem dX5_withForm_27 : decode cX5_withForm 27 = .ok (.aload_n 2, 1) := by decide +kernel
theorem dX5_withForm_28 : decode cX5_withForm 28 = .ok (.areturn, 1) := by decide +kernel
theorem dX5_compareRows_0 : decode cX5_compareRows 0 = .ok (.iconst 0, 1) := by decide +kernel
theorem dX5_compareRows_1 : decode cX5_compareRows 1 = .ok (.istore_n 3, 1) := by decide +kernel
theorem dX5_compareRows_2 : decode cX5_compareRows 2 = .ok (.iload_n 3, 1) := by decide +kernel
theorem dX5_compareRows_3 : decode cX5_compareRows 3 = .ok (.iload_n 2, 1) := by decide +kernel
theorem dX5_compareRows_4 : decode cX5_compareRows 4 = .ok (.if_icmp .ge 35, 3) := by decide +kernel
theorem dX5_compareRows_7 : decode cX5_compareRows 7 = .ok (.aload_n 0, 1) := by decide +kernel
theorem dX5_compareRows_8 : decode cX5_compareRows 8 = .ok (.iload_n 3, 1) := by decide +kernel
theorem dX5_compareRows_9 : decode cX5_compareRows 9 = .ok (.laload, 1) := by decide +kernel
theorem dX5_compareRows_10 : decode cX5_compareRows 10 = .ok (.aload_n 1, 1) := by decide +kernel
theorem dX5_compareRows_11 : decode cX5_compareRows 11 = .ok (.iload_n 3, 1) := by decide +kernel
theorem dX5_compareRows_12 : decode cX5_compareRows 12 = .ok (.laload, 1) := by decide +kernel
theorem dX5_compareRows_13 : decode cX5_compareRows 13 = .ok (.lcmp, 1) := by decide +kernel
theorem dX5_compareRows_14 : decode cX5_compareRows 14 = .ok (.ifCond .eq 19, 3) := by decide +kernel
theorem dX5_compareRows_17 : decode cX5_compareRows 17 = .ok (.aload_n 0, 1) := by decide +kernel
theorem dX5_compareRows_18 : decode cX5_compareRows 18 = .ok (.iload_n 3, 1) := by decide +kernel
theorem dX5_compareRows_19 : decode cX5_compareRows 19 = .ok (.laload, 1) := by decide +kernel
theorem dX5_compareRows_20 : decode cX5_compareRows 20 = .ok (.aload_n 1, 1) := by decide +kernel
theorem dX5_compareRows_21 : decode cX5_compareRows 21 = .ok (.iload_n 3, 1) := by decide +kernel
theorem dX5_compareRows_22 : decode cX5_compareRows 22 = .ok (.laload, 1) := by decide +kernel
theorem dX5_compareRows_23 : decode cX5_compareRows 23 = .ok (.lcmp, 1) := by decide +kernel
theorem dX5_compareRows_24 : decode cX5_compareRows 24 = .ok (.ifCond .ge 7, 3) := by decide +kernel
theorem dX5_compareRows_27 : decode cX5_compareRows 27 = .ok (.iconst (-1), 1) := by decide +kernel
theorem dX5_compareRows_28 : decode cX5_compareRows 28 = .ok (.goto 4, 3) := by decide +kernel
theorem dX5_compareRows_31 : decode cX5_compareRows 31 = .ok (.iconst 1, 1) := by decide +kernel
theorem dX5_compareRows_32 : decode cX5_compareRows 32 = .ok (.ireturn, 1) := by decide +kernel
theorem dX5_compareRows_33 : decode cX5_compareRows 33 = .ok (.iinc 3 1, 3) := by decide +kernel
theorem dX5_compareRows_36 : decode cX5_compareRows 36 = .ok (.goto (-34), 3) := by decide +kernel
theorem dX5_compareRows_39 : decode cX5_compareRows 39 = .ok (.iconst 0, 1) := by decide +kernel
theorem dX5_compareRows_40 : decode cX5_compareRows 40 = .ok (.ireturn, 1) := by decide +kernel
