theorem dX1_init_0 : decode cX1_init 0 = .ok (.aload_n 0, 1) := by decide +kernel
theorem dX1_init_1 : decode cX1_init 1 = .ok (.invokespecial 3, 3) := by decide +kernel
theorem dX1_init_4 : decode cX1_init 4 = .ok (.aload_n 0, 1) := by decide +kernel
theorem dX1_init_5 : decode cX1_init 5 = .ok (.iconst 1, 1) := by decide +kernel
theorem dX1_init_6 : decode cX1_init 6 = .ok (.putfield 9, 3) := by decide +kernel
theorem dX1_init_9 : decode cX1_init 9 = .ok (.aload_n 0, 1) := by decide +kernel
theorem dX1_init_10 : decode cX1_init 10 = .ok (.bipush 9, 2) := by decide +kernel
theorem dX1_init_12 : decode cX1_init 12 = .ok (.newarray .int, 2) := by decide +kernel
theorem dX1_init_14 : decode cX1_init 14 = .ok (.putfield 15, 3) := by decide +kernel
theorem dX1_init_17 : decode cX1_init 17 = .ok (.aload_n 0, 1) := by decide +kernel
theorem dX1_init_18 : decode cX1_init 18 = .ok (.bipush 9, 2) := by decide +kernel
theorem dX1_init_20 : decode cX1_init 20 = .ok (.bipush 9, 2) := by decide +kernel
theorem dX1_init_22 : decode cX1_init 22 = .ok (.multianewarray 19 2, 4) := by decide +kernel
theorem dX1_init_26 : decode cX1_init 26 = .ok (.putfield 21, 3) := by decide +kernel
theorem dX1_init_29 : decode cX1_init 29 = .ok (.aload_n 0, 1) := by decide +kernel
theorem dX1_init_30 : decode cX1_init 30 = .ok (.bipush 9, 2) := by decide +kernel
theorem dX1_init_32 : decode cX1_init 32 = .ok (.newarray .int, 2) := by decide +kernel
theorem dX1_init_34 : decode cX1_init 34 = .ok (.putfield 24, 3) := by decide +kernel
theorem dX1_init_37 : decode cX1_init 37 = .ok (.aload_n 0, 1) := by decide +kernel
theorem dX1_init_38 : decode cX1_init 38 = .ok (.bipush 9, 2) := by decide +kernel
theorem dX1_init_40 : decode cX1_init 40 = .ok (.newarray .int, 2) := by decide +kernel
theorem dX1_init_42 : decode cX1_init 42 = .ok (.putfield 27, 3) := by decide +kernel
theorem dX1_init_45 : decode cX1_init 45 = .ok (.aload_n 0, 1) := by decide +kernel
theorem dX1_init_46 : decode cX1_init 46 = .ok (.bipush 9, 2) := by decide +kernel
theorem dX1_init_48 : decode cX1_init 48 = .ok (.newarray .long, 2) := by decide +kernel
theorem dX1_init_50 : decode cX1_init 50 = .ok (.putfield 30, 3) := by decide +kernel
theorem dX1_init_53 : decode cX1_init 53 = .ok (.return_, 1) := by decide +kernel
theorem dX1_empty_0 : decode cX1_empty 0 = .ok (.aload_n 0, 1) := by decide +kernel
theorem dX1_empty_1 : decode cX1_empty 1 = .ok (.iload_n 1, 1) := by decide +kernel
theorem dX1_empty_2 : decode cX1_empty 2 = .ok (.putfield 9, 3) := by decide +kernel
theorem dX1_empty_5 : decode cX1_empty 5 = .ok (.aload_n 0, 1) := by decide +kernel
theorem dX1_empty_6 : decode cX1_empty 6 = .ok (.getfield 15, 3) := by decide +kernel
theorem dX1_empty_9 : decode cX1_empty 9 = .ok (.iconst 0, 1) := by decide +kernel
theorem dX1_empty_10 : decode cX1_empty 10 = .ok (.invokestatic 34, 3) := by decide +kernel
theorem dX1_empty_13 : decode cX1_empty 13 = .ok (.iconst 0, 1) := by decide +kernel
theorem dX1_empty_14 : decode cX1_empty 14 = .ok (.istore_n 2, 1) := by decide +kernel
theorem dX1_empty_15 : decode cX1_empty 15 = .ok (.iload_n 2, 1) := by decide +kernel
theorem dX1_empty_16 : decode cX1_empty 16 = .ok (.bipush 9, 2) := by decide +kernel
theorem dX1_empty_18 : decode cX1_empty 18 = .ok (.if_icmp .ge 19, 3) := by decide +kernel
theorem dX1_empty_21 : decode cX1_empty 21 = .ok (.aload_n 0, 1) := by decide +kernel
theorem dX1_empty_22 : decode cX1_empty 22 = .ok (.getfield 21, 3) := by decide +kernel
theorem dX1_empty_25 : decode cX1_empty 25 = .ok (.iload_n 2, 1) := by decide +kernel
theorem dX1_empty_26 : decode cX1_empty 26 = .ok (.aaload, 1) := by decide +kernel
theorem dX1_empty_27 : decode cX1_empty 27 = .ok (.iconst 0, 1) := by decide +kernel
theorem dX1_empty_28 : decode cX1_empty 28 = .ok (.invokestatic 34, 3) := by decide +kernel
theorem dX1_empty_31 : decode cX1_empty 31 = .ok (.iinc 2 1, 3) := by decide +kernel
theorem dX1_empty_34 : decode cX1_empty 34 = .ok (.goto (-19), 3) := by decide +kernel
theorem dX1_empty_37 : decode cX1_empty 37 = .ok (.return_, 1) := by decide +kernel
theorem dX1_become_0 : decode cX1_become 0 = .ok (.aload_n 1, 1) := by decide +kernel
theorem dX1_become_1 : decode cX1_become 1 = .ok (.getfield 15, 3) := by decide +kernel
theorem dX1_become_4 : decode cX1_become 4 = .ok (.iconst 0, 1) := by decide +kernel
theorem dX1_become_5 : decode cX1_become 5 = .ok (.aload_n 0, 1) := by decide +kernel
theorem dX1_become_6 : decode cX1_become 6 = .ok (.getfield 15, 3) := by decide +kernel
theorem dX1_become_9 : decode cX1_become 9 = .ok (.iconst 0, 1) := by decide +kernel
theorem dX1_become_10 : decode cX1_become 10 = .ok (.bipush 9, 2) := by decide +kernel
theorem dX1_become_12 : decode cX1_become 12 = .ok (.invokestatic 40, 3) := by decide +kernel
theorem dX1_become_15 : decode cX1_become 15 = .ok (.iconst 0, 1) := by decide +kernel
theorem dX1_become_16 : decode cX1_become 16 = .ok (.istore_n 2, 1) := by decide +kernel
theorem dX1_become_17 : decode cX1_become 17 = .ok (.iload_n 2, 1) := by decide +kernel
theorem dX1_become_18 : decode cX1_become 18 = .ok (.bipush 9, 2) := by decide +kernel
theorem dX1_become_20 : decode cX1_become 20 = .ok (.if_icmp .ge 28, 3) := by decide +kernel
theorem dX1_become_23 : decode cX1_become 23 = .ok (.aload_n 1, 1) := by decide +kernel
theorem dX1_become_24 : decode cX1_become 24 = .ok (.getfield 21, 3) := by decide +kernel
theorem dX1_become_27 : decode cX1_become 27 = .ok (.iload_n 2, 1) := by decide +kernel
theorem dX1_become_28 : decode cX1_become 28 = .ok (.aaload, 1) := by decide +kernel
theorem dX1_become_29 : decode cX1_become 29 = .ok (.iconst 0, 1) := by decide +kernel
theorem dX1_become_30 : decode cX1_become 30 = .ok (.aload_n 0, 1) := by decide +kernel
theorem dX1_become_31 : decode cX1_become 31 = .ok (.getfield 21, 3) := by decide +kernel
theorem dX1_become_34 : decode cX1_become 34 = .ok (.iload_n 2, 1) := by decide +kernel
theorem dX1_become_35 : decode cX1_become 35 = .ok (.aaload, 1) := by decide +kernel
theorem dX1_become_36 : decode cX1_become 36 = .ok (.iconst 0, 1) := by decide +kernel
theorem dX1_become_37 : decode cX1_become 37 = .ok (.bipush 9, 2) := by decide +kernel
theorem dX1_become_39 : decode cX1_become 39 = .ok (.invokestatic 40, 3) := by decide +kernel
theorem dX1_become_42 : decode cX1_become 42 = .ok (.iinc 2 1, 3) := by decide +kernel
theorem dX1_become_45 : decode cX1_become 45 = .ok (.goto (-28), 3) := by decide +kernel
theorem dX1_become_48 : decode cX1_become 48 = .ok (.return_, 1) := by decide +kernel
theorem dX1_swap_0 : decode cX1_swap 0 = .ok (.aload_n 0, 1) := by decide +kernel
theorem dX1_swap_1 : decode cX1_swap 1 = .ok (.getfield 15, 3) := by decide +kernel
theorem dX1_swap_4 : decode cX1_swap 4 = .ok (.iload_n 1, 1) := by decide +kernel
theorem dX1_swap_5 : decode cX1_swap 5 = .ok (.iaload, 1) := by decide +kernel
theorem dX1_swap_6 : decode cX1_swap 6 = .ok (.istore_n 3, 1) := by decide +kernel
theorem dX1_swap_7 : decode cX1_swap 7 = .ok (.aload_n 0, 1) := by decide +kernel
theorem dX1_swap_8 : decode cX1_swap 8 = .ok (.getfield 15, 3) := by decide +kernel
theorem dX1_swap_11 : decode cX1_swap 11 = .ok (.iload_n 1, 1) := by decide +kernel
theorem dX1_swap_12 : decode cX1_swap 12 = .ok (.aload_n 0, 1) := by decide +kernel
theorem dX1_swap_13 : decode cX1_swap 13 = .ok (.getfield 15, 3) := by decide +kernel
theorem dX1_swap_16 : decode cX1_swap 16 = .ok (.iload_n 2, 1) := by decide +kernel
theorem dX1_swap_17 : decode cX1_swap 17 = .ok (.iaload, 1) := by decide +kernel
theorem dX1_swap_18 : decode cX1_swap 18 = .ok (.iastore, 1) := by decide +kernel
theorem dX1_swap_19 : decode cX1_swap 19 = .ok (.aload_n 0, 1) := by decide +kernel
theorem dX1_swap_20 : decode cX1_swap 20 = .ok (.getfield 15, 3) := by decide +kernel
theorem dX1_swap_23 : decode cX1_swap 23 = .ok (.iload_n 2, 1) := by decide +kernel
theorem dX1_swap_24 : decode cX1_swap 24 = .ok (.iload_n 3, 1) := by decide +kernel
theorem dX1_swap_25 : decode cX1_swap 25 = .ok (.iastore, 1) := by decide +kernel
theorem dX1_swap_26 : decode cX1_swap 26 = .ok (.iconst 0, 1) := by decide +kernel
theorem dX1_swap_27 : decode cX1_swap 27 = .ok (.istore 4, 2) := by decide +kernel
theorem dX1_swap_29 : decode cX1_swap 29 = .ok (.iload 4, 2) := by decide +kernel
theorem dX1_swap_31 : decode cX1_swap 31 = .ok (.aload_n 0, 1) := by decide +kernel
theorem dX1_swap_32 : decode cX1_swap 32 = .ok (.getfield 9, 3) := by decide +kernel
theorem dX1_swap_35 : decode cX1_swap 35 = .ok (.if_icmp .ge 49, 3) := by decide +kernel
theorem dX1_swap_38 : decode cX1_swap 38 = .ok (.aload_n 0, 1) := by decide +kernel
theorem dX1_swap_39 : decode cX1_swap 39 = .ok (.getfield 21, 3) := by decide +kernel
theorem dX1_swap_42 : decode cX1_swap 42 = .ok (.iload_n 1, 1) := by decide +kernel
theorem dX1_swap_43 : decode cX1_swap 43 = .ok (.aaload, 1) := by decide +kernel
theorem dX1_swap_44 : decode cX1_swap 44 = .ok (.iload 4, 2) := by decide +kernel
theorem dX1_swap_46 : decode cX1_swap 46 = .ok (.iaload, 1) := by decide +kernel
theorem dX1_swap_47 : decode cX1_swap 47 = .ok (.istore 5, 2) := by decide +kernel
theorem dX1_swap_49 : decode cX1_swap 49 = .ok (.aload_n 0, 1) := by decide +kernel
theorem dX1_swap_50 : decode cX1_swap 50 = .ok (.getfield 21, 3) := by decide +kernel
theorem dX1_swap_53 : decode cX1_swap 53 = .ok (.iload_n 1, 1) := by decide +kernel
theorem dX1_swap_54 : decode cX1_swap 54 = .ok (.aaload, 1) := by decide +kernel
theorem dX1_swap_55 : decode cX1_swap 55 = .ok (.iload 4, 2) := by decide +kernel
theorem dX1_swap_57 : decode cX1_swap 57 = .ok (.aload_n 0, 1) := by decide +kernel
theorem dX1_swap_58 : decode cX1_swap 58 = .ok (.getfield 21, 3) := by decide +kernel
theorem dX1_swap_61 : decode cX1_swap 61 = .ok (.iload_n 2, 1) := by decide +kernel
theorem dX1_swap_62 : decode cX1_swap 62 = .ok (.aaload, 1) := by decide +kernel
theorem dX1_swap_63 : decode cX1_swap 63 = .ok (.iload 4, 2) := by decide +kernel
theorem dX1_swap_65 : decode cX1_swap 65 = .ok (.iaload, 1) := by decide +kernel
theorem dX1_swap_66 : decode cX1_swap 66 = .ok (.iastore, 1) := by decide +kernel
theorem dX1_swap_67 : decode cX1_swap 67 = .ok (.aload_n 0, 1) := by decide +kernel
theorem dX1_swap_68 : decode cX1_swap 68 = .ok (.getfield 21, 3) := by decide +kernel
theorem dX1_swap_71 : decode cX1_swap 71 = .ok (.iload_n 2, 1) := by decide +kernel
theorem dX1_swap_72 : decode cX1_swap 72 = .ok (.aaload, 1) := by decide +kernel
theorem dX1_swap_73 : decode cX1_swap 73 = .ok (.iload 4, 2) := by decide +kernel
theorem dX1_swap_75 : decode cX1_swap 75 = .ok (.iload 5, 2) := by decide +kernel
theorem dX1_swap_77 : decode cX1_swap 77 = .ok (.iastore, 1) := by decide +kernel
theorem dX1_swap_78 : decode cX1_swap 78 = .ok (.iinc 4 1, 3) := by decide +kernel
theorem dX1_swap_81 : decode cX1_swap 81 = .ok (.goto (-52), 3) := by decide +kernel
theorem dX1_swap_84 : decode cX1_swap 84 = .ok (.iconst 0, 1) := by decide +kernel
theorem dX1_swap_85 : decode cX1_swap 85 = .ok (.istore 4, 2) := by decide +kernel
theorem dX1_swap_87 : decode cX1_swap 87 = .ok (.iload 4, 2) := by decide +kernel
theorem dX1_swap_89 : decode cX1_swap 89 = .ok (.aload_n 0, 1) := by decide +kernel
theorem dX1_swap_90 : decode cX1_swap 90 = .ok (.getfield 9, 3) := by decide +kernel
theorem dX1_swap_93 : decode cX1_swap 93 = .ok (.if_icmp .ge 49, 3) := by decide +kernel
theorem dX1_swap_96 : decode cX1_swap 96 = .ok (.aload_n 0, 1) := by decide +kernel
theorem dX1_swap_97 : decode cX1_swap 97 = .ok (.getfield 21, 3) := by decide +kernel
theorem dX1_swap_100 : decode cX1_swap 100 = .ok (.iload 4, 2) := by decide +kernel
theorem dX1_swap_102 : decode cX1_swap 102 = .ok (.aaload, 1) := by decide +kernel
theorem dX1_swap_103 : decode cX1_swap 103 = .ok (.iload_n 1, 1) := by decide +kernel
theorem dX1_swap_104 : decode cX1_swap 104 = .ok (.iaload, 1) := by decide +kernel
theorem dX1_swap_105 : decode cX1_swap 105 = .ok (.istore 5, 2) := by decide +kernel
theorem dX1_swap_107 : decode cX1_swap 107 = .ok (.aload_n 0, 1) := by decide +kernel
theorem dX1_swap_108 : decode cX1_swap 108 = .ok (.getfield 21, 3) := by decide +kernel
theorem dX1_swap_111 : decode cX1_swap 111 = .ok (.iload 4, 2) := by decide +kernel
theorem dX1_swap_113 : decode cX1_swap 113 = .ok (.aaload, 1) := by decide +kernel
theorem dX1_swap_114 : decode cX1_swap 114 = .ok (.iload_n 1, 1) := by decide +kernel
theorem dX1_swap_115 : decode cX1_swap 115 = .ok (.aload_n 0, 1) := by decide +kernel
theorem dX1_swap_116 : decode cX1_swap 116 = .ok (.getfield 21, 3) := by decide +kernel
theorem dX1_swap_119 : decode cX1_swap 119 = .ok (.iload 4, 2) := by decide +kernel
theorem dX1_swap_121 : decode cX1_swap 121 = .ok (.aaload, 1) := by decide +kernel
theorem dX1_swap_122 : decode cX1_swap 122 = .ok (.iload_n 2, 1) := by decide +kernel
theorem dX1_swap_123 : decode cX1_swap 123 = .ok (.iaload, 1) := by decide +kernel
theorem dX1_swap_124 : decode cX1_swap 124 = .ok (.iastore, 1) := by decide +kernel
theorem dX1_swap_125 : decode cX1_swap 125 = .ok (.aload_n 0, 1) := by decide +kernel
theorem dX1_swap_126 : decode cX1_swap 126 = .ok (.getfield 21, 3) := by decide +kernel
theorem dX1_swap_129 : decode cX1_swap 129 = .ok (.iload 4, 2) := by decide +kernel
theorem dX1_swap_131 : decode cX1_swap 131 = .ok (.aaload, 1) := by decide +kernel
theorem dX1_swap_132 : decode cX1_swap 132 = .ok (.iload_n 2, 1) := by decide +kernel
theorem dX1_swap_133 : decode cX1_swap 133 = .ok (.iload 5, 2) := by decide +kernel
theorem dX1_swap_135 : decode cX1_swap 135 = .ok (.iastore, 1) := by decide +kernel
theorem dX1_swap_136 : decode cX1_swap 136 = .ok (.iinc 4 1, 3) := by decide +kernel
theorem dX1_swap_139 : decode cX1_swap 139 = .ok (.goto (-52), 3) := by decide +kernel
theorem dX1_swap_142 : decode cX1_swap 142 = .ok (.return_, 1) := by decide +kernel
theorem dX1_edges_0 : decode cX1_edges 0 = .ok (.iconst 0, 1) := by decide +kernel
theorem dX1_edges_1 : decode cX1_edges 1 = .ok (.istore_n 1, 1) := by decide +kernel
theorem dX1_edges_2 : decode cX1_edges 2 = .ok (.iconst 0, 1) := by decide +kernel
theorem dX1_edges_3 : decode cX1_edges 3 = .ok (.istore_n 2, 1) := by decide +kernel
theorem dX1_edges_4 : decode cX1_edges 4 = .ok (.iload_n 2, 1) := by decide +kernel
theorem dX1_edges_5 : decode cX1_edges 5 = .ok (.aload_n 0, 1) := by decide +kernel
theorem dX1_edges_6 : decode cX1_edges 6 = .ok (.getfield 9, 3) := by decide +kernel
theorem dX1_edges_9 : decode cX1_edges 9 = .ok (.if_icmp .ge 39, 3) := by decide +kernel
theorem dX1_edges_12 : decode cX1_edges 12 = .ok (.iconst 0, 1) := by decide +kernel
theorem dX1_edges_13 : decode cX1_edges 13 = .ok (.istore_n 3, 1) := by decide +kernel
theorem dX1_edges_14 : decode cX1_edges 14 = .ok (.iload_n 3, 1) := by decide +kernel
theorem dX1_edges_15 : decode cX1_edges 15 = .ok (.aload_n 0, 1) := by decide +kernel
theorem dX1_edges_16 : decode cX1_edges 16 = .ok (.getfield 9, 3) := by decide +kernel
theorem dX1_edges_19 : decode cX1_edges 19 = .ok (.if_icmp .ge 23, 3) := by decide +kernel
theorem dX1_edges_22 : decode cX1_edges 22 = .ok (.aload_n 0, 1) := by decide +kernel
theorem dX1_edges_23 : decode cX1_edges 23 = .ok (.getfield 21, 3) := by decide +kernel
theorem dX1_edges_26 : decode cX1_edges 26 = .ok (.iload_n 2, 1) := by decide +kernel
theorem dX1_edges_27 : decode cX1_edges 27 = .ok (.aaload, 1) := by decide +kernel
theorem dX1_edges_28 : decode cX1_edges 28 = .ok (.iload_n 3, 1) := by decide +kernel
theorem dX1_edges_29 : decode cX1_edges 29 = .ok (.iaload, 1) := by decide +kernel
theorem dX1_edges_30 : decode cX1_edges 30 = .ok (.ifCond .le 6, 3) := by decide +kernel
theorem dX1_edges_33 : decode cX1_edges 33 = .ok (.iinc 1 1, 3) := by decide +kernel
theorem dX1_edges_36 : decode cX1_edges 36 = .ok (.iinc 3 1, 3) := by decide +kernel
theorem dX1_edges_39 : decode cX1_edges 39 = .ok (.goto (-25), 3) := by decide +kernel
theorem dX1_edges_42 : decode cX1_edges 42 = .ok (.iinc 2 1, 3) := by decide +kernel
theorem dX1_edges_45 : decode cX1_edges 45 = .ok (.goto (-41), 3) := by decide +kernel
theorem dX1_edges_48 : decode cX1_edges 48 = .ok (.iload_n 1, 1) := by decide +kernel
theorem dX1_edges_49 : decode cX1_edges 49 = .ok (.ireturn, 1) := by decide +kernel
theorem dX1_pair_0 : decode cX1_pair 0 = .ok (.iconst 4, 1) := by decide +kernel
theorem dX1_pair_1 : decode cX1_pair 1 = .ok (.aload_n 0, 1) := by decide +kernel
theorem dX1_pair_2 : decode cX1_pair 2 = .ok (.getfield 21, 3) := by decide +kernel
theorem dX1_pair_5 : decode cX1_pair 5 = .ok (.iload_n 1, 1) := by decide +kernel
theorem dX1_pair_6 : decode cX1_pair 6 = .ok (.aaload, 1) := by decide +kernel
theorem dX1_pair_7 : decode cX1_pair 7 = .ok (.iload_n 2, 1) := by decide +kernel
theorem dX1_pair_8 : decode cX1_pair 8 = .ok (.iaload, 1) := by decide +kernel
theorem dX1_pair_9 : decode cX1_pair 9 = .ok (.imul, 1) := by decide +kernel
theorem dX1_pair_10 : decode cX1_pair 10 = .ok (.aload_n 0, 1) := by decide +kernel
theorem dX1_pair_11 : decode cX1_pair 11 = .ok (.getfield 21, 3) := by decide +kernel
theorem dX1_pair_14 : decode cX1_pair 14 = .ok (.iload_n 2, 1) := by decide +kernel
theorem dX1_pair_15 : decode cX1_pair 15 = .ok (.aaload, 1) := by decide +kernel
theorem dX1_pair_16 : decode cX1_pair 16 = .ok (.iload_n 1, 1) := by decide +kernel
theorem dX1_pair_17 : decode cX1_pair 17 = .ok (.iaload, 1) := by decide +kernel
theorem dX1_pair_18 : decode cX1_pair 18 = .ok (.iadd, 1) := by decide +kernel
theorem dX1_pair_19 : decode cX1_pair 19 = .ok (.ireturn, 1) := by decide +kernel
theorem dX1_isAlike_0 : decode cX1_isAlike 0 = .ok (.aload_n 0, 1) := by decide +kernel
theorem dX1_isAlike_1 : decode cX1_isAlike 1 = .ok (.getfield 15, 3) := by decide +kernel
theorem dX1_isAlike_4 : decode cX1_isAlike 4 = .ok (.iload_n 1, 1) := by decide +kernel
theorem dX1_isAlike_5 : decode cX1_isAlike 5 = .ok (.iaload, 1) := by decide +kernel
theorem dX1_isAlike_6 : decode cX1_isAlike 6 = .ok (.aload_n 0, 1) := by decide +kernel
theorem dX1_isAlike_7 : decode cX1_isAlike 7 = .ok (.getfield 15, 3) := by decide +kernel
theorem dX1_isAlike_10 : decode cX1_isAlike 10 = .ok (.iload_n 2, 1) := by decide +kernel
theorem dX1_isAlike_11 : decode cX1_isAlike 11 = .ok (.iaload, 1) := by decide +kernel
theorem dX1_isAlike_12 : decode cX1_isAlike 12 = .ok (.if_icmp .ne 22, 3) := by decide +kernel
theorem dX1_isAlike_15 : decode cX1_isAlike 15 = .ok (.aload_n 0, 1) := by decide +kernel
theorem dX1_isAlike_16 : decode cX1_isAlike 16 = .ok (.getfield 21, 3) := by decide +kernel
theorem dX1_isAlike_19 : decode cX1_isAlike 19 = .ok (.iload_n 1, 1) := by decide +kernel
theorem dX1_isAlike_20 : decode cX1_isAlike 20 = .ok (.aaload, 1) := by decide +kernel
theorem dX1_isAlike_21 : decode cX1_isAlike 21 = .ok (.iload_n 2, 1) := by decide +kernel
theorem dX1_isAlike_22 : decode cX1_isAlike 22 = .ok (.iaload, 1) := by decide +kernel
theorem dX1_isAlike_23 : decode cX1_isAlike 23 = .ok (.aload_n 0, 1) := by decide +kernel
theorem dX1_isAlike_24 : decode cX1_isAlike 24 = .ok (.getfield 21, 3) := by decide +kernel
theorem dX1_isAlike_27 : decode cX1_isAlike 27 = .ok (.iload_n 2, 1) := by decide +kernel
theorem dX1_isAlike_28 : decode cX1_isAlike 28 = .ok (.aaload, 1) := by decide +kernel
theorem dX1_isAlike_29 : decode cX1_isAlike 29 = .ok (.iload_n 1, 1) := by decide +kernel
theorem dX1_isAlike_30 : decode cX1_isAlike 30 = .ok (.iaload, 1) := by decide +kernel
theorem dX1_isAlike_31 : decode cX1_isAlike 31 = .ok (.if_icmp .eq 5, 3) := by decide +kernel
theorem dX1_isAlike_34 : decode cX1_isAlike 34 = .ok (.iconst 0, 1) := by decide +kernel
theorem dX1_isAlike_35 : decode cX1_isAlike 35 = .ok (.ireturn, 1) := by decide +kernel
theorem dX1_isAlike_36 : decode cX1_isAlike 36 = .ok (.iconst 0, 1) := by decide +kernel
theorem dX1_isAlike_37 : decode cX1_isAlike 37 = .ok (.istore_n 3, 1) := by decide +kernel
theorem dX1_isAlike_38 : decode cX1_isAlike 38 = .ok (.iload_n 3, 1) := by decide +kernel
theorem dX1_isAlike_39 : decode cX1_isAlike 39 = .ok (.aload_n 0, 1) := by decide +kernel
theorem dX1_isAlike_40 : decode cX1_isAlike 40 = .ok (.getfield 9, 3) := by decide +kernel
theorem dX1_isAlike_43 : decode cX1_isAlike 43 = .ok (.if_icmp .ge 36, 3) := by decide +kernel
theorem dX1_isAlike_46 : decode cX1_isAlike 46 = .ok (.iload_n 3, 1) := by decide +kernel
theorem dX1_isAlike_47 : decode cX1_isAlike 47 = .ok (.iload_n 1, 1) := by decide +kernel
theorem dX1_isAlike_48 : decode cX1_isAlike 48 = .ok (.if_icmp .eq 25, 3) := by decide +kernel
theorem dX1_isAlike_51 : decode cX1_isAlike 51 = .ok (.iload_n 3, 1) := by decide +kernel
theorem dX1_isAlike_52 : decode cX1_isAlike 52 = .ok (.iload_n 2, 1) := by decide +kernel
theorem dX1_isAlike_53 : decode cX1_isAlike 53 = .ok (.if_icmp .eq 20, 3) := by decide +kernel
theorem dX1_isAlike_56 : decode cX1_isAlike 56 = .ok (.aload_n 0, 1) := by decide +kernel
theorem dX1_isAlike_57 : decode cX1_isAlike 57 = .ok (.iload_n 1, 1) := by decide +kernel
theorem dX1_isAlike_58 : decode cX1_isAlike 58 = .ok (.iload_n 3, 1) := by decide +kernel
theorem dX1_isAlike_59 : decode cX1_isAlike 59 = .ok (.invokevirtual 46, 3) := by decide +kernel
theorem dX1_isAlike_62 : decode cX1_isAlike 62 = .ok (.aload_n 0, 1) := by decide +kernel
theorem dX1_isAlike_63 : decode cX1_isAlike 63 = .ok (.iload_n 2, 1) := by decide +kernel
theorem dX1_isAlike_64 : decode cX1_isAlike 64 = .ok (.iload_n 3, 1) := by decide +kernel
theorem dX1_isAlike_65 : decode cX1_isAlike 65 = .ok (.invokevirtual 46, 3) := by decide +kernel
theorem dX1_isAlike_68 : decode cX1_isAlike 68 = .ok (.if_icmp .eq 5, 3) := by decide +kernel
theorem dX1_isAlike_71 : decode cX1_isAlike 71 = .ok (.iconst 0, 1) := by decide +kernel
theorem dX1_isAlike_72 : decode cX1_isAlike 72 = .ok (.ireturn, 1) := by decide +kernel
theorem dX1_isAlike_73 : decode cX1_isAlike 73 = .ok (.iinc 3 1, 3) := by decide +kernel
theorem dX1_isAlike_76 : decode cX1_isAlike 76 = .ok (.goto (-38), 3) := by decide +kernel
theorem dX1_isAlike_79 : decode cX1_isAlike 79 = .ok (.iconst 1, 1) := by decide +kernel
theorem dX1_isAlike_80 : decode cX1_isAlike 80 = .ok (.ireturn, 1) := by decide +kernel
theorem dX1_formNumber_0 : decode cX1_formNumber 0 = .ok (.iconst 0, 1) := by decide +kernel
theorem dX1_formNumber_1 : decode cX1_formNumber 1 = .ok (.istore_n 2, 1) := by decide +kernel
theorem dX1_formNumber_2 : decode cX1_formNumber 2 = .ok (.iload_n 2, 1) := by decide +kernel
theorem dX1_formNumber_3 : decode cX1_formNumber 3 = .ok (.aload_n 0, 1) := by decide +kernel
theorem dX1_formNumber_4 : decode cX1_formNumber 4 = .ok (.getfield 9, 3) := by decide +kernel
theorem dX1_formNumber_7 : decode cX1_formNumber 7 = .ok (.iconst 1, 1) := by decide +kernel
theorem dX1_formNumber_8 : decode cX1_formNumber 8 = .ok (.isub, 1) := by decide +kernel
theorem dX1_formNumber_9 : decode cX1_formNumber 9 = .ok (.if_icmp .ge 20, 3) := by decide +kernel
theorem dX1_formNumber_12 : decode cX1_formNumber 12 = .ok (.iload_n 2, 1) := by decide +kernel
theorem dX1_formNumber_13 : decode cX1_formNumber 13 = .ok (.iconst 1, 1) := by decide +kernel
theorem dX1_formNumber_14 : decode cX1_formNumber 14 = .ok (.iadd, 1) := by decide +kernel
theorem dX1_formNumber_15 : decode cX1_formNumber 15 = .ok (.iload_n 2, 1) := by decide +kernel
theorem dX1_formNumber_16 : decode cX1_formNumber 16 = .ok (.iconst 1, 1) := by decide +kernel
theorem dX1_formNumber_17 : decode cX1_formNumber 17 = .ok (.iadd, 1) := by decide +kernel
theorem dX1_formNumber_18 : decode cX1_formNumber 18 = .ok (.imul, 1) := by decide +kernel
theorem dX1_formNumber_19 : decode cX1_formNumber 19 = .ok (.iload_n 1, 1) := by decide +kernel
theorem dX1_formNumber_20 : decode cX1_formNumber 20 = .ok (.if_icmp .gt 9, 3) := by decide +kernel
theorem dX1_formNumber_23 : decode cX1_formNumber 23 = .ok (.iinc 2 1, 3) := by decide +kernel
theorem dX1_formNumber_26 : decode cX1_formNumber 26 = .ok (.goto (-24), 3) := by decide +kernel
theorem dX1_formNumber_29 : decode cX1_formNumber 29 = .ok (.iload_n 2, 1) := by decide +kernel
theorem dX1_formNumber_30 : decode cX1_formNumber 30 = .ok (.iload_n 2, 1) := by decide +kernel
theorem dX1_formNumber_31 : decode cX1_formNumber 31 = .ok (.imul, 1) := by decide +kernel
theorem dX1_formNumber_32 : decode cX1_formNumber 32 = .ok (.iconst 2, 1) := by decide +kernel
theorem dX1_formNumber_33 : decode cX1_formNumber 33 = .ok (.iload_n 2, 1) := by decide +kernel
theorem dX1_formNumber_34 : decode cX1_formNumber 34 = .ok (.imul, 1) := by decide +kernel
theorem dX1_formNumber_35 : decode cX1_formNumber 35 = .ok (.iadd, 1) := by decide +kernel
theorem dX1_formNumber_36 : decode cX1_formNumber 36 = .ok (.iload_n 1, 1) := by decide +kernel
theorem dX1_formNumber_37 : decode cX1_formNumber 37 = .ok (.isub, 1) := by decide +kernel
theorem dX1_formNumber_38 : decode cX1_formNumber 38 = .ok (.istore_n 3, 1) := by decide +kernel
theorem dX1_formNumber_39 : decode cX1_formNumber 39 = .ok (.aload_n 0, 1) := by decide +kernel
theorem dX1_formNumber_40 : decode cX1_formNumber 40 = .ok (.getfield 30, 3) := by decide +kernel
theorem dX1_formNumber_43 : decode cX1_formNumber 43 = .ok (.iload_n 2, 1) := by decide +kernel
theorem dX1_formNumber_44 : decode cX1_formNumber 44 = .ok (.laload, 1) := by decide +kernel
theorem dX1_formNumber_45 : decode cX1_formNumber 45 = .ok (.iconst 2, 1) := by decide +kernel
theorem dX1_formNumber_46 : decode cX1_formNumber 46 = .ok (.iload_n 3, 1) := by decide +kernel
theorem dX1_formNumber_47 : decode cX1_formNumber 47 = .ok (.imul, 1) := by decide +kernel
theorem dX1_formNumber_48 : decode cX1_formNumber 48 = .ok (.lshr, 1) := by decide +kernel
theorem dX1_formNumber_49 : decode cX1_formNumber 49 = .ok (.l2i, 1) := by decide +kernel
theorem dX1_formNumber_50 : decode cX1_formNumber 50 = .ok (.iconst 3, 1) := by decide +kernel
theorem dX1_formNumber_51 : decode cX1_formNumber 51 = .ok (.iand, 1) := by decide +kernel
theorem dX1_formNumber_52 : decode cX1_formNumber 52 = .ok (.ireturn, 1) := by decide +kernel
theorem dX2_init_0 : decode cX2_init 0 = .ok (.aload_n 0, 1) := by decide +kernel
theorem dX2_init_1 : decode cX2_init 1 = .ok (.invokespecial 3, 3) := by decide +kernel
theorem dX2_init_4 : decode cX2_init 4 = .ok (.aload_n 0, 1) := by decide +kernel
theorem dX2_init_5 : decode cX2_init 5 = .ok (.bipush 9, 2) := by decide +kernel
theorem dX2_init_7 : decode cX2_init 7 = .ok (.newarray .int, 2) := by decide +kernel
theorem dX2_init_9 : decode cX2_init 9 = .ok (.putfield 9, 3) := by decide +kernel
theorem dX2_init_12 : decode cX2_init 12 = .ok (.return_, 1) := by decide +kernel
theorem dX2_findFirst_0 : decode cX2_findFirst 0 = .ok (.aload_n 0, 1) := by decide +kernel
theorem dX2_findFirst_1 : decode cX2_findFirst 1 = .ok (.aload_n 1, 1) := by decide +kernel
theorem dX2_findFirst_2 : decode cX2_findFirst 2 = .ok (.aload_n 2, 1) := by decide +kernel
theorem dX2_findFirst_3 : decode cX2_findFirst 3 = .ok (.iconst 0, 1) := by decide +kernel
theorem dX2_findFirst_4 : decode cX2_findFirst 4 = .ok (.iconst 0, 1) := by decide +kernel
theorem dX2_findFirst_5 : decode cX2_findFirst 5 = .ok (.iconst 0, 1) := by decide +kernel
theorem dX2_findFirst_6 : decode cX2_findFirst 6 = .ok (.invokevirtual 15, 3) := by decide +kernel
theorem dX2_findFirst_9 : decode cX2_findFirst 9 = .ok (.ireturn, 1) := by decide +kernel
theorem dX2_findNext_0 : decode cX2_findNext 0 = .ok (.aload_n 0, 1) := by decide +kernel
theorem dX2_findNext_1 : decode cX2_findNext 1 = .ok (.aload_n 1, 1) := by decide +kernel
theorem dX2_findNext_2 : decode cX2_findNext 2 = .ok (.aload_n 2, 1) := by decide +kernel
theorem dX2_findNext_3 : decode cX2_findNext 3 = .ok (.iconst 0, 1) := by decide +kernel
theorem dX2_findNext_4 : decode cX2_findNext 4 = .ok (.iconst 0, 1) := by decide +kernel
theorem dX2_findNext_5 : decode cX2_findNext 5 = .ok (.iconst 1, 1) := by decide +kernel
theorem dX2_findNext_6 : decode cX2_findNext 6 = .ok (.invokevirtual 15, 3) := by decide +kernel
theorem dX2_findNext_9 : decode cX2_findNext 9 = .ok (.ireturn, 1) := by decide +kernel
theorem dX2_findSymmetry_0 : decode cX2_findSymmetry 0 = .ok (.iconst 0, 1) := by decide +kernel
theorem dX2_findSymmetry_1 : decode cX2_findSymmetry 1 = .ok (.istore 4, 2) := by decide +kernel
theorem dX2_findSymmetry_3 : decode cX2_findSymmetry 3 = .ok (.iload 4, 2) := by decide +kernel
theorem dX2_findSymmetry_5 : decode cX2_findSymmetry 5 = .ok (.iload_n 2, 1) := by decide +kernel
theorem dX2_findSymmetry_6 : decode cX2_findSymmetry 6 = .ok (.if_icmp .ge 18, 3) := by decide +kernel
theorem dX2_findSymmetry_9 : decode cX2_findSymmetry 9 = .ok (.aload_n 0, 1) := by decide +kernel
theorem dX2_findSymmetry_10 : decode cX2_findSymmetry 10 = .ok (.getfield 9, 3) := by decide +kernel
theorem dX2_findSymmetry_13 : decode cX2_findSymmetry 13 = .ok (.iload 4, 2) := by decide +kernel
theorem dX2_findSymmetry_15 : decode cX2_findSymmetry 15 = .ok (.iload 4, 2) := by decide +kernel
theorem dX2_findSymmetry_17 : decode cX2_findSymmetry 17 = .ok (.iastore, 1) := by decide +kernel
theorem dX2_findSymmetry_18 : decode cX2_findSymmetry 18 = .ok (.iinc 4 1, 3) := by decide +kernel
theorem dX2_findSymmetry_21 : decode cX2_findSymmetry 21 = .ok (.goto (-18), 3) := by decide +kernel
theorem dX2_findSymmetry_24 : decode cX2_findSymmetry 24 = .ok (.aload_n 0, 1) := by decide +kernel
theorem dX2_findSymmetry_25 : decode cX2_findSymmetry 25 = .ok (.aload_n 1, 1) := by decide +kernel
theorem dX2_findSymmetry_26 : decode cX2_findSymmetry 26 = .ok (.aload_n 1, 1) := by decide +kernel
theorem dX2_findSymmetry_27 : decode cX2_findSymmetry 27 = .ok (.iload_n 2, 1) := by decide +kernel
theorem dX2_findSymmetry_28 : decode cX2_findSymmetry 28 = .ok (.iload_n 3, 1) := by decide +kernel
theorem dX2_findSymmetry_29 : decode cX2_findSymmetry 29 = .ok (.invokevirtual 19, 3) := by decide +kernel
theorem dX2_findSymmetry_32 : decode cX2_findSymmetry 32 = .ok (.ifCond .ne 5, 3) := by decide +kernel
theorem dX2_findSymmetry_35 : decode cX2_findSymmetry 35 = .ok (.iconst 0, 1) := by decide +kernel
theorem dX2_findSymmetry_36 : decode cX2_findSymmetry 36 = .ok (.ireturn, 1) := by decide +kernel
theorem dX2_findSymmetry_37 : decode cX2_findSymmetry 37 = .ok (.aload_n 0, 1) := by decide +kernel
theorem dX2_findSymmetry_38 : decode cX2_findSymmetry 38 = .ok (.getfield 9, 3) := by decide +kernel
theorem dX2_findSymmetry_41 : decode cX2_findSymmetry 41 = .ok (.iload_n 2, 1) := by decide +kernel
theorem dX2_findSymmetry_42 : decode cX2_findSymmetry 42 = .ok (.iload_n 3, 1) := by decide +kernel
theorem dX2_findSymmetry_43 : decode cX2_findSymmetry 43 = .ok (.iastore, 1) := by decide +kernel
theorem dX2_findSymmetry_44 : decode cX2_findSymmetry 44 = .ok (.iconst 1, 1) := by decide +kernel
theorem dX2_findSymmetry_45 : decode cX2_findSymmetry 45 = .ok (.iload_n 2, 1) := by decide +kernel
theorem dX2_findSymmetry_46 : decode cX2_findSymmetry 46 = .ok (.ishl, 1) := by decide +kernel
theorem dX2_findSymmetry_47 : decode cX2_findSymmetry 47 = .ok (.iconst 1, 1) := by decide +kernel
theorem dX2_findSymmetry_48 : decode cX2_findSymmetry 48 = .ok (.isub, 1) := by decide +kernel
theorem dX2_findSymmetry_49 : decode cX2_findSymmetry 49 = .ok (.iconst 1, 1) := by decide +kernel
theorem dX2_findSymmetry_50 : decode cX2_findSymmetry 50 = .ok (.iload_n 3, 1) := by decide +kernel
theorem dX2_findSymmetry_51 : decode cX2_findSymmetry 51 = .ok (.ishl, 1) := by decide +kernel
theorem dX2_findSymmetry_52 : decode cX2_findSymmetry 52 = .ok (.ior, 1) := by decide +kernel
theorem dX2_findSymmetry_53 : decode cX2_findSymmetry 53 = .ok (.istore 4, 2) := by decide +kernel
theorem dX2_findSymmetry_55 : decode cX2_findSymmetry 55 = .ok (.aload_n 0, 1) := by decide +kernel
theorem dX2_findSymmetry_56 : decode cX2_findSymmetry 56 = .ok (.aload_n 1, 1) := by decide +kernel
theorem dX2_findSymmetry_57 : decode cX2_findSymmetry 57 = .ok (.aload_n 1, 1) := by decide +kernel
theorem dX2_findSymmetry_58 : decode cX2_findSymmetry 58 = .ok (.iload_n 2, 1) := by decide +kernel
theorem dX2_findSymmetry_59 : decode cX2_findSymmetry 59 = .ok (.iconst 1, 1) := by decide +kernel
theorem dX2_findSymmetry_60 : decode cX2_findSymmetry 60 = .ok (.iadd, 1) := by decide +kernel
theorem dX2_findSymmetry_61 : decode cX2_findSymmetry 61 = .ok (.iload 4, 2) := by decide +kernel
theorem dX2_findSymmetry_63 : decode cX2_findSymmetry 63 = .ok (.iconst 0, 1) := by decide +kernel
theorem dX2_findSymmetry_64 : decode cX2_findSymmetry 64 = .ok (.invokevirtual 15, 3) := by decide +kernel
theorem dX2_findSymmetry_67 : decode cX2_findSymmetry 67 = .ok (.ireturn, 1) := by decide +kernel
theorem dX2_place_0 : decode cX2_place 0 = .ok (.iload_n 3, 1) := by decide +kernel
theorem dX2_place_1 : decode cX2_place 1 = .ok (.aload_n 1, 1) := by decide +kernel
theorem dX2_place_2 : decode cX2_place 2 = .ok (.getfield 23, 3) := by decide +kernel
theorem dX2_place_5 : decode cX2_place 5 = .ok (.if_icmp .lt 14, 3) := by decide +kernel
theorem dX2_place_8 : decode cX2_place 8 = .ok (.iload 5, 2) := by decide +kernel
theorem dX2_place_10 : decode cX2_place 10 = .ok (.ifCond .ne 7, 3) := by decide +kernel
theorem dX2_place_13 : decode cX2_place 13 = .ok (.iconst 1, 1) := by decide +kernel
theorem dX2_place_14 : decode cX2_place 14 = .ok (.goto 4, 3) := by decide +kernel
theorem dX2_place_17 : decode cX2_place 17 = .ok (.iconst 0, 1) := by decide +kernel
theorem dX2_place_18 : decode cX2_place 18 = .ok (.ireturn, 1) := by decide +kernel
theorem dX2_place_19 : decode cX2_place 19 = .ok (.iload 5, 2) := by decide +kernel
theorem dX2_place_21 : decode cX2_place 21 = .ok (.ifCond .eq 12, 3) := by decide +kernel
theorem dX2_place_24 : decode cX2_place 24 = .ok (.aload_n 0, 1) := by decide +kernel
theorem dX2_place_25 : decode cX2_place 25 = .ok (.getfield 9, 3) := by decide +kernel
theorem dX2_place_28 : decode cX2_place 28 = .ok (.iload_n 3, 1) := by decide +kernel
theorem dX2_place_29 : decode cX2_place 29 = .ok (.iaload, 1) := by decide +kernel
theorem dX2_place_30 : decode cX2_place 30 = .ok (.goto 4, 3) := by decide +kernel
theorem dX2_place_33 : decode cX2_place 33 = .ok (.iconst 0, 1) := by decide +kernel
theorem dX2_place_34 : decode cX2_place 34 = .ok (.istore 6, 2) := by decide +kernel
theorem dX2_place_36 : decode cX2_place 36 = .ok (.iload 6, 2) := by decide +kernel
theorem dX2_place_38 : decode cX2_place 38 = .ok (.istore 7, 2) := by decide +kernel
theorem dX2_place_40 : decode cX2_place 40 = .ok (.iload 7, 2) := by decide +kernel
theorem dX2_place_42 : decode cX2_place 42 = .ok (.aload_n 2, 1) := by decide +kernel
theorem dX2_place_43 : decode cX2_place 43 = .ok (.getfield 23, 3) := by decide +kernel
theorem dX2_place_46 : decode cX2_place 46 = .ok (.if_icmp .ge 77, 3) := by decide +kernel
theorem dX2_place_49 : decode cX2_place 49 = .ok (.iload 4, 2) := by decide +kernel
theorem dX2_place_51 : decode cX2_place 51 = .ok (.iload 7, 2) := by decide +kernel
theorem dX2_place_53 : decode cX2_place 53 = .ok (.ishr, 1) := by decide +kernel
theorem dX2_place_54 : decode cX2_place 54 = .ok (.iconst 1, 1) := by decide +kernel
theorem dX2_place_55 : decode cX2_place 55 = .ok (.iand, 1) := by decide +kernel
theorem dX2_place_56 : decode cX2_place 56 = .ok (.ifCond .ne 61, 3) := by decide +kernel
theorem dX2_place_59 : decode cX2_place 59 = .ok (.aload_n 0, 1) := by decide +kernel
theorem dX2_place_60 : decode cX2_place 60 = .ok (.aload_n 1, 1) := by decide +kernel
theorem dX2_place_61 : decode cX2_place 61 = .ok (.aload_n 2, 1) := by decide +kernel
theorem dX2_place_62 : decode cX2_place 62 = .ok (.iload_n 3, 1) := by decide +kernel
theorem dX2_place_63 : decode cX2_place 63 = .ok (.iload 7, 2) := by decide +kernel
theorem dX2_place_65 : decode cX2_place 65 = .ok (.invokevirtual 19, 3) := by decide +kernel
theorem dX2_place_68 : decode cX2_place 68 = .ok (.ifCond .eq 49, 3) := by decide +kernel
theorem dX2_place_71 : decode cX2_place 71 = .ok (.aload_n 0, 1) := by decide +kernel
theorem dX2_place_72 : decode cX2_place 72 = .ok (.getfield 9, 3) := by decide +kernel
theorem dX2_place_75 : decode cX2_place 75 = .ok (.iload_n 3, 1) := by decide +kernel
theorem dX2_place_76 : decode cX2_place 76 = .ok (.iload 7, 2) := by decide +kernel
theorem dX2_place_78 : decode cX2_place 78 = .ok (.iastore, 1) := by decide +kernel
theorem dX2_place_79 : decode cX2_place 79 = .ok (.aload_n 0, 1) := by decide +kernel
theorem dX2_place_80 : decode cX2_place 80 = .ok (.aload_n 1, 1) := by decide +kernel
theorem dX2_place_81 : decode cX2_place 81 = .ok (.aload_n 2, 1) := by decide +kernel
theorem dX2_place_82 : decode cX2_place 82 = .ok (.iload_n 3, 1) := by decide +kernel
theorem dX2_place_83 : decode cX2_place 83 = .ok (.iconst 1, 1) := by decide +kernel
theorem dX2_place_84 : decode cX2_place 84 = .ok (.iadd, 1) := by decide +kernel
theorem dX2_place_85 : decode cX2_place 85 = .ok (.iload 4, 2) := by decide +kernel
theorem dX2_place_87 : decode cX2_place 87 = .ok (.iconst 1, 1) := by decide +kernel
theorem dX2_place_88 : decode cX2_place 88 = .ok (.iload 7, 2) := by decide +kernel
theorem dX2_place_90 : decode cX2_place 90 = .ok (.ishl, 1) := by decide +kernel
theorem dX2_place_91 : decode cX2_place 91 = .ok (.ior, 1) := by decide +kernel
theorem dX2_place_92 : decode cX2_place 92 = .ok (.iload 5, 2) := by decide +kernel
theorem dX2_place_94 : decode cX2_place 94 = .ok (.ifCond .eq 14, 3) := by decide +kernel
theorem dX2_place_97 : decode cX2_place 97 = .ok (.iload 7, 2) := by decide +kernel
theorem dX2_place_99 : decode cX2_place 99 = .ok (.iload 6, 2) := by decide +kernel
theorem dX2_place_101 : decode cX2_place 101 = .ok (.if_icmp .ne 7, 3) := by decide +kernel
theorem dX2_place_104 : decode cX2_place 104 = .ok (.iconst 1, 1) := by decide +kernel
theorem dX2_place_105 : decode cX2_place 105 = .ok (.goto 4, 3) := by decide +kernel
theorem dX2_place_108 : decode cX2_place 108 = .ok (.iconst 0, 1) := by decide +kernel
theorem dX2_place_109 : decode cX2_place 109 = .ok (.invokevirtual 15, 3) := by decide +kernel
theorem dX2_place_112 : decode cX2_place 112 = .ok (.ifCond .eq 5, 3) := by decide +kernel
theorem dX2_place_115 : decode cX2_place 115 = .ok (.iconst 1, 1) := by decide +kernel
theorem dX2_place_116 : decode cX2_place 116 = .ok (.ireturn, 1) := by decide +kernel
theorem dX2_place_117 : decode cX2_place 117 = .ok (.iinc 7 1, 3) := by decide +kernel
theorem dX2_place_120 : decode cX2_place 120 = .ok (.goto (-80), 3) := by decide +kernel
theorem dX2_place_123 : decode cX2_place 123 = .ok (.iconst 0, 1) := by decide +kernel
theorem dX2_place_124 : decode cX2_place 124 = .ok (.ireturn, 1) := by decide +kernel
theorem dX2_fits_0 : decode cX2_fits 0 = .ok (.aload_n 1, 1) := by decide +kernel
theorem dX2_fits_1 : decode cX2_fits 1 = .ok (.getfield 29, 3) := by decide +kernel
theorem dX2_fits_4 : decode cX2_fits 4 = .ok (.iload_n 3, 1) := by decide +kernel
theorem dX2_fits_5 : decode cX2_fits 5 = .ok (.iaload, 1) := by decide +kernel
theorem dX2_fits_6 : decode cX2_fits 6 = .ok (.aload_n 2, 1) := by decide +kernel
theorem dX2_fits_7 : decode cX2_fits 7 = .ok (.getfield 29, 3) := by decide +kernel
theorem dX2_fits_10 : decode cX2_fits 10 = .ok (.iload 4, 2) := by decide +kernel
theorem dX2_fits_12 : decode cX2_fits 12 = .ok (.iaload, 1) := by decide +kernel
theorem dX2_fits_13 : decode cX2_fits 13 = .ok (.if_icmp .eq 5, 3) := by decide +kernel
theorem dX2_fits_16 : decode cX2_fits 16 = .ok (.iconst 0, 1) := by decide +kernel
theorem dX2_fits_17 : decode cX2_fits 17 = .ok (.ireturn, 1) := by decide +kernel
theorem dX2_fits_18 : decode cX2_fits 18 = .ok (.iconst 0, 1) := by decide +kernel
theorem dX2_fits_19 : decode cX2_fits 19 = .ok (.istore 5, 2) := by decide +kernel
theorem dX2_fits_21 : decode cX2_fits 21 = .ok (.iload 5, 2) := by decide +kernel
theorem dX2_fits_23 : decode cX2_fits 23 = .ok (.iload_n 3, 1) := by decide +kernel
theorem dX2_fits_24 : decode cX2_fits 24 = .ok (.if_icmp .ge 64, 3) := by decide +kernel
theorem dX2_fits_27 : decode cX2_fits 27 = .ok (.aload_n 0, 1) := by decide +kernel
theorem dX2_fits_28 : decode cX2_fits 28 = .ok (.getfield 9, 3) := by decide +kernel
theorem dX2_fits_31 : decode cX2_fits 31 = .ok (.iload 5, 2) := by decide +kernel
theorem dX2_fits_33 : decode cX2_fits 33 = .ok (.iaload, 1) := by decide +kernel
theorem dX2_fits_34 : decode cX2_fits 34 = .ok (.istore 6, 2) := by decide +kernel
theorem dX2_fits_36 : decode cX2_fits 36 = .ok (.aload_n 1, 1) := by decide +kernel
theorem dX2_fits_37 : decode cX2_fits 37 = .ok (.getfield 32, 3) := by decide +kernel
theorem dX2_fits_40 : decode cX2_fits 40 = .ok (.iload_n 3, 1) := by decide +kernel
theorem dX2_fits_41 : decode cX2_fits 41 = .ok (.aaload, 1) := by decide +kernel
theorem dX2_fits_42 : decode cX2_fits 42 = .ok (.iload 5, 2) := by decide +kernel
theorem dX2_fits_44 : decode cX2_fits 44 = .ok (.iaload, 1) := by decide +kernel
theorem dX2_fits_45 : decode cX2_fits 45 = .ok (.aload_n 2, 1) := by decide +kernel
theorem dX2_fits_46 : decode cX2_fits 46 = .ok (.getfield 32, 3) := by decide +kernel
theorem dX2_fits_49 : decode cX2_fits 49 = .ok (.iload 4, 2) := by decide +kernel
theorem dX2_fits_51 : decode cX2_fits 51 = .ok (.aaload, 1) := by decide +kernel
theorem dX2_fits_52 : decode cX2_fits 52 = .ok (.iload 6, 2) := by decide +kernel
theorem dX2_fits_54 : decode cX2_fits 54 = .ok (.iaload, 1) := by decide +kernel
theorem dX2_fits_55 : decode cX2_fits 55 = .ok (.if_icmp .ne 25, 3) := by decide +kernel
theorem dX2_fits_58 : decode cX2_fits 58 = .ok (.aload_n 1, 1) := by decide +kernel
theorem dX2_fits_59 : decode cX2_fits 59 = .ok (.getfield 32, 3) := by decide +kernel
theorem dX2_fits_62 : decode cX2_fits 62 = .ok (.iload 5, 2) := by decide +kernel
theorem dX2_fits_64 : decode cX2_fits 64 = .ok (.aaload, 1) := by decide +kernel
theorem dX2_fits_65 : decode cX2_fits 65 = .ok (.iload_n 3, 1) := by decide +kernel
theorem dX2_fits_66 : decode cX2_fits 66 = .ok (.iaload, 1) := by decide +kernel
theorem dX2_fits_67 : decode cX2_fits 67 = .ok (.aload_n 2, 1) := by decide +kernel
theorem dX2_fits_68 : decode cX2_fits 68 = .ok (.getfield 32, 3) := by decide +kernel
theorem dX2_fits_71 : decode cX2_fits 71 = .ok (.iload 6, 2) := by decide +kernel
theorem dX2_fits_73 : decode cX2_fits 73 = .ok (.aaload, 1) := by decide +kernel
theorem dX2_fits_74 : decode cX2_fits 74 = .ok (.iload 4, 2) := by decide +kernel
theorem dX2_fits_76 : decode cX2_fits 76 = .ok (.iaload, 1) := by decide +kernel
theorem dX2_fits_77 : decode cX2_fits 77 = .ok (.if_icmp .eq 5, 3) := by decide +kernel
theorem dX2_fits_80 : decode cX2_fits 80 = .ok (.iconst 0, 1) := by decide +kernel
theorem dX2_fits_81 : decode cX2_fits 81 = .ok (.ireturn, 1) := by decide +kernel
theorem dX2_fits_82 : decode cX2_fits 82 = .ok (.iinc 5 1, 3) := by decide +kernel
theorem dX2_fits_85 : decode cX2_fits 85 = .ok (.goto (-64), 3) := by decide +kernel
theorem dX2_fits_88 : decode cX2_fits 88 = .ok (.iconst 1, 1) := by decide +kernel
theorem dX2_fits_89 : decode cX2_fits 89 = .ok (.ireturn, 1) := by decide +kernel
