theorem dX9_firstIn_25 : decode cX9_firstIn 25 = .ok (.iload_n 2, 1) := by decide +kernel
theorem dX9_firstIn_26 : decode cX9_firstIn 26 = .ok (.istore_n 1, 1) := by decide +kernel
theorem dX9_firstIn_27 : decode cX9_firstIn 27 = .ok (.iinc 2 1, 3) := by decide +kernel
theorem dX9_firstIn_30 : decode cX9_firstIn 30 = .ok (.goto (-26), 3) := by decide +kernel
theorem dX9_firstIn_33 : decode cX9_firstIn 33 = .ok (.iload_n 1, 1) := by decide +kernel
theorem dX9_firstIn_34 : decode cX9_firstIn 34 = .ok (.ireturn, 1) := by decide +kernel
theorem dX9_wins_0 : decode cX9_wins 0 = .ok (.iload_n 1, 1) := by decide +kernel
theorem dX9_wins_1 : decode cX9_wins 1 = .ok (.ifCond .lt 15, 3) := by decide +kernel
theorem dX9_wins_4 : decode cX9_wins 4 = .ok (.iload_n 1, 1) := by decide +kernel
theorem dX9_wins_5 : decode cX9_wins 5 = .ok (.iconst 1, 1) := by decide +kernel
theorem dX9_wins_6 : decode cX9_wins 6 = .ok (.if_icmp .gt 10, 3) := by decide +kernel
theorem dX9_wins_9 : decode cX9_wins 9 = .ok (.aload_n 0, 1) := by decide +kernel
theorem dX9_wins_10 : decode cX9_wins 10 = .ok (.getfield 117, 3) := by decide +kernel
theorem dX9_wins_13 : decode cX9_wins 13 = .ok (.ifCond .ne 10, 3) := by decide +kernel
theorem dX9_wins_16 : decode cX9_wins 16 = .ok (.aload_n 0, 1) := by decide +kernel
theorem dX9_wins_17 : decode cX9_wins 17 = .ok (.bipush (-5), 2) := by decide +kernel
theorem dX9_wins_19 : decode cX9_wins 19 = .ok (.invokevirtual 127, 3) := by decide +kernel
theorem dX9_wins_22 : decode cX9_wins 22 = .ok (.ireturn, 1) := by decide +kernel
theorem dX9_wins_23 : decode cX9_wins 23 = .ok (.aload_n 0, 1) := by decide +kernel
theorem dX9_wins_24 : decode cX9_wins 24 = .ok (.invokevirtual 296, 3) := by decide +kernel
theorem dX9_wins_27 : decode cX9_wins 27 = .ok (.istore_n 2, 1) := by decide +kernel
theorem dX9_wins_28 : decode cX9_wins 28 = .ok (.iconst (-1), 1) := by decide +kernel
theorem dX9_wins_29 : decode cX9_wins 29 = .ok (.istore_n 3, 1) := by decide +kernel
theorem dX9_wins_30 : decode cX9_wins 30 = .ok (.iconst 0, 1) := by decide +kernel
theorem dX9_wins_31 : decode cX9_wins 31 = .ok (.istore 4, 2) := by decide +kernel
theorem dX9_wins_33 : decode cX9_wins 33 = .ok (.iload 4, 2) := by decide +kernel
theorem dX9_wins_35 : decode cX9_wins 35 = .ok (.aload_n 0, 1) := by decide +kernel
theorem dX9_wins_36 : decode cX9_wins 36 = .ok (.getfield 117, 3) := by decide +kernel
theorem dX9_wins_39 : decode cX9_wins 39 = .ok (.if_icmp .ge 44, 3) := by decide +kernel
theorem dX9_wins_42 : decode cX9_wins 42 = .ok (.iload 4, 2) := by decide +kernel
theorem dX9_wins_44 : decode cX9_wins 44 = .ok (.iload_n 2, 1) := by decide +kernel
theorem dX9_wins_45 : decode cX9_wins 45 = .ok (.if_icmp .ne 6, 3) := by decide +kernel
theorem dX9_wins_48 : decode cX9_wins 48 = .ok (.goto 29, 3) := by decide +kernel
theorem dX9_wins_51 : decode cX9_wins 51 = .ok (.aload_n 0, 1) := by decide +kernel
theorem dX9_wins_52 : decode cX9_wins 52 = .ok (.iload 4, 2) := by decide +kernel
theorem dX9_wins_54 : decode cX9_wins 54 = .ok (.invokevirtual 293, 3) := by decide +kernel
theorem dX9_wins_57 : decode cX9_wins 57 = .ok (.istore 5, 2) := by decide +kernel
theorem dX9_wins_59 : decode cX9_wins 59 = .ok (.iload_n 3, 1) := by decide +kernel
theorem dX9_wins_60 : decode cX9_wins 60 = .ok (.iconst (-1), 1) := by decide +kernel
theorem dX9_wins_61 : decode cX9_wins 61 = .ok (.if_icmp .eq 9, 3) := by decide +kernel
theorem dX9_wins_64 : decode cX9_wins 64 = .ok (.iload 5, 2) := by decide +kernel
theorem dX9_wins_66 : decode cX9_wins 66 = .ok (.iload_n 3, 1) := by decide +kernel
theorem dX9_wins_67 : decode cX9_wins 67 = .ok (.if_icmp .ge 8, 3) := by decide +kernel
theorem dX9_wins_70 : decode cX9_wins 70 = .ok (.iload 5, 2) := by decide +kernel
theorem dX9_wins_72 : decode cX9_wins 72 = .ok (.goto 4, 3) := by decide +kernel
theorem dX9_wins_75 : decode cX9_wins 75 = .ok (.iload_n 3, 1) := by decide +kernel
theorem dX9_wins_76 : decode cX9_wins 76 = .ok (.istore_n 3, 1) := by decide +kernel
theorem dX9_wins_77 : decode cX9_wins 77 = .ok (.iinc 4 1, 3) := by decide +kernel
theorem dX9_wins_80 : decode cX9_wins 80 = .ok (.goto (-47), 3) := by decide +kernel
theorem dX9_wins_83 : decode cX9_wins 83 = .ok (.iload_n 1, 1) := by decide +kernel
theorem dX9_wins_84 : decode cX9_wins 84 = .ok (.ifCond .ne 7, 3) := by decide +kernel
theorem dX9_wins_87 : decode cX9_wins 87 = .ok (.iload_n 2, 1) := by decide +kernel
theorem dX9_wins_88 : decode cX9_wins 88 = .ok (.goto 19, 3) := by decide +kernel
theorem dX9_wins_91 : decode cX9_wins 91 = .ok (.iload_n 3, 1) := by decide +kernel
theorem dX9_wins_92 : decode cX9_wins 92 = .ok (.iconst (-1), 1) := by decide +kernel
theorem dX9_wins_93 : decode cX9_wins 93 = .ok (.if_icmp .ne 7, 3) := by decide +kernel
theorem dX9_wins_96 : decode cX9_wins 96 = .ok (.iconst 0, 1) := by decide +kernel
theorem dX9_wins_97 : decode cX9_wins 97 = .ok (.goto 10, 3) := by decide +kernel
theorem dX9_wins_100 : decode cX9_wins 100 = .ok (.iload_n 3, 1) := by decide +kernel
theorem dX9_wins_101 : decode cX9_wins 101 = .ok (.aload_n 0, 1) := by decide +kernel
theorem dX9_wins_102 : decode cX9_wins 102 = .ok (.iload_n 2, 1) := by decide +kernel
theorem dX9_wins_103 : decode cX9_wins 103 = .ok (.invokevirtual 293, 3) := by decide +kernel
theorem dX9_wins_106 : decode cX9_wins 106 = .ok (.isub, 1) := by decide +kernel
theorem dX9_wins_107 : decode cX9_wins 107 = .ok (.ireturn, 1) := by decide +kernel
theorem dX9_how_0 : decode cX9_how 0 = .ok (.iconst 0, 1) := by decide +kernel
theorem dX9_how_1 : decode cX9_how 1 = .ok (.istore_n 2, 1) := by decide +kernel
theorem dX9_how_2 : decode cX9_how 2 = .ok (.iconst 1, 1) := by decide +kernel
theorem dX9_how_3 : decode cX9_how 3 = .ok (.istore_n 3, 1) := by decide +kernel
theorem dX9_how_4 : decode cX9_how 4 = .ok (.iload_n 3, 1) := by decide +kernel
theorem dX9_how_5 : decode cX9_how 5 = .ok (.bipush 7, 2) := by decide +kernel
theorem dX9_how_7 : decode cX9_how 7 = .ok (.if_icmp .ge 26, 3) := by decide +kernel
theorem dX9_how_10 : decode cX9_how 10 = .ok (.aload_n 0, 1) := by decide +kernel
theorem dX9_how_11 : decode cX9_how 11 = .ok (.iload_n 1, 1) := by decide +kernel
theorem dX9_how_12 : decode cX9_how 12 = .ok (.iload_n 3, 1) := by decide +kernel
theorem dX9_how_13 : decode cX9_how 13 = .ok (.invokevirtual 299, 3) := by decide +kernel
theorem dX9_how_16 : decode cX9_how 16 = .ok (.aload_n 0, 1) := by decide +kernel
theorem dX9_how_17 : decode cX9_how 17 = .ok (.iload_n 1, 1) := by decide +kernel
theorem dX9_how_18 : decode cX9_how 18 = .ok (.iload_n 2, 1) := by decide +kernel
theorem dX9_how_19 : decode cX9_how 19 = .ok (.invokevirtual 299, 3) := by decide +kernel
theorem dX9_how_22 : decode cX9_how 22 = .ok (.if_icmp .ge 5, 3) := by decide +kernel
theorem dX9_how_25 : decode cX9_how 25 = .ok (.iload_n 3, 1) := by decide +kernel
theorem dX9_how_26 : decode cX9_how 26 = .ok (.istore_n 2, 1) := by decide +kernel
theorem dX9_how_27 : decode cX9_how 27 = .ok (.iinc 3 1, 3) := by decide +kernel
theorem dX9_how_30 : decode cX9_how 30 = .ok (.goto (-26), 3) := by decide +kernel
theorem dX9_how_33 : decode cX9_how 33 = .ok (.iload_n 2, 1) := by decide +kernel
theorem dX9_how_34 : decode cX9_how 34 = .ok (.ireturn, 1) := by decide +kernel
theorem dX9_bestSack_0 : decode cX9_bestSack 0 = .ok (.iconst 0, 1) := by decide +kernel
theorem dX9_bestSack_1 : decode cX9_bestSack 1 = .ok (.istore_n 2, 1) := by decide +kernel
theorem dX9_bestSack_2 : decode cX9_bestSack 2 = .ok (.iconst 1, 1) := by decide +kernel
theorem dX9_bestSack_3 : decode cX9_bestSack 3 = .ok (.istore_n 3, 1) := by decide +kernel
theorem dX9_bestSack_4 : decode cX9_bestSack 4 = .ok (.iload_n 3, 1) := by decide +kernel
theorem dX9_bestSack_5 : decode cX9_bestSack 5 = .ok (.aload_n 0, 1) := by decide +kernel
theorem dX9_bestSack_6 : decode cX9_bestSack 6 = .ok (.getfield 120, 3) := by decide +kernel
theorem dX9_bestSack_9 : decode cX9_bestSack 9 = .ok (.if_icmp .ge 26, 3) := by decide +kernel
theorem dX9_bestSack_12 : decode cX9_bestSack 12 = .ok (.aload_n 0, 1) := by decide +kernel
theorem dX9_bestSack_13 : decode cX9_bestSack 13 = .ok (.iload_n 1, 1) := by decide +kernel
theorem dX9_bestSack_14 : decode cX9_bestSack 14 = .ok (.iload_n 3, 1) := by decide +kernel
theorem dX9_bestSack_15 : decode cX9_bestSack 15 = .ok (.invokevirtual 302, 3) := by decide +kernel
theorem dX9_bestSack_18 : decode cX9_bestSack 18 = .ok (.aload_n 0, 1) := by decide +kernel
theorem dX9_bestSack_19 : decode cX9_bestSack 19 = .ok (.iload_n 1, 1) := by decide +kernel
theorem dX9_bestSack_20 : decode cX9_bestSack 20 = .ok (.iload_n 2, 1) := by decide +kernel
theorem dX9_bestSack_21 : decode cX9_bestSack 21 = .ok (.invokevirtual 302, 3) := by decide +kernel
theorem dX9_bestSack_24 : decode cX9_bestSack 24 = .ok (.if_icmp .ge 5, 3) := by decide +kernel
theorem dX9_bestSack_27 : decode cX9_bestSack 27 = .ok (.iload_n 3, 1) := by decide +kernel
theorem dX9_bestSack_28 : decode cX9_bestSack 28 = .ok (.istore_n 2, 1) := by decide +kernel
theorem dX9_bestSack_29 : decode cX9_bestSack 29 = .ok (.iinc 3 1, 3) := by decide +kernel
theorem dX9_bestSack_32 : decode cX9_bestSack 32 = .ok (.goto (-28), 3) := by decide +kernel
theorem dX9_bestSack_35 : decode cX9_bestSack 35 = .ok (.iload_n 2, 1) := by decide +kernel
theorem dX9_bestSack_36 : decode cX9_bestSack 36 = .ok (.ireturn, 1) := by decide +kernel
theorem dX9_best_0 : decode cX9_best 0 = .ok (.aload_n 0, 1) := by decide +kernel
theorem dX9_best_1 : decode cX9_best 1 = .ok (.iload_n 1, 1) := by decide +kernel
theorem dX9_best_2 : decode cX9_best 2 = .ok (.invokevirtual 131, 3) := by decide +kernel
theorem dX9_best_5 : decode cX9_best 5 = .ok (.ifCond .ne 9, 3) := by decide +kernel
theorem dX9_best_8 : decode cX9_best 8 = .ok (.aload_n 0, 1) := by decide +kernel
theorem dX9_best_9 : decode cX9_best 9 = .ok (.iconst (-1), 1) := by decide +kernel
theorem dX9_best_10 : decode cX9_best 10 = .ok (.invokevirtual 127, 3) := by decide +kernel
theorem dX9_best_13 : decode cX9_best 13 = .ok (.ireturn, 1) := by decide +kernel
theorem dX9_best_14 : decode cX9_best 14 = .ok (.iload_n 2, 1) := by decide +kernel
theorem dX9_best_15 : decode cX9_best 15 = .ok (.ifCond .lt 20, 3) := by decide +kernel
theorem dX9_best_18 : decode cX9_best 18 = .ok (.iload_n 2, 1) := by decide +kernel
theorem dX9_best_19 : decode cX9_best 19 = .ok (.iconst 3, 1) := by decide +kernel
theorem dX9_best_20 : decode cX9_best 20 = .ok (.if_icmp .gt 15, 3) := by decide +kernel
theorem dX9_best_23 : decode cX9_best 23 = .ok (.iload_n 2, 1) := by decide +kernel
theorem dX9_best_24 : decode cX9_best 24 = .ok (.iconst 2, 1) := by decide +kernel
theorem dX9_best_25 : decode cX9_best 25 = .ok (.if_icmp .ne 17, 3) := by decide +kernel
theorem dX9_best_28 : decode cX9_best 28 = .ok (.aload_n 0, 1) := by decide +kernel
theorem dX9_best_29 : decode cX9_best 29 = .ok (.getfield 120, 3) := by decide +kernel
theorem dX9_best_32 : decode cX9_best 32 = .ok (.ifCond .ne 10, 3) := by decide +kernel
theorem dX9_best_35 : decode cX9_best 35 = .ok (.aload_n 0, 1) := by decide +kernel
theorem dX9_best_36 : decode cX9_best 36 = .ok (.bipush (-5), 2) := by decide +kernel
theorem dX9_best_38 : decode cX9_best 38 = .ok (.invokevirtual 127, 3) := by decide +kernel
theorem dX9_best_41 : decode cX9_best 41 = .ok (.ireturn, 1) := by decide +kernel
theorem dX9_best_42 : decode cX9_best 42 = .ok (.iload_n 2, 1) := by decide +kernel
theorem dX9_best_43 : decode cX9_best 43 = .ok (.ifCond .ne 9, 3) := by decide +kernel
theorem dX9_best_46 : decode cX9_best 46 = .ok (.aload_n 0, 1) := by decide +kernel
theorem dX9_best_47 : decode cX9_best 47 = .ok (.iload_n 1, 1) := by decide +kernel
theorem dX9_best_48 : decode cX9_best 48 = .ok (.invokevirtual 305, 3) := by decide +kernel
theorem dX9_best_51 : decode cX9_best 51 = .ok (.ireturn, 1) := by decide +kernel
theorem dX9_best_52 : decode cX9_best 52 = .ok (.iload_n 2, 1) := by decide +kernel
theorem dX9_best_53 : decode cX9_best 53 = .ok (.iconst 2, 1) := by decide +kernel
theorem dX9_best_54 : decode cX9_best 54 = .ok (.if_icmp .ne 9, 3) := by decide +kernel
theorem dX9_best_57 : decode cX9_best 57 = .ok (.aload_n 0, 1) := by decide +kernel
theorem dX9_best_58 : decode cX9_best 58 = .ok (.iload_n 1, 1) := by decide +kernel
theorem dX9_best_59 : decode cX9_best 59 = .ok (.invokevirtual 308, 3) := by decide +kernel
theorem dX9_best_62 : decode cX9_best 62 = .ok (.ireturn, 1) := by decide +kernel
theorem dX9_best_63 : decode cX9_best 63 = .ok (.iload_n 2, 1) := by decide +kernel
theorem dX9_best_64 : decode cX9_best 64 = .ok (.iconst 1, 1) := by decide +kernel
theorem dX9_best_65 : decode cX9_best 65 = .ok (.if_icmp .ne 24, 3) := by decide +kernel
theorem dX9_best_68 : decode cX9_best 68 = .ok (.aload_n 0, 1) := by decide +kernel
theorem dX9_best_69 : decode cX9_best 69 = .ok (.iload_n 1, 1) := by decide +kernel
theorem dX9_best_70 : decode cX9_best 70 = .ok (.iconst 3, 1) := by decide +kernel
theorem dX9_best_71 : decode cX9_best 71 = .ok (.invokevirtual 299, 3) := by decide +kernel
theorem dX9_best_74 : decode cX9_best 74 = .ok (.aload_n 0, 1) := by decide +kernel
theorem dX9_best_75 : decode cX9_best 75 = .ok (.iload_n 1, 1) := by decide +kernel
theorem dX9_best_76 : decode cX9_best 76 = .ok (.iconst 5, 1) := by decide +kernel
theorem dX9_best_77 : decode cX9_best 77 = .ok (.invokevirtual 299, 3) := by decide +kernel
theorem dX9_best_80 : decode cX9_best 80 = .ok (.if_icmp .ge 7, 3) := by decide +kernel
theorem dX9_best_83 : decode cX9_best 83 = .ok (.iconst 1, 1) := by decide +kernel
theorem dX9_best_84 : decode cX9_best 84 = .ok (.goto 4, 3) := by decide +kernel
theorem dX9_best_87 : decode cX9_best 87 = .ok (.iconst 0, 1) := by decide +kernel
theorem dX9_best_88 : decode cX9_best 88 = .ok (.ireturn, 1) := by decide +kernel
theorem dX9_best_89 : decode cX9_best 89 = .ok (.aload_n 0, 1) := by decide +kernel
theorem dX9_best_90 : decode cX9_best 90 = .ok (.iload_n 1, 1) := by decide +kernel
theorem dX9_best_91 : decode cX9_best 91 = .ok (.iconst 1, 1) := by decide +kernel
theorem dX9_best_92 : decode cX9_best 92 = .ok (.invokevirtual 311, 3) := by decide +kernel
theorem dX9_best_95 : decode cX9_best 95 = .ok (.aload_n 0, 1) := by decide +kernel
theorem dX9_best_96 : decode cX9_best 96 = .ok (.iload_n 1, 1) := by decide +kernel
theorem dX9_best_97 : decode cX9_best 97 = .ok (.iconst 0, 1) := by decide +kernel
theorem dX9_best_98 : decode cX9_best 98 = .ok (.invokevirtual 311, 3) := by decide +kernel
theorem dX9_best_101 : decode cX9_best 101 = .ok (.if_icmp .ge 7, 3) := by decide +kernel
theorem dX9_best_104 : decode cX9_best 104 = .ok (.iconst 1, 1) := by decide +kernel
theorem dX9_best_105 : decode cX9_best 105 = .ok (.goto 4, 3) := by decide +kernel
theorem dX9_best_108 : decode cX9_best 108 = .ok (.iconst 0, 1) := by decide +kernel
theorem dX9_best_109 : decode cX9_best 109 = .ok (.ireturn, 1) := by decide +kernel
theorem dX9_gives_0 : decode cX9_gives 0 = .ok (.iload_n 2, 1) := by decide +kernel
theorem dX9_gives_1 : decode cX9_gives 1 = .ok (.iload_n 3, 1) := by decide +kernel
theorem dX9_gives_2 : decode cX9_gives 2 = .ok (.if_icmp .ne 83, 3) := by decide +kernel
theorem dX9_gives_5 : decode cX9_gives 5 = .ok (.iload_n 1, 1) := by decide +kernel
theorem dX9_gives_6 : decode cX9_gives 6 = .ok (.ifCond .ne 8, 3) := by decide +kernel
theorem dX9_gives_9 : decode cX9_gives 9 = .ok (.iload 5, 2) := by decide +kernel
theorem dX9_gives_11 : decode cX9_gives 11 = .ok (.goto 18, 3) := by decide +kernel
theorem dX9_gives_14 : decode cX9_gives 14 = .ok (.iload_n 1, 1) := by decide +kernel
theorem dX9_gives_15 : decode cX9_gives 15 = .ok (.iconst 1, 1) := by decide +kernel
theorem dX9_gives_16 : decode cX9_gives 16 = .ok (.if_icmp .ne 8, 3) := by decide +kernel
theorem dX9_gives_19 : decode cX9_gives 19 = .ok (.iload 6, 2) := by decide +kernel
theorem dX9_gives_21 : decode cX9_gives 21 = .ok (.goto 8, 3) := by decide +kernel
theorem dX9_gives_24 : decode cX9_gives 24 = .ok (.iload 6, 2) := by decide +kernel
theorem dX9_gives_26 : decode cX9_gives 26 = .ok (.iload 7, 2) := by decide +kernel
theorem dX9_gives_28 : decode cX9_gives 28 = .ok (.isub, 1) := by decide +kernel
theorem dX9_gives_29 : decode cX9_gives 29 = .ok (.istore 8, 2) := by decide +kernel
theorem dX9_gives_31 : decode cX9_gives 31 = .ok (.aload_n 0, 1) := by decide +kernel
theorem dX9_gives_32 : decode cX9_gives 32 = .ok (.getfield 314, 3) := by decide +kernel
theorem dX9_gives_35 : decode cX9_gives 35 = .ok (.iconst (-1), 1) := by decide +kernel
theorem dX9_gives_36 : decode cX9_gives 36 = .ok (.if_icmp .eq 13, 3) := by decide +kernel
theorem dX9_gives_39 : decode cX9_gives 39 = .ok (.iload 8, 2) := by decide +kernel
theorem dX9_gives_41 : decode cX9_gives 41 = .ok (.aload_n 0, 1) := by decide +kernel
theorem dX9_gives_42 : decode cX9_gives 42 = .ok (.getfield 314, 3) := by decide +kernel
theorem dX9_gives_45 : decode cX9_gives 45 = .ok (.if_icmp .lt 4, 3) := by decide +kernel
theorem dX9_gives_48 : decode cX9_gives 48 = .ok (.return_, 1) := by decide +kernel
theorem dX9_gives_49 : decode cX9_gives 49 = .ok (.aload_n 0, 1) := by decide +kernel
theorem dX9_gives_50 : decode cX9_gives 50 = .ok (.iload 8, 2) := by decide +kernel
theorem dX9_gives_52 : decode cX9_gives 52 = .ok (.putfield 314, 3) := by decide +kernel
theorem dX9_gives_55 : decode cX9_gives 55 = .ok (.iconst 0, 1) := by decide +kernel
theorem dX9_gives_56 : decode cX9_gives 56 = .ok (.istore 9, 2) := by decide +kernel
theorem dX9_gives_58 : decode cX9_gives 58 = .ok (.iload 9, 2) := by decide +kernel
theorem dX9_gives_60 : decode cX9_gives 60 = .ok (.iload_n 3, 1) := by decide +kernel
theorem dX9_gives_61 : decode cX9_gives 61 = .ok (.if_icmp .ge 23, 3) := by decide +kernel
theorem dX9_gives_64 : decode cX9_gives 64 = .ok (.aload_n 0, 1) := by decide +kernel
theorem dX9_gives_65 : decode cX9_gives 65 = .ok (.getfield 96, 3) := by decide +kernel
theorem dX9_gives_68 : decode cX9_gives 68 = .ok (.iload 9, 2) := by decide +kernel
theorem dX9_gives_70 : decode cX9_gives 70 = .ok (.aload_n 0, 1) := by decide +kernel
theorem dX9_gives_71 : decode cX9_gives 71 = .ok (.getfield 93, 3) := by decide +kernel
theorem dX9_gives_74 : decode cX9_gives 74 = .ok (.iload 9, 2) := by decide +kernel
theorem dX9_gives_76 : decode cX9_gives 76 = .ok (.iaload, 1) := by decide +kernel
theorem dX9_gives_77 : decode cX9_gives 77 = .ok (.iastore, 1) := by decide +kernel
theorem dX9_gives_78 : decode cX9_gives 78 = .ok (.iinc 9 1, 3) := by decide +kernel
theorem dX9_gives_81 : decode cX9_gives 81 = .ok (.goto (-23), 3) := by decide +kernel
theorem dX9_gives_84 : decode cX9_gives 84 = .ok (.return_, 1) := by decide +kernel
theorem dX9_gives_85 : decode cX9_gives 85 = .ok (.iconst 0, 1) := by decide +kernel
theorem dX9_gives_86 : decode cX9_gives 86 = .ok (.istore 8, 2) := by decide +kernel
theorem dX9_gives_88 : decode cX9_gives 88 = .ok (.iload 8, 2) := by decide +kernel
theorem dX9_gives_90 : decode cX9_gives 90 = .ok (.aload_n 0, 1) := by decide +kernel
theorem dX9_gives_91 : decode cX9_gives 91 = .ok (.getfield 120, 3) := by decide +kernel
theorem dX9_gives_94 : decode cX9_gives 94 = .ok (.if_icmp .ge 94, 3) := by decide +kernel
theorem dX9_gives_97 : decode cX9_gives 97 = .ok (.iload 4, 2) := by decide +kernel
theorem dX9_gives_99 : decode cX9_gives 99 = .ok (.iload 8, 2) := by decide +kernel
theorem dX9_gives_101 : decode cX9_gives 101 = .ok (.ishr, 1) := by decide +kernel
theorem dX9_gives_102 : decode cX9_gives 102 = .ok (.iconst 1, 1) := by decide +kernel
theorem dX9_gives_103 : decode cX9_gives 103 = .ok (.iand, 1) := by decide +kernel
theorem dX9_gives_104 : decode cX9_gives 104 = .ok (.iconst 1, 1) := by decide +kernel
theorem dX9_gives_105 : decode cX9_gives 105 = .ok (.if_icmp .ne 6, 3) := by decide +kernel
theorem dX9_gives_108 : decode cX9_gives 108 = .ok (.goto 74, 3) := by decide +kernel
theorem dX9_gives_111 : decode cX9_gives 111 = .ok (.aload_n 0, 1) := by decide +kernel
theorem dX9_gives_112 : decode cX9_gives 112 = .ok (.getfield 90, 3) := by decide +kernel
theorem dX9_gives_115 : decode cX9_gives 115 = .ok (.bipush 8, 2) := by decide +kernel
theorem dX9_gives_117 : decode cX9_gives 117 = .ok (.iload_n 2, 1) := by decide +kernel
theorem dX9_gives_118 : decode cX9_gives 118 = .ok (.imul, 1) := by decide +kernel
theorem dX9_gives_119 : decode cX9_gives 119 = .ok (.iload 8, 2) := by decide +kernel
theorem dX9_gives_121 : decode cX9_gives 121 = .ok (.iadd, 1) := by decide +kernel
theorem dX9_gives_122 : decode cX9_gives 122 = .ok (.iaload, 1) := by decide +kernel
theorem dX9_gives_123 : decode cX9_gives 123 = .ok (.istore 9, 2) := by decide +kernel
theorem dX9_gives_125 : decode cX9_gives 125 = .ok (.aload_n 0, 1) := by decide +kernel
theorem dX9_gives_126 : decode cX9_gives 126 = .ok (.getfield 93, 3) := by decide +kernel
theorem dX9_gives_129 : decode cX9_gives 129 = .ok (.iload_n 2, 1) := by decide +kernel
theorem dX9_gives_130 : decode cX9_gives 130 = .ok (.iload 8, 2) := by decide +kernel
theorem dX9_gives_132 : decode cX9_gives 132 = .ok (.iastore, 1) := by decide +kernel
theorem dX9_gives_133 : decode cX9_gives 133 = .ok (.aload_n 0, 1) := by decide +kernel
theorem dX9_gives_134 : decode cX9_gives 134 = .ok (.iload_n 1, 1) := by decide +kernel
theorem dX9_gives_135 : decode cX9_gives 135 = .ok (.iload_n 2, 1) := by decide +kernel
theorem dX9_gives_136 : decode cX9_gives 136 = .ok (.iconst 1, 1) := by decide +kernel
theorem dX9_gives_137 : decode cX9_gives 137 = .ok (.iadd, 1) := by decide +kernel
theorem dX9_gives_138 : decode cX9_gives 138 = .ok (.iload_n 3, 1) := by decide +kernel
theorem dX9_gives_139 : decode cX9_gives 139 = .ok (.iload 4, 2) := by decide +kernel
theorem dX9_gives_141 : decode cX9_gives 141 = .ok (.iconst 1, 1) := by decide +kernel
theorem dX9_gives_142 : decode cX9_gives 142 = .ok (.iload 8, 2) := by decide +kernel
theorem dX9_gives_144 : decode cX9_gives 144 = .ok (.ishl, 1) := by decide +kernel
theorem dX9_gives_145 : decode cX9_gives 145 = .ok (.ior, 1) := by decide +kernel
theorem dX9_gives_146 : decode cX9_gives 146 = .ok (.iload 5, 2) := by decide +kernel
theorem dX9_gives_148 : decode cX9_gives 148 = .ok (.iload 9, 2) := by decide +kernel
theorem dX9_gives_150 : decode cX9_gives 150 = .ok (.iadd, 1) := by decide +kernel
theorem dX9_gives_151 : decode cX9_gives 151 = .ok (.iload 9, 2) := by decide +kernel
theorem dX9_gives_153 : decode cX9_gives 153 = .ok (.iload 6, 2) := by decide +kernel
theorem dX9_gives_155 : decode cX9_gives 155 = .ok (.if_icmp .le 8, 3) := by decide +kernel
theorem dX9_gives_158 : decode cX9_gives 158 = .ok (.iload 9, 2) := by decide +kernel
theorem dX9_gives_160 : decode cX9_gives 160 = .ok (.goto 5, 3) := by decide +kernel
theorem dX9_gives_163 : decode cX9_gives 163 = .ok (.iload 6, 2) := by decide +kernel
theorem dX9_gives_165 : decode cX9_gives 165 = .ok (.iload 9, 2) := by decide +kernel
theorem dX9_gives_167 : decode cX9_gives 167 = .ok (.iload 7, 2) := by decide +kernel
theorem dX9_gives_169 : decode cX9_gives 169 = .ok (.if_icmp .ge 8, 3) := by decide +kernel
theorem dX9_gives_172 : decode cX9_gives 172 = .ok (.iload 9, 2) := by decide +kernel
theorem dX9_gives_174 : decode cX9_gives 174 = .ok (.goto 5, 3) := by decide +kernel
theorem dX9_gives_177 : decode cX9_gives 177 = .ok (.iload 7, 2) := by decide +kernel
theorem dX9_gives_179 : decode cX9_gives 179 = .ok (.invokevirtual 317, 3) := by decide +kernel
theorem dX9_gives_182 : decode cX9_gives 182 = .ok (.iinc 8 1, 3) := by decide +kernel
theorem dX9_gives_185 : decode cX9_gives 185 = .ok (.goto (-97), 3) := by decide +kernel
theorem dX9_gives_188 : decode cX9_gives 188 = .ok (.return_, 1) := by decide +kernel
theorem dX9_given_0 : decode cX9_given 0 = .ok (.iload_n 1, 1) := by decide +kernel
theorem dX9_given_1 : decode cX9_given 1 = .ok (.ifCond .lt 34, 3) := by decide +kernel
theorem dX9_given_4 : decode cX9_given 4 = .ok (.iload_n 1, 1) := by decide +kernel
theorem dX9_given_5 : decode cX9_given 5 = .ok (.iconst 2, 1) := by decide +kernel
theorem dX9_given_6 : decode cX9_given 6 = .ok (.if_icmp .gt 29, 3) := by decide +kernel
theorem dX9_given_9 : decode cX9_given 9 = .ok (.iload_n 2, 1) := by decide +kernel
theorem dX9_given_10 : decode cX9_given 10 = .ok (.iconst 1, 1) := by decide +kernel
theorem dX9_given_11 : decode cX9_given 11 = .ok (.if_icmp .lt 24, 3) := by decide +kernel
theorem dX9_given_14 : decode cX9_given 14 = .ok (.iload_n 2, 1) := by decide +kernel
theorem dX9_given_15 : decode cX9_given 15 = .ok (.iconst 5, 1) := by decide +kernel
theorem dX9_given_16 : decode cX9_given 16 = .ok (.if_icmp .gt 19, 3) := by decide +kernel
theorem dX9_given_19 : decode cX9_given 19 = .ok (.iload_n 2, 1) := by decide +kernel
theorem dX9_given_20 : decode cX9_given 20 = .ok (.aload_n 0, 1) := by decide +kernel
theorem dX9_given_21 : decode cX9_given 21 = .ok (.getfield 117, 3) := by decide +kernel
theorem dX9_given_24 : decode cX9_given 24 = .ok (.if_icmp .gt 11, 3) := by decide +kernel
theorem dX9_given_27 : decode cX9_given 27 = .ok (.iload_n 2, 1) := by decide +kernel
theorem dX9_given_28 : decode cX9_given 28 = .ok (.aload_n 0, 1) := by decide +kernel
theorem dX9_given_29 : decode cX9_given 29 = .ok (.getfield 120, 3) := by decide +kernel
theorem dX9_given_32 : decode cX9_given 32 = .ok (.if_icmp .le 10, 3) := by decide +kernel
theorem dX9_given_35 : decode cX9_given 35 = .ok (.aload_n 0, 1) := by decide +kernel
theorem dX9_given_36 : decode cX9_given 36 = .ok (.bipush (-6), 2) := by decide +kernel
theorem dX9_given_38 : decode cX9_given 38 = .ok (.invokevirtual 127, 3) := by decide +kernel
theorem dX9_given_41 : decode cX9_given 41 = .ok (.ireturn, 1) := by decide +kernel
theorem dX9_given_42 : decode cX9_given 42 = .ok (.iload_n 3, 1) := by decide +kernel
theorem dX9_given_43 : decode cX9_given 43 = .ok (.iconst (-1), 1) := by decide +kernel
theorem dX9_given_44 : decode cX9_given 44 = .ok (.if_icmp .lt 8, 3) := by decide +kernel
theorem dX9_given_47 : decode cX9_given 47 = .ok (.iload_n 3, 1) := by decide +kernel
theorem dX9_given_48 : decode cX9_given 48 = .ok (.iload_n 2, 1) := by decide +kernel
theorem dX9_given_49 : decode cX9_given 49 = .ok (.if_icmp .lt 10, 3) := by decide +kernel
theorem dX9_given_52 : decode cX9_given 52 = .ok (.aload_n 0, 1) := by decide +kernel
theorem dX9_given_53 : decode cX9_given 53 = .ok (.bipush (-5), 2) := by decide +kernel
theorem dX9_given_55 : decode cX9_given 55 = .ok (.invokevirtual 127, 3) := by decide +kernel
theorem dX9_given_58 : decode cX9_given 58 = .ok (.ireturn, 1) := by decide +kernel
theorem dX9_given_59 : decode cX9_given 59 = .ok (.iconst 0, 1) := by decide +kernel
theorem dX9_given_60 : decode cX9_given 60 = .ok (.istore 4, 2) := by decide +kernel
theorem dX9_given_62 : decode cX9_given 62 = .ok (.iload 4, 2) := by decide +kernel
theorem dX9_given_64 : decode cX9_given 64 = .ok (.iload_n 2, 1) := by decide +kernel
theorem dX9_given_65 : decode cX9_given 65 = .ok (.if_icmp .ge 48, 3) := by decide +kernel
theorem dX9_given_68 : decode cX9_given 68 = .ok (.iconst 0, 1) := by decide +kernel
theorem dX9_given_69 : decode cX9_given 69 = .ok (.istore 5, 2) := by decide +kernel
theorem dX9_given_71 : decode cX9_given 71 = .ok (.iload 5, 2) := by decide +kernel
theorem dX9_given_73 : decode cX9_given 73 = .ok (.aload_n 0, 1) := by decide +kernel
theorem dX9_given_74 : decode cX9_given 74 = .ok (.getfield 120, 3) := by decide +kernel
theorem dX9_given_77 : decode cX9_given 77 = .ok (.if_icmp .ge 30, 3) := by decide +kernel
theorem dX9_given_80 : decode cX9_given 80 = .ok (.aload_n 0, 1) := by decide +kernel
theorem dX9_given_81 : decode cX9_given 81 = .ok (.getfield 90, 3) := by decide +kernel
theorem dX9_given_84 : decode cX9_given 84 = .ok (.bipush 8, 2) := by decide +kernel
theorem dX9_given_86 : decode cX9_given 86 = .ok (.iload 4, 2) := by decide +kernel
theorem dX9_given_88 : decode cX9_given 88 = .ok (.imul, 1) := by decide +kernel
theorem dX9_given_89 : decode cX9_given 89 = .ok (.iload 5, 2) := by decide +kernel
theorem dX9_given_91 : decode cX9_given 91 = .ok (.iadd, 1) := by decide +kernel
theorem dX9_given_92 : decode cX9_given 92 = .ok (.aload_n 0, 1) := by decide +kernel
theorem dX9_given_93 : decode cX9_given 93 = .ok (.iload 4, 2) := by decide +kernel
theorem dX9_given_95 : decode cX9_given 95 = .ok (.iload 5, 2) := by decide +kernel
theorem dX9_given_97 : decode cX9_given 97 = .ok (.invokevirtual 302, 3) := by decide +kernel
theorem dX9_given_100 : decode cX9_given 100 = .ok (.iastore, 1) := by decide +kernel
theorem dX9_given_101 : decode cX9_given 101 = .ok (.iinc 5 1, 3) := by decide +kernel
theorem dX9_given_104 : decode cX9_given 104 = .ok (.goto (-33), 3) := by decide +kernel
theorem dX9_given_107 : decode cX9_given 107 = .ok (.iinc 4 1, 3) := by decide +kernel
theorem dX9_given_110 : decode cX9_given 110 = .ok (.goto (-48), 3) := by decide +kernel
theorem dX9_given_113 : decode cX9_given 113 = .ok (.aload_n 0, 1) := by decide +kernel
theorem dX9_given_114 : decode cX9_given 114 = .ok (.iconst (-1), 1) := by decide +kernel
theorem dX9_given_115 : decode cX9_given 115 = .ok (.putfield 314, 3) := by decide +kernel
theorem dX9_given_118 : decode cX9_given 118 = .ok (.aload_n 0, 1) := by decide +kernel
theorem dX9_given_119 : decode cX9_given 119 = .ok (.iload_n 1, 1) := by decide +kernel
theorem dX9_given_120 : decode cX9_given 120 = .ok (.iconst 0, 1) := by decide +kernel
theorem dX9_given_121 : decode cX9_given 121 = .ok (.iload_n 2, 1) := by decide +kernel
theorem dX9_given_122 : decode cX9_given 122 = .ok (.iconst 0, 1) := by decide +kernel
theorem dX9_given_123 : decode cX9_given 123 = .ok (.iconst 0, 1) := by decide +kernel
theorem dX9_given_124 : decode cX9_given 124 = .ok (.iconst 0, 1) := by decide +kernel
theorem dX9_given_125 : decode cX9_given 125 = .ok (.sipush 999, 3) := by decide +kernel
theorem dX9_given_128 : decode cX9_given 128 = .ok (.invokevirtual 317, 3) := by decide +kernel
theorem dX9_given_131 : decode cX9_given 131 = .ok (.iload_n 3, 1) := by decide +kernel
theorem dX9_given_132 : decode cX9_given 132 = .ok (.iconst (-1), 1) := by decide +kernel
theorem dX9_given_133 : decode cX9_given 133 = .ok (.if_icmp .ne 10, 3) := by decide +kernel
theorem dX9_given_136 : decode cX9_given 136 = .ok (.aload_n 0, 1) := by decide +kernel
theorem dX9_given_137 : decode cX9_given 137 = .ok (.getfield 314, 3) := by decide +kernel
theorem dX9_given_140 : decode cX9_given 140 = .ok (.goto 9, 3) := by decide +kernel
theorem dX9_given_143 : decode cX9_given 143 = .ok (.aload_n 0, 1) := by decide +kernel
theorem dX9_given_144 : decode cX9_given 144 = .ok (.getfield 96, 3) := by decide +kernel
theorem dX9_given_147 : decode cX9_given 147 = .ok (.iload_n 3, 1) := by decide +kernel
theorem dX9_given_148 : decode cX9_given 148 = .ok (.iaload, 1) := by decide +kernel
theorem dX9_given_149 : decode cX9_given 149 = .ok (.ireturn, 1) := by decide +kernel
theorem dX9_twoIn_0 : decode cX9_twoIn 0 = .ok (.aload_n 0, 1) := by decide +kernel
theorem dX9_twoIn_1 : decode cX9_twoIn 1 = .ok (.iload_n 1, 1) := by decide +kernel
theorem dX9_twoIn_2 : decode cX9_twoIn 2 = .ok (.invokevirtual 134, 3) := by decide +kernel
theorem dX9_twoIn_5 : decode cX9_twoIn 5 = .ok (.aload_n 0, 1) := by decide +kernel
theorem dX9_twoIn_6 : decode cX9_twoIn 6 = .ok (.aload_n 0, 1) := by decide +kernel
theorem dX9_twoIn_7 : decode cX9_twoIn 7 = .ok (.getfield 38, 3) := by decide +kernel
theorem dX9_twoIn_10 : decode cX9_twoIn 10 = .ok (.iload_n 2, 1) := by decide +kernel
theorem dX9_twoIn_11 : decode cX9_twoIn 11 = .ok (.iaload, 1) := by decide +kernel
theorem dX9_twoIn_12 : decode cX9_twoIn 12 = .ok (.aload_n 0, 1) := by decide +kernel
theorem dX9_twoIn_13 : decode cX9_twoIn 13 = .ok (.getfield 38, 3) := by decide +kernel
theorem dX9_twoIn_16 : decode cX9_twoIn 16 = .ok (.iload_n 1, 1) := by decide +kernel
theorem dX9_twoIn_17 : decode cX9_twoIn 17 = .ok (.iaload, 1) := by decide +kernel
theorem dX9_twoIn_18 : decode cX9_twoIn 18 = .ok (.if_icmp .ge 12, 3) := by decide +kernel
theorem dX9_twoIn_21 : decode cX9_twoIn 21 = .ok (.aload_n 0, 1) := by decide +kernel
theorem dX9_twoIn_22 : decode cX9_twoIn 22 = .ok (.getfield 38, 3) := by decide +kernel
theorem dX9_twoIn_25 : decode cX9_twoIn 25 = .ok (.iload_n 2, 1) := by decide +kernel
theorem dX9_twoIn_26 : decode cX9_twoIn 26 = .ok (.iaload, 1) := by decide +kernel
theorem dX9_twoIn_27 : decode cX9_twoIn 27 = .ok (.goto 9, 3) := by decide +kernel
theorem dX9_twoIn_30 : decode cX9_twoIn 30 = .ok (.aload_n 0, 1) := by decide +kernel
theorem dX9_twoIn_31 : decode cX9_twoIn 31 = .ok (.getfield 38, 3) := by decide +kernel
theorem dX9_twoIn_34 : decode cX9_twoIn 34 = .ok (.iload_n 1, 1) := by decide +kernel
theorem dX9_twoIn_35 : decode cX9_twoIn 35 = .ok (.iaload, 1) := by decide +kernel
theorem dX9_twoIn_36 : decode cX9_twoIn 36 = .ok (.putfield 230, 3) := by decide +kernel
theorem dX9_twoIn_39 : decode cX9_twoIn 39 = .ok (.aload_n 0, 1) := by decide +kernel
theorem dX9_twoIn_40 : decode cX9_twoIn 40 = .ok (.iload_n 3, 1) := by decide +kernel
theorem dX9_twoIn_41 : decode cX9_twoIn 41 = .ok (.invokevirtual 239, 3) := by decide +kernel
theorem dX9_twoIn_44 : decode cX9_twoIn 44 = .ok (.aload_n 0, 1) := by decide +kernel
theorem dX9_twoIn_45 : decode cX9_twoIn 45 = .ok (.dup, 1) := by decide +kernel
theorem dX9_twoIn_46 : decode cX9_twoIn 46 = .ok (.getfield 245, 3) := by decide +kernel
theorem dX9_twoIn_49 : decode cX9_twoIn 49 = .ok (.aload_n 0, 1) := by decide +kernel
theorem dX9_twoIn_50 : decode cX9_twoIn 50 = .ok (.aload_n 0, 1) := by decide +kernel
theorem dX9_twoIn_51 : decode cX9_twoIn 51 = .ok (.getfield 38, 3) := by decide +kernel
theorem dX9_twoIn_54 : decode cX9_twoIn 54 = .ok (.iload_n 1, 1) := by decide +kernel
theorem dX9_twoIn_55 : decode cX9_twoIn 55 = .ok (.iaload, 1) := by decide +kernel
theorem dX9_twoIn_56 : decode cX9_twoIn 56 = .ok (.aload_n 0, 1) := by decide +kernel
theorem dX9_twoIn_57 : decode cX9_twoIn 57 = .ok (.getfield 38, 3) := by decide +kernel
theorem dX9_twoIn_60 : decode cX9_twoIn 60 = .ok (.iload_n 2, 1) := by decide +kernel
theorem dX9_twoIn_61 : decode cX9_twoIn 61 = .ok (.iaload, 1) := by decide +kernel
theorem dX9_twoIn_62 : decode cX9_twoIn 62 = .ok (.isub, 1) := by decide +kernel
theorem dX9_twoIn_63 : decode cX9_twoIn 63 = .ok (.invokevirtual 242, 3) := by decide +kernel
theorem dX9_twoIn_66 : decode cX9_twoIn 66 = .ok (.iadd, 1) := by decide +kernel
theorem dX9_twoIn_67 : decode cX9_twoIn 67 = .ok (.putfield 245, 3) := by decide +kernel
theorem dX9_twoIn_70 : decode cX9_twoIn 70 = .ok (.aload_n 0, 1) := by decide +kernel
theorem dX9_twoIn_71 : decode cX9_twoIn 71 = .ok (.invokevirtual 290, 3) := by decide +kernel
theorem dX9_twoIn_74 : decode cX9_twoIn 74 = .ok (.ireturn, 1) := by decide +kernel
theorem dX9_two_0 : decode cX9_two 0 = .ok (.aload_n 0, 1) := by decide +kernel
theorem dX9_two_1 : decode cX9_two 1 = .ok (.iload_n 1, 1) := by decide +kernel
theorem dX9_two_2 : decode cX9_two 2 = .ok (.invokevirtual 131, 3) := by decide +kernel
theorem dX9_two_5 : decode cX9_two 5 = .ok (.ifCond .eq 19, 3) := by decide +kernel
theorem dX9_two_8 : decode cX9_two 8 = .ok (.aload_n 0, 1) := by decide +kernel
theorem dX9_two_9 : decode cX9_two 9 = .ok (.iload_n 2, 1) := by decide +kernel
theorem dX9_two_10 : decode cX9_two 10 = .ok (.invokevirtual 131, 3) := by decide +kernel
theorem dX9_two_13 : decode cX9_two 13 = .ok (.ifCond .eq 11, 3) := by decide +kernel
theorem dX9_two_16 : decode cX9_two 16 = .ok (.aload_n 0, 1) := by decide +kernel
theorem dX9_two_17 : decode cX9_two 17 = .ok (.iload_n 3, 1) := by decide +kernel
theorem dX9_two_18 : decode cX9_two 18 = .ok (.invokevirtual 156, 3) := by decide +kernel
theorem dX9_two_21 : decode cX9_two 21 = .ok (.ifCond .ne 9, 3) := by decide +kernel
theorem dX9_two_24 : decode cX9_two 24 = .ok (.aload_n 0, 1) := by decide +kernel
theorem dX9_two_25 : decode cX9_two 25 = .ok (.iconst (-1), 1) := by decide +kernel
theorem dX9_two_26 : decode cX9_two 26 = .ok (.invokevirtual 127, 3) := by decide +kernel
theorem dX9_two_29 : decode cX9_two 29 = .ok (.ireturn, 1) := by decide +kernel
theorem dX9_two_30 : decode cX9_two 30 = .ok (.iload_n 1, 1) := by decide +kernel
theorem dX9_two_31 : decode cX9_two 31 = .ok (.iload_n 2, 1) := by decide +kernel
theorem dX9_two_32 : decode cX9_two 32 = .ok (.if_icmp .ne 12, 3) := by decide +kernel
theorem dX9_two_35 : decode cX9_two 35 = .ok (.aload_n 0, 1) := by decide +kernel
theorem dX9_two_36 : decode cX9_two 36 = .ok (.bipush (-6), 2) := by decide +kernel
theorem dX9_two_38 : decode cX9_two 38 = .ok (.invokevirtual 127, 3) := by decide +kernel
theorem dX9_two_41 : decode cX9_two 41 = .ok (.goto 10, 3) := by decide +kernel
theorem dX9_two_44 : decode cX9_two 44 = .ok (.aload_n 0, 1) := by decide +kernel
theorem dX9_two_45 : decode cX9_two 45 = .ok (.iload_n 1, 1) := by decide +kernel
theorem dX9_two_46 : decode cX9_two 46 = .ok (.iload_n 2, 1) := by decide +kernel
theorem dX9_two_47 : decode cX9_two 47 = .ok (.iload_n 3, 1) := by decide +kernel
theorem dX9_two_48 : decode cX9_two 48 = .ok (.invokevirtual 321, 3) := by decide +kernel
theorem dX9_two_51 : decode cX9_two 51 = .ok (.ireturn, 1) := by decide +kernel
theorem dX9_pair_0 : decode cX9_pair 0 = .ok (.aload_n 0, 1) := by decide +kernel
theorem dX9_pair_1 : decode cX9_pair 1 = .ok (.getfield 117, 3) := by decide +kernel
theorem dX9_pair_4 : decode cX9_pair 4 = .ok (.iconst 2, 1) := by decide +kernel
theorem dX9_pair_5 : decode cX9_pair 5 = .ok (.if_icmp .lt 10, 3) := by decide +kernel
theorem dX9_pair_8 : decode cX9_pair 8 = .ok (.aload_n 0, 1) := by decide +kernel
theorem dX9_pair_9 : decode cX9_pair 9 = .ok (.getfield 120, 3) := by decide +kernel
theorem dX9_pair_12 : decode cX9_pair 12 = .ok (.ifCond .ne 10, 3) := by decide +kernel
theorem dX9_pair_15 : decode cX9_pair 15 = .ok (.aload_n 0, 1) := by decide +kernel
theorem dX9_pair_16 : decode cX9_pair 16 = .ok (.bipush (-5), 2) := by decide +kernel
theorem dX9_pair_18 : decode cX9_pair 18 = .ok (.invokevirtual 127, 3) := by decide +kernel
theorem dX9_pair_21 : decode cX9_pair 21 = .ok (.ireturn, 1) := by decide +kernel
theorem dX9_pair_22 : decode cX9_pair 22 = .ok (.iconst (-1), 1) := by decide +kernel
theorem dX9_pair_23 : decode cX9_pair 23 = .ok (.istore_n 1, 1) := by decide +kernel
theorem dX9_pair_24 : decode cX9_pair 24 = .ok (.iconst 0, 1) := by decide +kernel
theorem dX9_pair_25 : decode cX9_pair 25 = .ok (.istore_n 2, 1) := by decide +kernel
theorem dX9_pair_26 : decode cX9_pair 26 = .ok (.iconst 0, 1) := by decide +kernel
theorem dX9_pair_27 : decode cX9_pair 27 = .ok (.istore_n 3, 1) := by decide +kernel
theorem dX9_pair_28 : decode cX9_pair 28 = .ok (.iload_n 3, 1) := by decide +kernel
theorem dX9_pair_29 : decode cX9_pair 29 = .ok (.aload_n 0, 1) := by decide +kernel
theorem dX9_pair_30 : decode cX9_pair 30 = .ok (.getfield 117, 3) := by decide +kernel
theorem dX9_pair_33 : decode cX9_pair 33 = .ok (.if_icmp .ge 69, 3) := by decide +kernel
theorem dX9_pair_36 : decode cX9_pair 36 = .ok (.iload_n 3, 1) := by decide +kernel
theorem dX9_pair_37 : decode cX9_pair 37 = .ok (.iconst 1, 1) := by decide +kernel
theorem dX9_pair_38 : decode cX9_pair 38 = .ok (.iadd, 1) := by decide +kernel
theorem dX9_pair_39 : decode cX9_pair 39 = .ok (.istore 4, 2) := by decide +kernel
theorem dX9_pair_41 : decode cX9_pair 41 = .ok (.iload 4, 2) := by decide +kernel
theorem dX9_pair_43 : decode cX9_pair 43 = .ok (.aload_n 0, 1) := by decide +kernel
theorem dX9_pair_44 : decode cX9_pair 44 = .ok (.getfield 117, 3) := by decide +kernel
theorem dX9_pair_47 : decode cX9_pair 47 = .ok (.if_icmp .ge 49, 3) := by decide +kernel
theorem dX9_pair_50 : decode cX9_pair 50 = .ok (.aload_n 0, 1) := by decide +kernel
theorem dX9_pair_51 : decode cX9_pair 51 = .ok (.iload_n 3, 1) := by decide +kernel
theorem dX9_pair_52 : decode cX9_pair 52 = .ok (.iload 4, 2) := by decide +kernel
theorem dX9_pair_54 : decode cX9_pair 54 = .ok (.aload_n 0, 1) := by decide +kernel
theorem dX9_pair_55 : decode cX9_pair 55 = .ok (.getfield 41, 3) := by decide +kernel
theorem dX9_pair_58 : decode cX9_pair 58 = .ok (.iload_n 3, 1) := by decide +kernel
theorem dX9_pair_59 : decode cX9_pair 59 = .ok (.iaload, 1) := by decide +kernel
theorem dX9_pair_60 : decode cX9_pair 60 = .ok (.invokevirtual 321, 3) := by decide +kernel
theorem dX9_pair_63 : decode cX9_pair 63 = .ok (.istore 5, 2) := by decide +kernel
theorem dX9_pair_65 : decode cX9_pair 65 = .ok (.iload_n 1, 1) := by decide +kernel
theorem dX9_pair_66 : decode cX9_pair 66 = .ok (.iconst (-1), 1) := by decide +kernel
theorem dX9_pair_67 : decode cX9_pair 67 = .ok (.if_icmp .eq 12, 3) := by decide +kernel
theorem dX9_pair_70 : decode cX9_pair 70 = .ok (.iload 5, 2) := by decide +kernel
theorem dX9_pair_72 : decode cX9_pair 72 = .ok (.iload_n 2, 1) := by decide +kernel
theorem dX9_pair_73 : decode cX9_pair 73 = .ok (.if_icmp .lt 6, 3) := by decide +kernel
theorem dX9_pair_76 : decode cX9_pair 76 = .ok (.goto 14, 3) := by decide +kernel
theorem dX9_pair_79 : decode cX9_pair 79 = .ok (.bipush 100, 2) := by decide +kernel
theorem dX9_pair_81 : decode cX9_pair 81 = .ok (.iload_n 3, 1) := by decide +kernel
theorem dX9_pair_82 : decode cX9_pair 82 = .ok (.imul, 1) := by decide +kernel
theorem dX9_pair_83 : decode cX9_pair 83 = .ok (.iload 4, 2) := by decide +kernel
theorem dX9_pair_85 : decode cX9_pair 85 = .ok (.iadd, 1) := by decide +kernel
theorem dX9_pair_86 : decode cX9_pair 86 = .ok (.istore_n 1, 1) := by decide +kernel
theorem dX9_pair_87 : decode cX9_pair 87 = .ok (.iload 5, 2) := by decide +kernel
theorem dX9_pair_89 : decode cX9_pair 89 = .ok (.istore_n 2, 1) := by decide +kernel
theorem dX9_pair_90 : decode cX9_pair 90 = .ok (.iinc 4 1, 3) := by decide +kernel
theorem dX9_pair_93 : decode cX9_pair 93 = .ok (.goto (-52), 3) := by decide +kernel
theorem dX9_pair_96 : decode cX9_pair 96 = .ok (.iinc 3 1, 3) := by decide +kernel
theorem dX9_pair_99 : decode cX9_pair 99 = .ok (.goto (-71), 3) := by decide +kernel
theorem dX9_pair_102 : decode cX9_pair 102 = .ok (.iload_n 1, 1) := by decide +kernel
theorem dX9_pair_103 : decode cX9_pair 103 = .ok (.ireturn, 1) := by decide +kernel
theorem dX9_startOf_0 : decode cX9_startOf 0 = .ok (.iconst 0, 1) := by decide +kernel
theorem dX9_startOf_1 : decode cX9_startOf 1 = .ok (.istore_n 3, 1) := by decide +kernel
theorem dX9_startOf_2 : decode cX9_startOf 2 = .ok (.iload_n 3, 1) := by decide +kernel
theorem dX9_startOf_3 : decode cX9_startOf 3 = .ok (.bipush 100, 2) := by decide +kernel
theorem dX9_startOf_5 : decode cX9_startOf 5 = .ok (.if_icmp .ge 21, 3) := by decide +kernel
theorem dX9_startOf_8 : decode cX9_startOf 8 = .ok (.aload_n 0, 1) := by decide +kernel
theorem dX9_startOf_9 : decode cX9_startOf 9 = .ok (.iload_n 1, 1) := by decide +kernel
theorem dX9_startOf_10 : decode cX9_startOf 10 = .ok (.iload_n 3, 1) := by decide +kernel
theorem dX9_startOf_11 : decode cX9_startOf 11 = .ok (.invokevirtual 324, 3) := by decide +kernel
theorem dX9_startOf_14 : decode cX9_startOf 14 = .ok (.iload_n 2, 1) := by decide +kernel
theorem dX9_startOf_15 : decode cX9_startOf 15 = .ok (.if_icmp .gt 5, 3) := by decide +kernel
theorem dX9_startOf_18 : decode cX9_startOf 18 = .ok (.iload_n 3, 1) := by decide +kernel
theorem dX9_startOf_19 : decode cX9_startOf 19 = .ok (.ireturn, 1) := by decide +kernel
theorem dX9_startOf_20 : decode cX9_startOf 20 = .ok (.iinc 3 1, 3) := by decide +kernel
theorem dX9_startOf_23 : decode cX9_startOf 23 = .ok (.goto (-21), 3) := by decide +kernel
theorem dX9_startOf_26 : decode cX9_startOf 26 = .ok (.iconst (-1), 1) := by decide +kernel
theorem dX9_startOf_27 : decode cX9_startOf 27 = .ok (.ireturn, 1) := by decide +kernel
theorem dX9_start_0 : decode cX9_start 0 = .ok (.aload_n 0, 1) := by decide +kernel
theorem dX9_start_1 : decode cX9_start 1 = .ok (.iload_n 1, 1) := by decide +kernel
theorem dX9_start_2 : decode cX9_start 2 = .ok (.invokevirtual 131, 3) := by decide +kernel
theorem dX9_start_5 : decode cX9_start 5 = .ok (.ifCond .eq 24, 3) := by decide +kernel
theorem dX9_start_8 : decode cX9_start 8 = .ok (.aload_n 0, 1) := by decide +kernel
theorem dX9_start_9 : decode cX9_start 9 = .ok (.iload_n 2, 1) := by decide +kernel
theorem dX9_start_10 : decode cX9_start 10 = .ok (.invokevirtual 131, 3) := by decide +kernel
theorem dX9_start_13 : decode cX9_start 13 = .ok (.ifCond .eq 16, 3) := by decide +kernel
theorem dX9_start_16 : decode cX9_start 16 = .ok (.aload_n 0, 1) := by decide +kernel
theorem dX9_start_17 : decode cX9_start 17 = .ok (.iload_n 1, 1) := by decide +kernel
theorem dX9_start_18 : decode cX9_start 18 = .ok (.aload_n 0, 1) := by decide +kernel
theorem dX9_start_19 : decode cX9_start 19 = .ok (.iload_n 2, 1) := by decide +kernel
theorem dX9_start_20 : decode cX9_start 20 = .ok (.invokevirtual 293, 3) := by decide +kernel
theorem dX9_start_23 : decode cX9_start 23 = .ok (.invokevirtual 327, 3) := by decide +kernel
theorem dX9_start_26 : decode cX9_start 26 = .ok (.goto 8, 3) := by decide +kernel
theorem dX9_start_29 : decode cX9_start 29 = .ok (.aload_n 0, 1) := by decide +kernel
theorem dX9_start_30 : decode cX9_start 30 = .ok (.iconst (-1), 1) := by decide +kernel
theorem dX9_start_31 : decode cX9_start 31 = .ok (.invokevirtual 330, 3) := by decide +kernel
theorem dX9_start_34 : decode cX9_start 34 = .ok (.ireturn, 1) := by decide +kernel
theorem dX9_atOnce_0 : decode cX9_atOnce 0 = .ok (.aload_n 0, 1) := by decide +kernel
theorem dX9_atOnce_1 : decode cX9_atOnce 1 = .ok (.getfield 117, 3) := by decide +kernel
theorem dX9_atOnce_4 : decode cX9_atOnce 4 = .ok (.ifCond .ne 5, 3) := by decide +kernel
theorem dX9_atOnce_7 : decode cX9_atOnce 7 = .ok (.iconst 0, 1) := by decide +kernel
theorem dX9_atOnce_8 : decode cX9_atOnce 8 = .ok (.ireturn, 1) := by decide +kernel
theorem dX9_atOnce_9 : decode cX9_atOnce 9 = .ok (.aload_n 0, 1) := by decide +kernel
theorem dX9_atOnce_10 : decode cX9_atOnce 10 = .ok (.aload_n 0, 1) := by decide +kernel
theorem dX9_atOnce_11 : decode cX9_atOnce 11 = .ok (.invokevirtual 296, 3) := by decide +kernel
theorem dX9_atOnce_14 : decode cX9_atOnce 14 = .ok (.invokevirtual 293, 3) := by decide +kernel
theorem dX9_atOnce_17 : decode cX9_atOnce 17 = .ok (.istore_n 1, 1) := by decide +kernel
theorem dX9_atOnce_18 : decode cX9_atOnce 18 = .ok (.iconst 0, 1) := by decide +kernel
theorem dX9_atOnce_19 : decode cX9_atOnce 19 = .ok (.istore_n 2, 1) := by decide +kernel
theorem dX9_atOnce_20 : decode cX9_atOnce 20 = .ok (.iconst 0, 1) := by decide +kernel
theorem dX9_atOnce_21 : decode cX9_atOnce 21 = .ok (.istore_n 3, 1) := by decide +kernel
theorem dX9_atOnce_22 : decode cX9_atOnce 22 = .ok (.iload_n 3, 1) := by decide +kernel
theorem dX9_atOnce_23 : decode cX9_atOnce 23 = .ok (.aload_n 0, 1) := by decide +kernel
theorem dX9_atOnce_24 : decode cX9_atOnce 24 = .ok (.getfield 117, 3) := by decide +kernel
theorem dX9_atOnce_27 : decode cX9_atOnce 27 = .ok (.if_icmp .ge 30, 3) := by decide +kernel
theorem dX9_atOnce_30 : decode cX9_atOnce 30 = .ok (.aload_n 0, 1) := by decide +kernel
theorem dX9_atOnce_31 : decode cX9_atOnce 31 = .ok (.iload_n 3, 1) := by decide +kernel
theorem dX9_atOnce_32 : decode cX9_atOnce 32 = .ok (.iload_n 1, 1) := by decide +kernel
theorem dX9_atOnce_33 : decode cX9_atOnce 33 = .ok (.invokevirtual 327, 3) := by decide +kernel
theorem dX9_atOnce_36 : decode cX9_atOnce 36 = .ok (.istore 4, 2) := by decide +kernel
theorem dX9_atOnce_38 : decode cX9_atOnce 38 = .ok (.iload 4, 2) := by decide +kernel
theorem dX9_atOnce_40 : decode cX9_atOnce 40 = .ok (.iconst (-1), 1) := by decide +kernel
theorem dX9_atOnce_41 : decode cX9_atOnce 41 = .ok (.if_icmp .ne 5, 3) := by decide +kernel
theorem dX9_atOnce_44 : decode cX9_atOnce 44 = .ok (.iconst (-1), 1) := by decide +kernel
theorem dX9_atOnce_45 : decode cX9_atOnce 45 = .ok (.ireturn, 1) := by decide +kernel
theorem dX9_atOnce_46 : decode cX9_atOnce 46 = .ok (.iload_n 2, 1) := by decide +kernel
theorem dX9_atOnce_47 : decode cX9_atOnce 47 = .ok (.iload 4, 2) := by decide +kernel
theorem dX9_atOnce_49 : decode cX9_atOnce 49 = .ok (.iadd, 1) := by decide +kernel
theorem dX9_atOnce_50 : decode cX9_atOnce 50 = .ok (.istore_n 2, 1) := by decide +kernel
theorem dX9_atOnce_51 : decode cX9_atOnce 51 = .ok (.iinc 3 1, 3) := by decide +kernel
theorem dX9_atOnce_54 : decode cX9_atOnce 54 = .ok (.goto (-32), 3) := by decide +kernel
theorem dX9_atOnce_57 : decode cX9_atOnce 57 = .ok (.iload_n 2, 1) := by decide +kernel
theorem dX9_atOnce_58 : decode cX9_atOnce 58 = .ok (.ireturn, 1) := by decide +kernel
theorem dX9_heats_0 : decode cX9_heats 0 = .ok (.iload_n 2, 1) := by decide +kernel
theorem dX9_heats_1 : decode cX9_heats 1 = .ok (.ifCond .lt 15, 3) := by decide +kernel
theorem dX9_heats_4 : decode cX9_heats 4 = .ok (.iload_n 2, 1) := by decide +kernel
theorem dX9_heats_5 : decode cX9_heats 5 = .ok (.iconst 1, 1) := by decide +kernel
theorem dX9_heats_6 : decode cX9_heats 6 = .ok (.if_icmp .gt 10, 3) := by decide +kernel
theorem dX9_heats_9 : decode cX9_heats 9 = .ok (.aload_n 0, 1) := by decide +kernel
theorem dX9_heats_10 : decode cX9_heats 10 = .ok (.getfield 117, 3) := by decide +kernel
theorem dX9_heats_13 : decode cX9_heats 13 = .ok (.ifCond .ne 10, 3) := by decide +kernel
theorem dX9_heats_16 : decode cX9_heats 16 = .ok (.aload_n 0, 1) := by decide +kernel
theorem dX9_heats_17 : decode cX9_heats 17 = .ok (.bipush (-5), 2) := by decide +kernel
theorem dX9_heats_19 : decode cX9_heats 19 = .ok (.invokevirtual 127, 3) := by decide +kernel
theorem dX9_heats_22 : decode cX9_heats 22 = .ok (.ireturn, 1) := by decide +kernel
theorem dX9_heats_23 : decode cX9_heats 23 = .ok (.iload_n 1, 1) := by decide +kernel
theorem dX9_heats_24 : decode cX9_heats 24 = .ok (.iconst 2, 1) := by decide +kernel
theorem dX9_heats_25 : decode cX9_heats 25 = .ok (.if_icmp .lt 8, 3) := by decide +kernel
theorem dX9_heats_28 : decode cX9_heats 28 = .ok (.iload_n 1, 1) := by decide +kernel
theorem dX9_heats_29 : decode cX9_heats 29 = .ok (.iconst 4, 1) := by decide +kernel
theorem dX9_heats_30 : decode cX9_heats 30 = .ok (.if_icmp .le 10, 3) := by decide +kernel
theorem dX9_heats_33 : decode cX9_heats 33 = .ok (.aload_n 0, 1) := by decide +kernel
theorem dX9_heats_34 : decode cX9_heats 34 = .ok (.bipush (-6), 2) := by decide +kernel
theorem dX9_heats_36 : decode cX9_heats 36 = .ok (.invokevirtual 127, 3) := by decide +kernel
theorem dX9_heats_39 : decode cX9_heats 39 = .ok (.ireturn, 1) := by decide +kernel
theorem dX9_heats_40 : decode cX9_heats 40 = .ok (.aload_n 0, 1) := by decide +kernel
theorem dX9_heats_41 : decode cX9_heats 41 = .ok (.getfield 117, 3) := by decide +kernel
theorem dX9_heats_44 : decode cX9_heats 44 = .ok (.istore_n 3, 1) := by decide +kernel
theorem dX9_heats_45 : decode cX9_heats 45 = .ok (.iconst 0, 1) := by decide +kernel
theorem dX9_heats_46 : decode cX9_heats 46 = .ok (.istore 4, 2) := by decide +kernel
theorem dX9_heats_48 : decode cX9_heats 48 = .ok (.iconst 0, 1) := by decide +kernel
theorem dX9_heats_49 : decode cX9_heats 49 = .ok (.istore 5, 2) := by decide +kernel
theorem dX9_heats_51 : decode cX9_heats 51 = .ok (.iload 5, 2) := by decide +kernel
theorem dX9_heats_53 : decode cX9_heats 53 = .ok (.aload_n 0, 1) := by decide +kernel
theorem dX9_heats_54 : decode cX9_heats 54 = .ok (.getfield 117, 3) := by decide +kernel
theorem dX9_heats_57 : decode cX9_heats 57 = .ok (.if_icmp .ge 18, 3) := by decide +kernel
theorem dX9_heats_60 : decode cX9_heats 60 = .ok (.aload_n 0, 1) := by decide +kernel
theorem dX9_heats_61 : decode cX9_heats 61 = .ok (.getfield 99, 3) := by decide +kernel
theorem dX9_heats_64 : decode cX9_heats 64 = .ok (.iload 5, 2) := by decide +kernel
theorem dX9_heats_66 : decode cX9_heats 66 = .ok (.iload 5, 2) := by decide +kernel
theorem dX9_heats_68 : decode cX9_heats 68 = .ok (.iastore, 1) := by decide +kernel
theorem dX9_heats_69 : decode cX9_heats 69 = .ok (.iinc 5 1, 3) := by decide +kernel
theorem dX9_heats_72 : decode cX9_heats 72 = .ok (.goto (-21), 3) := by decide +kernel
theorem dX9_heats_75 : decode cX9_heats 75 = .ok (.iload_n 3, 1) := by decide +kernel
theorem dX9_heats_76 : decode cX9_heats 76 = .ok (.iconst 1, 1) := by decide +kernel
theorem dX9_heats_77 : decode cX9_heats 77 = .ok (.if_icmp .le 110, 3) := by decide +kernel
theorem dX9_heats_80 : decode cX9_heats 80 = .ok (.iconst 0, 1) := by decide +kernel
theorem dX9_heats_81 : decode cX9_heats 81 = .ok (.istore 5, 2) := by decide +kernel
theorem dX9_heats_83 : decode cX9_heats 83 = .ok (.iconst 0, 1) := by decide +kernel
theorem dX9_heats_84 : decode cX9_heats 84 = .ok (.istore 6, 2) := by decide +kernel
theorem dX9_heats_86 : decode cX9_heats 86 = .ok (.iload 6, 2) := by decide +kernel
theorem dX9_heats_88 : decode cX9_heats 88 = .ok (.iload_n 3, 1) := by decide +kernel
theorem dX9_heats_89 : decode cX9_heats 89 = .ok (.if_icmp .ge 92, 3) := by decide +kernel
theorem dX9_heats_92 : decode cX9_heats 92 = .ok (.aload_n 0, 1) := by decide +kernel
theorem dX9_heats_93 : decode cX9_heats 93 = .ok (.getfield 99, 3) := by decide +kernel
theorem dX9_heats_96 : decode cX9_heats 96 = .ok (.iload 6, 2) := by decide +kernel
theorem dX9_heats_98 : decode cX9_heats 98 = .ok (.iaload, 1) := by decide +kernel
theorem dX9_heats_99 : decode cX9_heats 99 = .ok (.istore 7, 2) := by decide +kernel
theorem dX9_heats_101 : decode cX9_heats 101 = .ok (.iload 6, 2) := by decide +kernel
theorem dX9_heats_103 : decode cX9_heats 103 = .ok (.iconst 1, 1) := by decide +kernel
theorem dX9_heats_104 : decode cX9_heats 104 = .ok (.iadd, 1) := by decide +kernel
theorem dX9_heats_105 : decode cX9_heats 105 = .ok (.istore 8, 2) := by decide +kernel
theorem dX9_heats_107 : decode cX9_heats 107 = .ok (.iload 8, 2) := by decide +kernel
theorem dX9_heats_109 : decode cX9_heats 109 = .ok (.iload_n 3, 1) := by decide +kernel
theorem dX9_heats_110 : decode cX9_heats 110 = .ok (.if_icmp .ge 47, 3) := by decide +kernel
theorem dX9_heats_113 : decode cX9_heats 113 = .ok (.iload 8, 2) := by decide +kernel
theorem dX9_heats_115 : decode cX9_heats 115 = .ok (.iload 6, 2) := by decide +kernel
theorem dX9_heats_117 : decode cX9_heats 117 = .ok (.iload_n 1, 1) := by decide +kernel
theorem dX9_heats_118 : decode cX9_heats 118 = .ok (.iadd, 1) := by decide +kernel
theorem dX9_heats_119 : decode cX9_heats 119 = .ok (.if_icmp .ge 38, 3) := by decide +kernel
theorem dX9_heats_122 : decode cX9_heats 122 = .ok (.aload_n 0, 1) := by decide +kernel
theorem dX9_heats_123 : decode cX9_heats 123 = .ok (.aload_n 0, 1) := by decide +kernel
theorem dX9_heats_124 : decode cX9_heats 124 = .ok (.getfield 99, 3) := by decide +kernel
theorem dX9_heats_127 : decode cX9_heats 127 = .ok (.iload 8, 2) := by decide +kernel
theorem dX9_heats_129 : decode cX9_heats 129 = .ok (.iaload, 1) := by decide +kernel
theorem dX9_heats_130 : decode cX9_heats 130 = .ok (.invokevirtual 293, 3) := by decide +kernel
theorem dX9_heats_133 : decode cX9_heats 133 = .ok (.aload_n 0, 1) := by decide +kernel
theorem dX9_heats_134 : decode cX9_heats 134 = .ok (.iload 7, 2) := by decide +kernel
theorem dX9_heats_136 : decode cX9_heats 136 = .ok (.invokevirtual 293, 3) := by decide +kernel
theorem dX9_heats_139 : decode cX9_heats 139 = .ok (.if_icmp .ge 12, 3) := by decide +kernel
theorem dX9_heats_142 : decode cX9_heats 142 = .ok (.aload_n 0, 1) := by decide +kernel
theorem dX9_heats_143 : decode cX9_heats 143 = .ok (.getfield 99, 3) := by decide +kernel
theorem dX9_heats_146 : decode cX9_heats 146 = .ok (.iload 8, 2) := by decide +kernel
theorem dX9_heats_148 : decode cX9_heats 148 = .ok (.iaload, 1) := by decide +kernel
theorem dX9_heats_149 : decode cX9_heats 149 = .ok (.istore 7, 2) := by decide +kernel
theorem dX9_heats_151 : decode cX9_heats 151 = .ok (.iinc 8 1, 3) := by decide +kernel
theorem dX9_heats_154 : decode cX9_heats 154 = .ok (.goto (-47), 3) := by decide +kernel
theorem dX9_heats_157 : decode cX9_heats 157 = .ok (.aload_n 0, 1) := by decide +kernel
theorem dX9_heats_158 : decode cX9_heats 158 = .ok (.getfield 99, 3) := by decide +kernel
theorem dX9_heats_161 : decode cX9_heats 161 = .ok (.iload 5, 2) := by decide +kernel
theorem dX9_heats_163 : decode cX9_heats 163 = .ok (.iload 7, 2) := by decide +kernel
theorem dX9_heats_165 : decode cX9_heats 165 = .ok (.iastore, 1) := by decide +kernel
theorem dX9_heats_166 : decode cX9_heats 166 = .ok (.iinc 5 1, 3) := by decide +kernel
theorem dX9_heats_169 : decode cX9_heats 169 = .ok (.iinc 4 1, 3) := by decide +kernel
theorem dX9_heats_172 : decode cX9_heats 172 = .ok (.iload 6, 2) := by decide +kernel
theorem dX9_heats_174 : decode cX9_heats 174 = .ok (.iload_n 1, 1) := by decide +kernel
theorem dX9_heats_175 : decode cX9_heats 175 = .ok (.iadd, 1) := by decide +kernel
theorem dX9_heats_176 : decode cX9_heats 176 = .ok (.istore 6, 2) := by decide +kernel
theorem dX9_heats_178 : decode cX9_heats 178 = .ok (.goto (-92), 3) := by decide +kernel
theorem dX9_heats_181 : decode cX9_heats 181 = .ok (.iload 5, 2) := by decide +kernel
theorem dX9_heats_183 : decode cX9_heats 183 = .ok (.istore_n 3, 1) := by decide +kernel
theorem dX9_heats_184 : decode cX9_heats 184 = .ok (.goto (-109), 3) := by decide +kernel
theorem dX9_heats_187 : decode cX9_heats 187 = .ok (.iload_n 2, 1) := by decide +kernel
theorem dX9_heats_188 : decode cX9_heats 188 = .ok (.ifCond .ne 12, 3) := by decide +kernel
theorem dX9_heats_191 : decode cX9_heats 191 = .ok (.aload_n 0, 1) := by decide +kernel
theorem dX9_heats_192 : decode cX9_heats 192 = .ok (.getfield 99, 3) := by decide +kernel
theorem dX9_heats_195 : decode cX9_heats 195 = .ok (.iconst 0, 1) := by decide +kernel
theorem dX9_heats_196 : decode cX9_heats 196 = .ok (.iaload, 1) := by decide +kernel
theorem dX9_heats_197 : decode cX9_heats 197 = .ok (.goto 5, 3) := by decide +kernel
theorem dX9_heats_200 : decode cX9_heats 200 = .ok (.iload 4, 2) := by decide +kernel
theorem dX9_heats_202 : decode cX9_heats 202 = .ok (.ireturn, 1) := by decide +kernel
theorem dX9_legs_0 : decode cX9_legs 0 = .ok (.aload_n 0, 1) := by decide +kernel
theorem dX9_legs_1 : decode cX9_legs 1 = .ok (.iload_n 1, 1) := by decide +kernel
theorem dX9_legs_2 : decode cX9_legs 2 = .ok (.invokevirtual 131, 3) := by decide +kernel
theorem dX9_legs_5 : decode cX9_legs 5 = .ok (.ifCond .ne 9, 3) := by decide +kernel
theorem dX9_legs_8 : decode cX9_legs 8 = .ok (.aload_n 0, 1) := by decide +kernel
theorem dX9_legs_9 : decode cX9_legs 9 = .ok (.iconst (-1), 1) := by decide +kernel
theorem dX9_legs_10 : decode cX9_legs 10 = .ok (.invokevirtual 330, 3) := by decide +kernel
theorem dX9_legs_13 : decode cX9_legs 13 = .ok (.ireturn, 1) := by decide +kernel
theorem dX9_legs_14 : decode cX9_legs 14 = .ok (.iload_n 2, 1) := by decide +kernel
theorem dX9_legs_15 : decode cX9_legs 15 = .ok (.ifCond .ge 10, 3) := by decide +kernel
theorem dX9_legs_18 : decode cX9_legs 18 = .ok (.aload_n 0, 1) := by decide +kernel
theorem dX9_legs_19 : decode cX9_legs 19 = .ok (.bipush (-6), 2) := by decide +kernel
theorem dX9_legs_21 : decode cX9_legs 21 = .ok (.invokevirtual 330, 3) := by decide +kernel
theorem dX9_legs_24 : decode cX9_legs 24 = .ok (.ireturn, 1) := by decide +kernel
theorem dX9_legs_25 : decode cX9_legs 25 = .ok (.aload_n 0, 1) := by decide +kernel
theorem dX9_legs_26 : decode cX9_legs 26 = .ok (.getfield 38, 3) := by decide +kernel
theorem dX9_legs_29 : decode cX9_legs 29 = .ok (.iload_n 1, 1) := by decide +kernel
theorem dX9_legs_30 : decode cX9_legs 30 = .ok (.iaload, 1) := by decide +kernel
theorem dX9_legs_31 : decode cX9_legs 31 = .ok (.istore_n 3, 1) := by decide +kernel
theorem dX9_legs_32 : decode cX9_legs 32 = .ok (.iconst (-1), 1) := by decide +kernel
theorem dX9_legs_33 : decode cX9_legs 33 = .ok (.istore 4, 2) := by decide +kernel
theorem dX9_legs_35 : decode cX9_legs 35 = .ok (.iconst 1, 1) := by decide +kernel
theorem dX9_legs_36 : decode cX9_legs 36 = .ok (.istore 5, 2) := by decide +kernel
theorem dX9_legs_38 : decode cX9_legs 38 = .ok (.iload 5, 2) := by decide +kernel
theorem dX9_legs_40 : decode cX9_legs 40 = .ok (.bipush 10, 2) := by decide +kernel
theorem dX9_legs_42 : decode cX9_legs 42 = .ok (.if_icmp .ge 36, 3) := by decide +kernel
theorem dX9_legs_45 : decode cX9_legs 45 = .ok (.iload 4, 2) := by decide +kernel
theorem dX9_legs_47 : decode cX9_legs 47 = .ok (.iconst (-1), 1) := by decide +kernel
theorem dX9_legs_48 : decode cX9_legs 48 = .ok (.if_icmp .ne 30, 3) := by decide +kernel
theorem dX9_legs_51 : decode cX9_legs 51 = .ok (.aload_n 0, 1) := by decide +kernel
theorem dX9_legs_52 : decode cX9_legs 52 = .ok (.getfield 38, 3) := by decide +kernel
theorem dX9_legs_55 : decode cX9_legs 55 = .ok (.iload_n 1, 1) := by decide +kernel
theorem dX9_legs_56 : decode cX9_legs 56 = .ok (.iload 5, 2) := by decide +kernel
theorem dX9_legs_58 : decode cX9_legs 58 = .ok (.iastore, 1) := by decide +kernel
theorem dX9_legs_59 : decode cX9_legs 59 = .ok (.aload_n 0, 1) := by decide +kernel
theorem dX9_legs_60 : decode cX9_legs 60 = .ok (.iload_n 1, 1) := by decide +kernel
theorem dX9_legs_61 : decode cX9_legs 61 = .ok (.invokevirtual 293, 3) := by decide +kernel
theorem dX9_legs_64 : decode cX9_legs 64 = .ok (.iload_n 2, 1) := by decide +kernel
theorem dX9_legs_65 : decode cX9_legs 65 = .ok (.if_icmp .gt 7, 3) := by decide +kernel
theorem dX9_legs_68 : decode cX9_legs 68 = .ok (.iload 5, 2) := by decide +kernel
theorem dX9_legs_70 : decode cX9_legs 70 = .ok (.istore 4, 2) := by decide +kernel
theorem dX9_legs_72 : decode cX9_legs 72 = .ok (.iinc 5 1, 3) := by decide +kernel
theorem dX9_legs_75 : decode cX9_legs 75 = .ok (.goto (-37), 3) := by decide +kernel
theorem dX9_legs_78 : decode cX9_legs 78 = .ok (.aload_n 0, 1) := by decide +kernel
theorem dX9_legs_79 : decode cX9_legs 79 = .ok (.getfield 38, 3) := by decide +kernel
theorem dX9_legs_82 : decode cX9_legs 82 = .ok (.iload_n 1, 1) := by decide +kernel
theorem dX9_legs_83 : decode cX9_legs 83 = .ok (.iload_n 3, 1) := by decide +kernel
theorem dX9_legs_84 : decode cX9_legs 84 = .ok (.iastore, 1) := by decide +kernel
theorem dX9_legs_85 : decode cX9_legs 85 = .ok (.iload 4, 2) := by decide +kernel
theorem dX9_legs_87 : decode cX9_legs 87 = .ok (.ireturn, 1) := by decide +kernel
theorem dX9_wall_0 : decode cX9_wall 0 = .ok (.aload_n 0, 1) := by decide +kernel
theorem dX9_wall_1 : decode cX9_wall 1 = .ok (.iload_n 1, 1) := by decide +kernel
theorem dX9_wall_2 : decode cX9_wall 2 = .ok (.invokevirtual 131, 3) := by decide +kernel
theorem dX9_wall_5 : decode cX9_wall 5 = .ok (.ifCond .ne 9, 3) := by decide +kernel
theorem dX9_wall_8 : decode cX9_wall 8 = .ok (.aload_n 0, 1) := by decide +kernel
theorem dX9_wall_9 : decode cX9_wall 9 = .ok (.iconst (-1), 1) := by decide +kernel
theorem dX9_wall_10 : decode cX9_wall 10 = .ok (.invokevirtual 330, 3) := by decide +kernel
theorem dX9_wall_13 : decode cX9_wall 13 = .ok (.ireturn, 1) := by decide +kernel
theorem dX9_wall_14 : decode cX9_wall 14 = .ok (.aload_n 0, 1) := by decide +kernel
theorem dX9_wall_15 : decode cX9_wall 15 = .ok (.iload_n 1, 1) := by decide +kernel
theorem dX9_wall_16 : decode cX9_wall 16 = .ok (.invokevirtual 134, 3) := by decide +kernel
theorem dX9_wall_19 : decode cX9_wall 19 = .ok (.aload_n 0, 1) := by decide +kernel
theorem dX9_wall_20 : decode cX9_wall 20 = .ok (.invokevirtual 281, 3) := by decide +kernel
theorem dX9_wall_23 : decode cX9_wall 23 = .ok (.iconst 0, 1) := by decide +kernel
theorem dX9_wall_24 : decode cX9_wall 24 = .ok (.istore_n 2, 1) := by decide +kernel
theorem dX9_wall_25 : decode cX9_wall 25 = .ok (.iload_n 2, 1) := by decide +kernel
theorem dX9_wall_26 : decode cX9_wall 26 = .ok (.sipush 999, 3) := by decide +kernel
theorem dX9_wall_29 : decode cX9_wall 29 = .ok (.if_icmp .ge 36, 3) := by decide +kernel
theorem dX9_wall_32 : decode cX9_wall 32 = .ok (.aload_n 0, 1) := by decide +kernel
theorem dX9_wall_33 : decode cX9_wall 33 = .ok (.getfield 257, 3) := by decide +kernel
theorem dX9_wall_36 : decode cX9_wall 36 = .ok (.aload_n 0, 1) := by decide +kernel
theorem dX9_wall_37 : decode cX9_wall 37 = .ok (.getfield 7, 3) := by decide +kernel
theorem dX9_wall_40 : decode cX9_wall 40 = .ok (.if_icmp .ge 25, 3) := by decide +kernel
theorem dX9_wall_43 : decode cX9_wall 43 = .ok (.aload_n 0, 1) := by decide +kernel
theorem dX9_wall_44 : decode cX9_wall 44 = .ok (.invokevirtual 284, 3) := by decide +kernel
theorem dX9_wall_47 : decode cX9_wall 47 = .ok (.aload_n 0, 1) := by decide +kernel
theorem dX9_wall_48 : decode cX9_wall 48 = .ok (.getfield 266, 3) := by decide +kernel
theorem dX9_wall_51 : decode cX9_wall 51 = .ok (.ifCond .le 8, 3) := by decide +kernel
theorem dX9_wall_54 : decode cX9_wall 54 = .ok (.aload_n 0, 1) := by decide +kernel
theorem dX9_wall_55 : decode cX9_wall 55 = .ok (.getfield 257, 3) := by decide +kernel
theorem dX9_wall_58 : decode cX9_wall 58 = .ok (.ireturn, 1) := by decide +kernel
theorem dX9_wall_59 : decode cX9_wall 59 = .ok (.iinc 2 1, 3) := by decide +kernel
theorem dX9_wall_62 : decode cX9_wall 62 = .ok (.goto (-37), 3) := by decide +kernel
theorem dX9_wall_65 : decode cX9_wall 65 = .ok (.iconst (-1), 1) := by decide +kernel
theorem dX9_wall_66 : decode cX9_wall 66 = .ok (.ireturn, 1) := by decide +kernel
theorem dX9_judge_0 : decode cX9_judge 0 = .ok (.aload_n 0, 1) := by decide +kernel
theorem dX9_judge_1 : decode cX9_judge 1 = .ok (.iload_n 1, 1) := by decide +kernel
theorem dX9_judge_2 : decode cX9_judge 2 = .ok (.invokevirtual 214, 3) := by decide +kernel
theorem dX9_judge_5 : decode cX9_judge 5 = .ok (.istore_n 3, 1) := by decide +kernel
theorem dX9_judge_6 : decode cX9_judge 6 = .ok (.iload_n 3, 1) := by decide +kernel
theorem dX9_judge_7 : decode cX9_judge 7 = .ok (.ifCond .ne 40, 3) := by decide +kernel
theorem dX9_judge_10 : decode cX9_judge 10 = .ok (.iload_n 2, 1) := by decide +kernel
theorem dX9_judge_11 : decode cX9_judge 11 = .ok (.ifCond .ge 8, 3) := by decide +kernel
theorem dX9_judge_14 : decode cX9_judge 14 = .ok (.bipush (-4), 2) := by decide +kernel
theorem dX9_judge_16 : decode cX9_judge 16 = .ok (.goto 30, 3) := by decide +kernel
theorem dX9_judge_19 : decode cX9_judge 19 = .ok (.iload_n 2, 1) := by decide +kernel
theorem dX9_judge_20 : decode cX9_judge 20 = .ok (.aload_n 0, 1) := by decide +kernel
theorem dX9_judge_21 : decode cX9_judge 21 = .ok (.getfield 62, 3) := by decide +kernel
theorem dX9_judge_24 : decode cX9_judge 24 = .ok (.iload_n 1, 1) := by decide +kernel
theorem dX9_judge_25 : decode cX9_judge 25 = .ok (.iaload, 1) := by decide +kernel
theorem dX9_judge_26 : decode cX9_judge 26 = .ok (.if_icmp .le 8, 3) := by decide +kernel
theorem dX9_judge_29 : decode cX9_judge 29 = .ok (.bipush (-5), 2) := by decide +kernel
theorem dX9_judge_31 : decode cX9_judge 31 = .ok (.goto 15, 3) := by decide +kernel
theorem dX9_judge_34 : decode cX9_judge 34 = .ok (.iload_n 2, 1) := by decide +kernel
theorem dX9_judge_35 : decode cX9_judge 35 = .ok (.bipush 8, 2) := by decide +kernel
theorem dX9_judge_37 : decode cX9_judge 37 = .ok (.if_icmp .le 8, 3) := by decide +kernel
theorem dX9_judge_40 : decode cX9_judge 40 = .ok (.bipush (-6), 2) := by decide +kernel
theorem dX9_judge_42 : decode cX9_judge 42 = .ok (.goto 4, 3) := by decide +kernel
theorem dX9_judge_45 : decode cX9_judge 45 = .ok (.iconst 0, 1) := by decide +kernel
theorem dX9_judge_46 : decode cX9_judge 46 = .ok (.istore_n 3, 1) := by decide +kernel
theorem dX9_judge_47 : decode cX9_judge 47 = .ok (.iload_n 3, 1) := by decide +kernel
theorem dX9_judge_48 : decode cX9_judge 48 = .ok (.ifCond .eq 9, 3) := by decide +kernel
theorem dX9_judge_51 : decode cX9_judge 51 = .ok (.aload_n 0, 1) := by decide +kernel
theorem dX9_judge_52 : decode cX9_judge 52 = .ok (.iload_n 3, 1) := by decide +kernel
theorem dX9_judge_53 : decode cX9_judge 53 = .ok (.invokevirtual 330, 3) := by decide +kernel
theorem dX9_judge_56 : decode cX9_judge 56 = .ok (.ireturn, 1) := by decide +kernel
theorem dX9_judge_57 : decode cX9_judge 57 = .ok (.iconst 0, 1) := by decide +kernel
theorem dX9_judge_58 : decode cX9_judge 58 = .ok (.istore 4, 2) := by decide +kernel
theorem dX9_judge_60 : decode cX9_judge 60 = .ok (.iconst 0, 1) := by decide +kernel
theorem dX9_judge_61 : decode cX9_judge 61 = .ok (.istore 5, 2) := by decide +kernel
theorem dX9_judge_63 : decode cX9_judge 63 = .ok (.iconst 0, 1) := by decide +kernel
theorem dX9_judge_64 : decode cX9_judge 64 = .ok (.istore 6, 2) := by decide +kernel
theorem dX9_judge_66 : decode cX9_judge 66 = .ok (.iload 6, 2) := by decide +kernel
theorem dX9_judge_68 : decode cX9_judge 68 = .ok (.iload_n 2, 1) := by decide +kernel
theorem dX9_judge_69 : decode cX9_judge 69 = .ok (.if_icmp .ge 69, 3) := by decide +kernel
theorem dX9_judge_72 : decode cX9_judge 72 = .ok (.aload_n 0, 1) := by decide +kernel
theorem dX9_judge_73 : decode cX9_judge 73 = .ok (.iload_n 1, 1) := by decide +kernel
theorem dX9_judge_74 : decode cX9_judge 74 = .ok (.iload 6, 2) := by decide +kernel
theorem dX9_judge_76 : decode cX9_judge 76 = .ok (.invokevirtual 333, 3) := by decide +kernel
theorem dX9_judge_79 : decode cX9_judge 79 = .ok (.istore 7, 2) := by decide +kernel
theorem dX9_judge_81 : decode cX9_judge 81 = .ok (.aload_n 0, 1) := by decide +kernel
theorem dX9_judge_82 : decode cX9_judge 82 = .ok (.iload 7, 2) := by decide +kernel
theorem dX9_judge_84 : decode cX9_judge 84 = .ok (.invokevirtual 131, 3) := by decide +kernel
theorem dX9_judge_87 : decode cX9_judge 87 = .ok (.ifCond .eq 25, 3) := by decide +kernel
theorem dX9_judge_90 : decode cX9_judge 90 = .ok (.iload 4, 2) := by decide +kernel
theorem dX9_judge_92 : decode cX9_judge 92 = .ok (.iload 7, 2) := by decide +kernel
theorem dX9_judge_94 : decode cX9_judge 94 = .ok (.ishr, 1) := by decide +kernel
theorem dX9_judge_95 : decode cX9_judge 95 = .ok (.iconst 1, 1) := by decide +kernel
theorem dX9_judge_96 : decode cX9_judge 96 = .ok (.iand, 1) := by decide +kernel
theorem dX9_judge_97 : decode cX9_judge 97 = .ok (.iconst 1, 1) := by decide +kernel
theorem dX9_judge_98 : decode cX9_judge 98 = .ok (.if_icmp .eq 14, 3) := by decide +kernel
theorem dX9_judge_101 : decode cX9_judge 101 = .ok (.aload_n 0, 1) := by decide +kernel
theorem dX9_judge_102 : decode cX9_judge 102 = .ok (.iload 7, 2) := by decide +kernel
theorem dX9_judge_104 : decode cX9_judge 104 = .ok (.invokevirtual 293, 3) := by decide +kernel
theorem dX9_judge_107 : decode cX9_judge 107 = .ok (.iload 5, 2) := by decide +kernel
theorem dX9_judge_109 : decode cX9_judge 109 = .ok (.if_icmp .ge 6, 3) := by decide +kernel
theorem dX9_judge_112 : decode cX9_judge 112 = .ok (.iload 6, 2) := by decide +kernel
theorem dX9_judge_114 : decode cX9_judge 114 = .ok (.ireturn, 1) := by decide +kernel
theorem dX9_judge_115 : decode cX9_judge 115 = .ok (.iload 4, 2) := by decide +kernel
theorem dX9_judge_117 : decode cX9_judge 117 = .ok (.iconst 1, 1) := by decide +kernel
theorem dX9_judge_118 : decode cX9_judge 118 = .ok (.iload 7, 2) := by decide +kernel
theorem dX9_judge_120 : decode cX9_judge 120 = .ok (.ishl, 1) := by decide +kernel
theorem dX9_judge_121 : decode cX9_judge 121 = .ok (.ior, 1) := by decide +kernel
theorem dX9_judge_122 : decode cX9_judge 122 = .ok (.istore 4, 2) := by decide +kernel
theorem dX9_judge_124 : decode cX9_judge 124 = .ok (.aload_n 0, 1) := by decide +kernel
theorem dX9_judge_125 : decode cX9_judge 125 = .ok (.iload 7, 2) := by decide +kernel
theorem dX9_judge_127 : decode cX9_judge 127 = .ok (.invokevirtual 293, 3) := by decide +kernel
theorem dX9_judge_130 : decode cX9_judge 130 = .ok (.istore 5, 2) := by decide +kernel
theorem dX9_judge_132 : decode cX9_judge 132 = .ok (.iinc 6 1, 3) := by decide +kernel
theorem dX9_judge_135 : decode cX9_judge 135 = .ok (.goto (-69), 3) := by decide +kernel
theorem dX9_judge_138 : decode cX9_judge 138 = .ok (.iconst (-1), 1) := by decide +kernel
theorem dX9_judge_139 : decode cX9_judge 139 = .ok (.ireturn, 1) := by decide +kernel
theorem dX9_meant_0 : decode cX9_meant 0 = .ok (.aload_n 0, 1) := by decide +kernel
theorem dX9_meant_1 : decode cX9_meant 1 = .ok (.iload_n 1, 1) := by decide +kernel
theorem dX9_meant_2 : decode cX9_meant 2 = .ok (.invokevirtual 214, 3) := by decide +kernel
theorem dX9_meant_5 : decode cX9_meant 5 = .ok (.istore_n 2, 1) := by decide +kernel
theorem dX9_meant_6 : decode cX9_meant 6 = .ok (.iload_n 2, 1) := by decide +kernel
theorem dX9_meant_7 : decode cX9_meant 7 = .ok (.ifCond .ne 19, 3) := by decide +kernel
theorem dX9_meant_10 : decode cX9_meant 10 = .ok (.aload_n 0, 1) := by decide +kernel
theorem dX9_meant_11 : decode cX9_meant 11 = .ok (.getfield 62, 3) := by decide +kernel
theorem dX9_meant_14 : decode cX9_meant 14 = .ok (.iload_n 1, 1) := by decide +kernel
theorem dX9_meant_15 : decode cX9_meant 15 = .ok (.iaload, 1) := by decide +kernel
theorem dX9_meant_16 : decode cX9_meant 16 = .ok (.aload_n 0, 1) := by decide +kernel
theorem dX9_meant_17 : decode cX9_meant 17 = .ok (.getfield 117, 3) := by decide +kernel
theorem dX9_meant_20 : decode cX9_meant 20 = .ok (.if_icmp .ge 6, 3) := by decide +kernel
theorem dX9_meant_23 : decode cX9_meant 23 = .ok (.bipush (-5), 2) := by decide +kernel
theorem dX9_meant_25 : decode cX9_meant 25 = .ok (.istore_n 2, 1) := by decide +kernel
theorem dX9_meant_26 : decode cX9_meant 26 = .ok (.iload_n 2, 1) := by decide +kernel
theorem dX9_meant_27 : decode cX9_meant 27 = .ok (.ifCond .eq 9, 3) := by decide +kernel
theorem dX9_meant_30 : decode cX9_meant 30 = .ok (.aload_n 0, 1) := by decide +kernel
theorem dX9_meant_31 : decode cX9_meant 31 = .ok (.iload_n 2, 1) := by decide +kernel
theorem dX9_meant_32 : decode cX9_meant 32 = .ok (.invokevirtual 127, 3) := by decide +kernel
theorem dX9_meant_35 : decode cX9_meant 35 = .ok (.ireturn, 1) := by decide +kernel
theorem dX9_meant_36 : decode cX9_meant 36 = .ok (.iconst 0, 1) := by decide +kernel
theorem dX9_meant_37 : decode cX9_meant 37 = .ok (.istore_n 3, 1) := by decide +kernel
theorem dX9_meant_38 : decode cX9_meant 38 = .ok (.iconst 0, 1) := by decide +kernel
theorem dX9_meant_39 : decode cX9_meant 39 = .ok (.istore 4, 2) := by decide +kernel
theorem dX9_meant_41 : decode cX9_meant 41 = .ok (.iload 4, 2) := by decide +kernel
theorem dX9_meant_43 : decode cX9_meant 43 = .ok (.bipush 7, 2) := by decide +kernel
theorem dX9_meant_45 : decode cX9_meant 45 = .ok (.if_icmp .ge 63, 3) := by decide +kernel
theorem dX9_meant_48 : decode cX9_meant 48 = .ok (.iconst 1, 1) := by decide +kernel
theorem dX9_meant_49 : decode cX9_meant 49 = .ok (.istore 5, 2) := by decide +kernel
theorem dX9_meant_51 : decode cX9_meant 51 = .ok (.iconst 0, 1) := by decide +kernel
theorem dX9_meant_52 : decode cX9_meant 52 = .ok (.istore 6, 2) := by decide +kernel
theorem dX9_meant_54 : decode cX9_meant 54 = .ok (.iload 6, 2) := by decide +kernel
theorem dX9_meant_56 : decode cX9_meant 56 = .ok (.aload_n 0, 1) := by decide +kernel
theorem dX9_meant_57 : decode cX9_meant 57 = .ok (.getfield 117, 3) := by decide +kernel
theorem dX9_meant_60 : decode cX9_meant 60 = .ok (.if_icmp .ge 30, 3) := by decide +kernel
theorem dX9_meant_63 : decode cX9_meant 63 = .ok (.aload_n 0, 1) := by decide +kernel
theorem dX9_meant_64 : decode cX9_meant 64 = .ok (.iload 6, 2) := by decide +kernel
theorem dX9_meant_66 : decode cX9_meant 66 = .ok (.iload 4, 2) := by decide +kernel
theorem dX9_meant_68 : decode cX9_meant 68 = .ok (.invokevirtual 299, 3) := by decide +kernel
theorem dX9_meant_71 : decode cX9_meant 71 = .ok (.aload_n 0, 1) := by decide +kernel
theorem dX9_meant_72 : decode cX9_meant 72 = .ok (.iload_n 1, 1) := by decide +kernel
theorem dX9_meant_73 : decode cX9_meant 73 = .ok (.iload 6, 2) := by decide +kernel
theorem dX9_meant_75 : decode cX9_meant 75 = .ok (.invokevirtual 333, 3) := by decide +kernel
theorem dX9_meant_78 : decode cX9_meant 78 = .ok (.if_icmp .eq 6, 3) := by decide +kernel
theorem dX9_meant_81 : decode cX9_meant 81 = .ok (.iconst 0, 1) := by decide +kernel
theorem dX9_meant_82 : decode cX9_meant 82 = .ok (.istore 5, 2) := by decide +kernel
theorem dX9_meant_84 : decode cX9_meant 84 = .ok (.iinc 6 1, 3) := by decide +kernel
theorem dX9_meant_87 : decode cX9_meant 87 = .ok (.goto (-33), 3) := by decide +kernel
theorem dX9_meant_90 : decode cX9_meant 90 = .ok (.iload 5, 2) := by decide +kernel
theorem dX9_meant_92 : decode cX9_meant 92 = .ok (.ifCond .eq 10, 3) := by decide +kernel
theorem dX9_meant_95 : decode cX9_meant 95 = .ok (.iload_n 3, 1) := by decide +kernel
theorem dX9_meant_96 : decode cX9_meant 96 = .ok (.iconst 1, 1) := by decide +kernel
theorem dX9_meant_97 : decode cX9_meant 97 = .ok (.iload 4, 2) := by decide +kernel
theorem dX9_meant_99 : decode cX9_meant 99 = .ok (.ishl, 1) := by decide +kernel
theorem dX9_meant_100 : decode cX9_meant 100 = .ok (.ior, 1) := by decide +kernel
theorem dX9_meant_101 : decode cX9_meant 101 = .ok (.istore_n 3, 1) := by decide +kernel
theorem dX9_meant_102 : decode cX9_meant 102 = .ok (.iinc 4 1, 3) := by decide +kernel
theorem dX9_meant_105 : decode cX9_meant 105 = .ok (.goto (-64), 3) := by decide +kernel
theorem dX9_meant_108 : decode cX9_meant 108 = .ok (.iload_n 3, 1) := by decide +kernel
theorem dX9_meant_109 : decode cX9_meant 109 = .ok (.ireturn, 1) := by decide +kernel
theorem dX9_worn_0 : decode cX9_worn 0 = .ok (.aload_n 0, 1) := by decide +kernel
theorem dX9_worn_1 : decode cX9_worn 1 = .ok (.iload_n 1, 1) := by decide +kernel
theorem dX9_worn_2 : decode cX9_worn 2 = .ok (.invokevirtual 131, 3) := by decide +kernel
theorem dX9_worn_5 : decode cX9_worn 5 = .ok (.ifCond .ne 9, 3) := by decide +kernel
theorem dX9_worn_8 : decode cX9_worn 8 = .ok (.aload_n 0, 1) := by decide +kernel
theorem dX9_worn_9 : decode cX9_worn 9 = .ok (.iconst (-1), 1) := by decide +kernel
theorem dX9_worn_10 : decode cX9_worn 10 = .ok (.invokevirtual 127, 3) := by decide +kernel
theorem dX9_worn_13 : decode cX9_worn 13 = .ok (.ireturn, 1) := by decide +kernel
theorem dX9_worn_14 : decode cX9_worn 14 = .ok (.iconst 0, 1) := by decide +kernel
theorem dX9_worn_15 : decode cX9_worn 15 = .ok (.istore_n 3, 1) := by decide +kernel
theorem dX9_worn_16 : decode cX9_worn 16 = .ok (.iconst 0, 1) := by decide +kernel
theorem dX9_worn_17 : decode cX9_worn 17 = .ok (.istore 4, 2) := by decide +kernel
theorem dX9_worn_19 : decode cX9_worn 19 = .ok (.iload 4, 2) := by decide +kernel
theorem dX9_worn_21 : decode cX9_worn 21 = .ok (.aload_n 0, 1) := by decide +kernel
theorem dX9_worn_22 : decode cX9_worn 22 = .ok (.getfield 120, 3) := by decide +kernel
theorem dX9_worn_25 : decode cX9_worn 25 = .ok (.if_icmp .ge 27, 3) := by decide +kernel
theorem dX9_worn_28 : decode cX9_worn 28 = .ok (.aload_n 0, 1) := by decide +kernel
theorem dX9_worn_29 : decode cX9_worn 29 = .ok (.iload_n 1, 1) := by decide +kernel
theorem dX9_worn_30 : decode cX9_worn 30 = .ok (.iload 4, 2) := by decide +kernel
theorem dX9_worn_32 : decode cX9_worn 32 = .ok (.invokevirtual 302, 3) := by decide +kernel
theorem dX9_worn_35 : decode cX9_worn 35 = .ok (.iload_n 2, 1) := by decide +kernel
theorem dX9_worn_36 : decode cX9_worn 36 = .ok (.if_icmp .ne 10, 3) := by decide +kernel
theorem dX9_worn_39 : decode cX9_worn 39 = .ok (.iload_n 3, 1) := by decide +kernel
theorem dX9_worn_40 : decode cX9_worn 40 = .ok (.iconst 1, 1) := by decide +kernel
theorem dX9_worn_41 : decode cX9_worn 41 = .ok (.iload 4, 2) := by decide +kernel
theorem dX9_worn_43 : decode cX9_worn 43 = .ok (.ishl, 1) := by decide +kernel
theorem dX9_worn_44 : decode cX9_worn 44 = .ok (.ior, 1) := by decide +kernel
theorem dX9_worn_45 : decode cX9_worn 45 = .ok (.istore_n 3, 1) := by decide +kernel
theorem dX9_worn_46 : decode cX9_worn 46 = .ok (.iinc 4 1, 3) := by decide +kernel
theorem dX9_worn_49 : decode cX9_worn 49 = .ok (.goto (-30), 3) := by decide +kernel
theorem dX9_worn_52 : decode cX9_worn 52 = .ok (.iload_n 3, 1) := by decide +kernel
theorem dX9_worn_53 : decode cX9_worn 53 = .ok (.ireturn, 1) := by decide +kernel
theorem dX9_draw_0 : decode cX9_draw 0 = .ok (.aload_n 0, 1) := by decide +kernel
theorem dX9_draw_1 : decode cX9_draw 1 = .ok (.aload_n 0, 1) := by decide +kernel
theorem dX9_draw_2 : decode cX9_draw 2 = .ok (.getfield 22, 3) := by decide +kernel
theorem dX9_draw_5 : decode cX9_draw 5 = .ok (.ldc_w 336, 3) := by decide +kernel
theorem dX9_draw_8 : decode cX9_draw 8 = .ok (.imul, 1) := by decide +kernel
theorem dX9_draw_9 : decode cX9_draw 9 = .ok (.sipush 12345, 3) := by decide +kernel
theorem dX9_draw_12 : decode cX9_draw 12 = .ok (.iadd, 1) := by decide +kernel
theorem dX9_draw_13 : decode cX9_draw 13 = .ok (.putfield 22, 3) := by decide +kernel
theorem dX9_draw_16 : decode cX9_draw 16 = .ok (.aload_n 0, 1) := by decide +kernel
theorem dX9_draw_17 : decode cX9_draw 17 = .ok (.getfield 22, 3) := by decide +kernel
theorem dX9_draw_20 : decode cX9_draw 20 = .ok (.bipush 16, 2) := by decide +kernel
theorem dX9_draw_22 : decode cX9_draw 22 = .ok (.iushr, 1) := by decide +kernel
theorem dX9_draw_23 : decode cX9_draw 23 = .ok (.iload_n 1, 1) := by decide +kernel
theorem dX9_draw_24 : decode cX9_draw 24 = .ok (.irem, 1) := by decide +kernel
theorem dX9_draw_25 : decode cX9_draw 25 = .ok (.ireturn, 1) := by decide +kernel
theorem dX9_secondInTruth_0 : decode cX9_secondInTruth 0 = .ok (.aload_n 0, 1) := by decide +kernel
theorem dX9_secondInTruth_1 : decode cX9_secondInTruth 1 = .ok (.getfield 263, 3) := by decide +kernel
theorem dX9_secondInTruth_4 : decode cX9_secondInTruth 4 = .ok (.ifCond .le 8, 3) := by decide +kernel
theorem dX9_secondInTruth_7 : decode cX9_secondInTruth 7 = .ok (.aload_n 0, 1) := by decide +kernel
theorem dX9_secondInTruth_8 : decode cX9_secondInTruth 8 = .ok (.invokevirtual 269, 3) := by decide +kernel
theorem dX9_secondInTruth_11 : decode cX9_secondInTruth 11 = .ok (.return_, 1) := by decide +kernel
theorem dX9_secondInTruth_12 : decode cX9_secondInTruth 12 = .ok (.aload_n 0, 1) := by decide +kernel
theorem dX9_secondInTruth_13 : decode cX9_secondInTruth 13 = .ok (.bipush 100, 2) := by decide +kernel
theorem dX9_secondInTruth_15 : decode cX9_secondInTruth 15 = .ok (.invokevirtual 337, 3) := by decide +kernel
theorem dX9_secondInTruth_18 : decode cX9_secondInTruth 18 = .ok (.aload_n 0, 1) := by decide +kernel
theorem dX9_secondInTruth_19 : decode cX9_secondInTruth 19 = .ok (.invokevirtual 272, 3) := by decide +kernel
theorem dX9_secondInTruth_22 : decode cX9_secondInTruth 22 = .ok (.if_icmp .ge 7, 3) := by decide +kernel
theorem dX9_secondInTruth_25 : decode cX9_secondInTruth 25 = .ok (.iconst 1, 1) := by decide +kernel
theorem dX9_secondInTruth_26 : decode cX9_secondInTruth 26 = .ok (.goto 4, 3) := by decide +kernel
theorem dX9_secondInTruth_29 : decode cX9_secondInTruth 29 = .ok (.iconst 0, 1) := by decide +kernel
theorem dX9_secondInTruth_30 : decode cX9_secondInTruth 30 = .ok (.istore_n 1, 1) := by decide +kernel
theorem dX9_secondInTruth_31 : decode cX9_secondInTruth 31 = .ok (.aload_n 0, 1) := by decide +kernel
theorem dX9_secondInTruth_32 : decode cX9_secondInTruth 32 = .ok (.invokevirtual 275, 3) := by decide +kernel
theorem dX9_secondInTruth_35 : decode cX9_secondInTruth 35 = .ok (.iload_n 1, 1) := by decide +kernel
theorem dX9_secondInTruth_36 : decode cX9_secondInTruth 36 = .ok (.ifCond .eq 10, 3) := by decide +kernel
theorem dX9_secondInTruth_39 : decode cX9_secondInTruth 39 = .ok (.aload_n 0, 1) := by decide +kernel
theorem dX9_secondInTruth_40 : decode cX9_secondInTruth 40 = .ok (.invokevirtual 278, 3) := by decide +kernel
theorem dX9_secondInTruth_43 : decode cX9_secondInTruth 43 = .ok (.goto 16, 3) := by decide +kernel
theorem dX9_secondInTruth_46 : decode cX9_secondInTruth 46 = .ok (.aload_n 0, 1) := by decide +kernel
theorem dX9_secondInTruth_47 : decode cX9_secondInTruth 47 = .ok (.dup, 1) := by decide +kernel
theorem dX9_secondInTruth_48 : decode cX9_secondInTruth 48 = .ok (.getfield 257, 3) := by decide +kernel
theorem dX9_secondInTruth_51 : decode cX9_secondInTruth 51 = .ok (.aload_n 0, 1) := by decide +kernel
theorem dX9_secondInTruth_52 : decode cX9_secondInTruth 52 = .ok (.invokevirtual 142, 3) := by decide +kernel
theorem dX9_secondInTruth_55 : decode cX9_secondInTruth 55 = .ok (.iadd, 1) := by decide +kernel
theorem dX9_secondInTruth_56 : decode cX9_secondInTruth 56 = .ok (.putfield 257, 3) := by decide +kernel
theorem dX9_secondInTruth_59 : decode cX9_secondInTruth 59 = .ok (.return_, 1) := by decide +kernel
theorem dX9_raced_0 : decode cX9_raced 0 = .ok (.aload_n 0, 1) := by decide +kernel
theorem dX9_raced_1 : decode cX9_raced 1 = .ok (.dup, 1) := by decide +kernel
theorem dX9_raced_2 : decode cX9_raced 2 = .ok (.getfield 211, 3) := by decide +kernel
theorem dX9_raced_5 : decode cX9_raced 5 = .ok (.iconst 1, 1) := by decide +kernel
theorem dX9_raced_6 : decode cX9_raced 6 = .ok (.iadd, 1) := by decide +kernel
theorem dX9_raced_7 : decode cX9_raced 7 = .ok (.putfield 211, 3) := by decide +kernel
theorem dX9_raced_10 : decode cX9_raced 10 = .ok (.iconst 0, 1) := by decide +kernel
theorem dX9_raced_11 : decode cX9_raced 11 = .ok (.istore_n 1, 1) := by decide +kernel
theorem dX9_raced_12 : decode cX9_raced 12 = .ok (.iload_n 1, 1) := by decide +kernel
theorem dX9_raced_13 : decode cX9_raced 13 = .ok (.aload_n 0, 1) := by decide +kernel
theorem dX9_raced_14 : decode cX9_raced 14 = .ok (.getfield 117, 3) := by decide +kernel
theorem dX9_raced_17 : decode cX9_raced 17 = .ok (.if_icmp .ge 73, 3) := by decide +kernel
theorem dX9_raced_20 : decode cX9_raced 20 = .ok (.aload_n 0, 1) := by decide +kernel
theorem dX9_raced_21 : decode cX9_raced 21 = .ok (.iload_n 1, 1) := by decide +kernel
theorem dX9_raced_22 : decode cX9_raced 22 = .ok (.invokevirtual 134, 3) := by decide +kernel
theorem dX9_raced_25 : decode cX9_raced 25 = .ok (.aload_n 0, 1) := by decide +kernel
theorem dX9_raced_26 : decode cX9_raced 26 = .ok (.invokevirtual 281, 3) := by decide +kernel
theorem dX9_raced_29 : decode cX9_raced 29 = .ok (.aload_n 0, 1) := by decide +kernel
theorem dX9_raced_30 : decode cX9_raced 30 = .ok (.getfield 102, 3) := by decide +kernel
theorem dX9_raced_33 : decode cX9_raced 33 = .ok (.iload_n 1, 1) := by decide +kernel
theorem dX9_raced_34 : decode cX9_raced 34 = .ok (.aload_n 0, 1) := by decide +kernel
theorem dX9_raced_35 : decode cX9_raced 35 = .ok (.getfield 257, 3) := by decide +kernel
theorem dX9_raced_38 : decode cX9_raced 38 = .ok (.iastore, 1) := by decide +kernel
theorem dX9_raced_39 : decode cX9_raced 39 = .ok (.aload_n 0, 1) := by decide +kernel
theorem dX9_raced_40 : decode cX9_raced 40 = .ok (.getfield 105, 3) := by decide +kernel
theorem dX9_raced_43 : decode cX9_raced 43 = .ok (.iload_n 1, 1) := by decide +kernel
theorem dX9_raced_44 : decode cX9_raced 44 = .ok (.aload_n 0, 1) := by decide +kernel
theorem dX9_raced_45 : decode cX9_raced 45 = .ok (.getfield 254, 3) := by decide +kernel
theorem dX9_raced_48 : decode cX9_raced 48 = .ok (.iastore, 1) := by decide +kernel
theorem dX9_raced_49 : decode cX9_raced 49 = .ok (.aload_n 0, 1) := by decide +kernel
theorem dX9_raced_50 : decode cX9_raced 50 = .ok (.getfield 108, 3) := by decide +kernel
theorem dX9_raced_53 : decode cX9_raced 53 = .ok (.iload_n 1, 1) := by decide +kernel
theorem dX9_raced_54 : decode cX9_raced 54 = .ok (.iconst 0, 1) := by decide +kernel
theorem dX9_raced_55 : decode cX9_raced 55 = .ok (.iastore, 1) := by decide +kernel
theorem dX9_raced_56 : decode cX9_raced 56 = .ok (.aload_n 0, 1) := by decide +kernel
theorem dX9_raced_57 : decode cX9_raced 57 = .ok (.getfield 111, 3) := by decide +kernel
theorem dX9_raced_60 : decode cX9_raced 60 = .ok (.iload_n 1, 1) := by decide +kernel
theorem dX9_raced_61 : decode cX9_raced 61 = .ok (.aload_n 0, 1) := by decide +kernel
theorem dX9_raced_62 : decode cX9_raced 62 = .ok (.getfield 257, 3) := by decide +kernel
theorem dX9_raced_65 : decode cX9_raced 65 = .ok (.aload_n 0, 1) := by decide +kernel
theorem dX9_raced_66 : decode cX9_raced 66 = .ok (.getfield 7, 3) := by decide +kernel
theorem dX9_raced_69 : decode cX9_raced 69 = .ok (.if_icmp .ge 9, 3) := by decide +kernel
theorem dX9_raced_72 : decode cX9_raced 72 = .ok (.sipush 999, 3) := by decide +kernel
theorem dX9_raced_75 : decode cX9_raced 75 = .ok (.goto 8, 3) := by decide +kernel
theorem dX9_raced_78 : decode cX9_raced 78 = .ok (.aload_n 0, 1) := by decide +kernel
theorem dX9_raced_79 : decode cX9_raced 79 = .ok (.iconst 0, 1) := by decide +kernel
theorem dX9_raced_80 : decode cX9_raced 80 = .ok (.invokevirtual 287, 3) := by decide +kernel
theorem dX9_raced_83 : decode cX9_raced 83 = .ok (.iastore, 1) := by decide +kernel
theorem dX9_raced_84 : decode cX9_raced 84 = .ok (.iinc 1 1, 3) := by decide +kernel
theorem dX9_raced_87 : decode cX9_raced 87 = .ok (.goto (-75), 3) := by decide +kernel
theorem dX9_raced_90 : decode cX9_raced 90 = .ok (.iconst 1, 1) := by decide +kernel
theorem dX9_raced_91 : decode cX9_raced 91 = .ok (.istore_n 1, 1) := by decide +kernel
theorem dX9_raced_92 : decode cX9_raced 92 = .ok (.iload_n 1, 1) := by decide +kernel
theorem dX9_raced_93 : decode cX9_raced 93 = .ok (.sipush 999, 3) := by decide +kernel
theorem dX9_raced_96 : decode cX9_raced 96 = .ok (.if_icmp .gt 132, 3) := by decide +kernel
theorem dX9_raced_99 : decode cX9_raced 99 = .ok (.iconst 0, 1) := by decide +kernel
theorem dX9_raced_100 : decode cX9_raced 100 = .ok (.istore_n 2, 1) := by decide +kernel
theorem dX9_raced_101 : decode cX9_raced 101 = .ok (.iload_n 2, 1) := by decide +kernel
theorem dX9_raced_102 : decode cX9_raced 102 = .ok (.aload_n 0, 1) := by decide +kernel
theorem dX9_raced_103 : decode cX9_raced 103 = .ok (.getfield 117, 3) := by decide +kernel
theorem dX9_raced_106 : decode cX9_raced 106 = .ok (.if_icmp .ge 116, 3) := by decide +kernel
theorem dX9_raced_109 : decode cX9_raced 109 = .ok (.aload_n 0, 1) := by decide +kernel
theorem dX9_raced_110 : decode cX9_raced 110 = .ok (.getfield 102, 3) := by decide +kernel
theorem dX9_raced_113 : decode cX9_raced 113 = .ok (.iload_n 2, 1) := by decide +kernel
theorem dX9_raced_114 : decode cX9_raced 114 = .ok (.iaload, 1) := by decide +kernel
theorem dX9_raced_115 : decode cX9_raced 115 = .ok (.aload_n 0, 1) := by decide +kernel
theorem dX9_raced_116 : decode cX9_raced 116 = .ok (.getfield 7, 3) := by decide +kernel
theorem dX9_raced_119 : decode cX9_raced 119 = .ok (.if_icmp .lt 6, 3) := by decide +kernel
theorem dX9_raced_122 : decode cX9_raced 122 = .ok (.goto 94, 3) := by decide +kernel
theorem dX9_raced_125 : decode cX9_raced 125 = .ok (.aload_n 0, 1) := by decide +kernel
theorem dX9_raced_126 : decode cX9_raced 126 = .ok (.iload_n 2, 1) := by decide +kernel
theorem dX9_raced_127 : decode cX9_raced 127 = .ok (.invokevirtual 134, 3) := by decide +kernel
theorem dX9_raced_130 : decode cX9_raced 130 = .ok (.aload_n 0, 1) := by decide +kernel
theorem dX9_raced_131 : decode cX9_raced 131 = .ok (.aload_n 0, 1) := by decide +kernel
theorem dX9_raced_132 : decode cX9_raced 132 = .ok (.getfield 102, 3) := by decide +kernel
theorem dX9_raced_135 : decode cX9_raced 135 = .ok (.iload_n 2, 1) := by decide +kernel
theorem dX9_raced_136 : decode cX9_raced 136 = .ok (.iaload, 1) := by decide +kernel
theorem dX9_raced_137 : decode cX9_raced 137 = .ok (.putfield 257, 3) := by decide +kernel
theorem dX9_raced_140 : decode cX9_raced 140 = .ok (.aload_n 0, 1) := by decide +kernel
theorem dX9_raced_141 : decode cX9_raced 141 = .ok (.aload_n 0, 1) := by decide +kernel
theorem dX9_raced_142 : decode cX9_raced 142 = .ok (.getfield 105, 3) := by decide +kernel
theorem dX9_raced_145 : decode cX9_raced 145 = .ok (.iload_n 2, 1) := by decide +kernel
theorem dX9_raced_146 : decode cX9_raced 146 = .ok (.iaload, 1) := by decide +kernel
theorem dX9_raced_147 : decode cX9_raced 147 = .ok (.putfield 254, 3) := by decide +kernel
theorem dX9_raced_150 : decode cX9_raced 150 = .ok (.aload_n 0, 1) := by decide +kernel
theorem dX9_raced_151 : decode cX9_raced 151 = .ok (.aload_n 0, 1) := by decide +kernel
theorem dX9_raced_152 : decode cX9_raced 152 = .ok (.getfield 108, 3) := by decide +kernel
theorem dX9_raced_155 : decode cX9_raced 155 = .ok (.iload_n 2, 1) := by decide +kernel
theorem dX9_raced_156 : decode cX9_raced 156 = .ok (.iaload, 1) := by decide +kernel
theorem dX9_raced_157 : decode cX9_raced 157 = .ok (.putfield 263, 3) := by decide +kernel
theorem dX9_raced_160 : decode cX9_raced 160 = .ok (.aload_n 0, 1) := by decide +kernel
theorem dX9_raced_161 : decode cX9_raced 161 = .ok (.invokevirtual 340, 3) := by decide +kernel
theorem dX9_raced_164 : decode cX9_raced 164 = .ok (.aload_n 0, 1) := by decide +kernel
theorem dX9_raced_165 : decode cX9_raced 165 = .ok (.getfield 102, 3) := by decide +kernel
theorem dX9_raced_168 : decode cX9_raced 168 = .ok (.iload_n 2, 1) := by decide +kernel
theorem dX9_raced_169 : decode cX9_raced 169 = .ok (.aload_n 0, 1) := by decide +kernel
theorem dX9_raced_170 : decode cX9_raced 170 = .ok (.getfield 257, 3) := by decide +kernel
theorem dX9_raced_173 : decode cX9_raced 173 = .ok (.iastore, 1) := by decide +kernel
theorem dX9_raced_174 : decode cX9_raced 174 = .ok (.aload_n 0, 1) := by decide +kernel
theorem dX9_raced_175 : decode cX9_raced 175 = .ok (.getfield 105, 3) := by decide +kernel
theorem dX9_raced_178 : decode cX9_raced 178 = .ok (.iload_n 2, 1) := by decide +kernel
theorem dX9_raced_179 : decode cX9_raced 179 = .ok (.aload_n 0, 1) := by decide +kernel
theorem dX9_raced_180 : decode cX9_raced 180 = .ok (.getfield 254, 3) := by decide +kernel
theorem dX9_raced_183 : decode cX9_raced 183 = .ok (.iastore, 1) := by decide +kernel
theorem dX9_raced_184 : decode cX9_raced 184 = .ok (.aload_n 0, 1) := by decide +kernel
theorem dX9_raced_185 : decode cX9_raced 185 = .ok (.getfield 108, 3) := by decide +kernel
theorem dX9_raced_188 : decode cX9_raced 188 = .ok (.iload_n 2, 1) := by decide +kernel
theorem dX9_raced_189 : decode cX9_raced 189 = .ok (.aload_n 0, 1) := by decide +kernel
theorem dX9_raced_190 : decode cX9_raced 190 = .ok (.getfield 263, 3) := by decide +kernel
theorem dX9_raced_193 : decode cX9_raced 193 = .ok (.iastore, 1) := by decide +kernel
theorem dX9_raced_194 : decode cX9_raced 194 = .ok (.aload_n 0, 1) := by decide +kernel
theorem dX9_raced_195 : decode cX9_raced 195 = .ok (.getfield 257, 3) := by decide +kernel
theorem dX9_raced_198 : decode cX9_raced 198 = .ok (.aload_n 0, 1) := by decide +kernel
theorem dX9_raced_199 : decode cX9_raced 199 = .ok (.getfield 7, 3) := by decide +kernel
theorem dX9_raced_202 : decode cX9_raced 202 = .ok (.if_icmp .lt 14, 3) := by decide +kernel
theorem dX9_raced_205 : decode cX9_raced 205 = .ok (.aload_n 0, 1) := by decide +kernel
theorem dX9_raced_206 : decode cX9_raced 206 = .ok (.getfield 111, 3) := by decide +kernel
theorem dX9_raced_209 : decode cX9_raced 209 = .ok (.iload_n 2, 1) := by decide +kernel
theorem dX9_raced_210 : decode cX9_raced 210 = .ok (.aload_n 0, 1) := by decide +kernel
theorem dX9_raced_211 : decode cX9_raced 211 = .ok (.iload_n 1, 1) := by decide +kernel
theorem dX9_raced_212 : decode cX9_raced 212 = .ok (.invokevirtual 287, 3) := by decide +kernel
theorem dX9_raced_215 : decode cX9_raced 215 = .ok (.iastore, 1) := by decide +kernel
theorem dX9_raced_216 : decode cX9_raced 216 = .ok (.iinc 2 1, 3) := by decide +kernel
theorem dX9_raced_219 : decode cX9_raced 219 = .ok (.goto (-118), 3) := by decide +kernel
theorem dX9_raced_222 : decode cX9_raced 222 = .ok (.iinc 1 1, 3) := by decide +kernel
theorem dX9_raced_225 : decode cX9_raced 225 = .ok (.goto (-133), 3) := by decide +kernel
theorem dX9_raced_228 : decode cX9_raced 228 = .ok (.iconst (-1), 1) := by decide +kernel
theorem dX9_raced_229 : decode cX9_raced 229 = .ok (.istore_n 1, 1) := by decide +kernel
theorem dX9_raced_230 : decode cX9_raced 230 = .ok (.iconst 0, 1) := by decide +kernel
theorem dX9_raced_231 : decode cX9_raced 231 = .ok (.istore_n 2, 1) := by decide +kernel
theorem dX9_raced_232 : decode cX9_raced 232 = .ok (.iload_n 2, 1) := by decide +kernel
theorem dX9_raced_233 : decode cX9_raced 233 = .ok (.aload_n 0, 1) := by decide +kernel
theorem dX9_raced_234 : decode cX9_raced 234 = .ok (.getfield 117, 3) := by decide +kernel
theorem dX9_raced_237 : decode cX9_raced 237 = .ok (.if_icmp .ge 43, 3) := by decide +kernel
theorem dX9_raced_240 : decode cX9_raced 240 = .ok (.aload_n 0, 1) := by decide +kernel
theorem dX9_raced_241 : decode cX9_raced 241 = .ok (.getfield 111, 3) := by decide +kernel
theorem dX9_raced_244 : decode cX9_raced 244 = .ok (.iload_n 2, 1) := by decide +kernel
theorem dX9_raced_245 : decode cX9_raced 245 = .ok (.iaload, 1) := by decide +kernel
theorem dX9_raced_246 : decode cX9_raced 246 = .ok (.sipush 999, 3) := by decide +kernel
theorem dX9_raced_249 : decode cX9_raced 249 = .ok (.if_icmp .ge 25, 3) := by decide +kernel
theorem dX9_raced_252 : decode cX9_raced 252 = .ok (.iload_n 1, 1) := by decide +kernel
theorem dX9_raced_253 : decode cX9_raced 253 = .ok (.iconst (-1), 1) := by decide +kernel
theorem dX9_raced_254 : decode cX9_raced 254 = .ok (.if_icmp .eq 18, 3) := by decide +kernel
theorem dX9_raced_257 : decode cX9_raced 257 = .ok (.aload_n 0, 1) := by decide +kernel
theorem dX9_raced_258 : decode cX9_raced 258 = .ok (.getfield 111, 3) := by decide +kernel
theorem dX9_raced_261 : decode cX9_raced 261 = .ok (.iload_n 2, 1) := by decide +kernel
theorem dX9_raced_262 : decode cX9_raced 262 = .ok (.iaload, 1) := by decide +kernel
theorem dX9_raced_263 : decode cX9_raced 263 = .ok (.aload_n 0, 1) := by decide +kernel
theorem dX9_raced_264 : decode cX9_raced 264 = .ok (.getfield 111, 3) := by decide +kernel
theorem dX9_raced_267 : decode cX9_raced 267 = .ok (.iload_n 1, 1) := by decide +kernel
theorem dX9_raced_268 : decode cX9_raced 268 = .ok (.iaload, 1) := by decide +kernel
theorem dX9_raced_269 : decode cX9_raced 269 = .ok (.if_icmp .ge 5, 3) := by decide +kernel
theorem dX9_raced_272 : decode cX9_raced 272 = .ok (.iload_n 2, 1) := by decide +kernel
theorem dX9_raced_273 : decode cX9_raced 273 = .ok (.istore_n 1, 1) := by decide +kernel
theorem dX9_raced_274 : decode cX9_raced 274 = .ok (.iinc 2 1, 3) := by decide +kernel
theorem dX9_raced_277 : decode cX9_raced 277 = .ok (.goto (-45), 3) := by decide +kernel
theorem dX9_raced_280 : decode cX9_raced 280 = .ok (.iload_n 1, 1) := by decide +kernel
theorem dX9_raced_281 : decode cX9_raced 281 = .ok (.iconst (-1), 1) := by decide +kernel
theorem dX9_raced_282 : decode cX9_raced 282 = .ok (.if_icmp .eq 13, 3) := by decide +kernel
theorem dX9_raced_285 : decode cX9_raced 285 = .ok (.aload_n 0, 1) := by decide +kernel
theorem dX9_raced_286 : decode cX9_raced 286 = .ok (.getfield 47, 3) := by decide +kernel
theorem dX9_raced_289 : decode cX9_raced 289 = .ok (.iload_n 1, 1) := by decide +kernel
theorem dX9_raced_290 : decode cX9_raced 290 = .ok (.dup2, 1) := by decide +kernel
theorem dX9_raced_291 : decode cX9_raced 291 = .ok (.iaload, 1) := by decide +kernel
theorem dX9_raced_292 : decode cX9_raced 292 = .ok (.iconst 1, 1) := by decide +kernel
theorem dX9_raced_293 : decode cX9_raced 293 = .ok (.iadd, 1) := by decide +kernel
theorem dX9_raced_294 : decode cX9_raced 294 = .ok (.iastore, 1) := by decide +kernel
theorem dX9_raced_295 : decode cX9_raced 295 = .ok (.iload_n 1, 1) := by decide +kernel
theorem dX9_raced_296 : decode cX9_raced 296 = .ok (.ireturn, 1) := by decide +kernel
theorem dX9_race_0 : decode cX9_race 0 = .ok (.aload_n 0, 1) := by decide +kernel
theorem dX9_race_1 : decode cX9_race 1 = .ok (.getfield 117, 3) := by decide +kernel
theorem dX9_race_4 : decode cX9_race 4 = .ok (.ifCond .ne 12, 3) := by decide +kernel
theorem dX9_race_7 : decode cX9_race 7 = .ok (.aload_n 0, 1) := by decide +kernel
theorem dX9_race_8 : decode cX9_race 8 = .ok (.bipush (-5), 2) := by decide +kernel
theorem dX9_race_10 : decode cX9_race 10 = .ok (.invokevirtual 330, 3) := by decide +kernel
theorem dX9_race_13 : decode cX9_race 13 = .ok (.goto 7, 3) := by decide +kernel
theorem dX9_race_16 : decode cX9_race 16 = .ok (.aload_n 0, 1) := by decide +kernel
theorem dX9_race_17 : decode cX9_race 17 = .ok (.invokevirtual 343, 3) := by decide +kernel
theorem dX9_race_20 : decode cX9_race 20 = .ok (.ireturn, 1) := by decide +kernel
theorem dX9_summer_0 : decode cX9_summer 0 = .ok (.aload_n 0, 1) := by decide +kernel
theorem dX9_summer_1 : decode cX9_summer 1 = .ok (.iload_n 2, 1) := by decide +kernel
theorem dX9_summer_2 : decode cX9_summer 2 = .ok (.invokevirtual 131, 3) := by decide +kernel
theorem dX9_summer_5 : decode cX9_summer 5 = .ok (.ifCond .ne 9, 3) := by decide +kernel
theorem dX9_summer_8 : decode cX9_summer 8 = .ok (.aload_n 0, 1) := by decide +kernel
theorem dX9_summer_9 : decode cX9_summer 9 = .ok (.iconst (-1), 1) := by decide +kernel
theorem dX9_summer_10 : decode cX9_summer 10 = .ok (.invokevirtual 127, 3) := by decide +kernel
theorem dX9_summer_13 : decode cX9_summer 13 = .ok (.ireturn, 1) := by decide +kernel
theorem dX9_summer_14 : decode cX9_summer 14 = .ok (.iload_n 1, 1) := by decide +kernel
theorem dX9_summer_15 : decode cX9_summer 15 = .ok (.iconst 1, 1) := by decide +kernel
theorem dX9_summer_16 : decode cX9_summer 16 = .ok (.if_icmp .lt 9, 3) := by decide +kernel
theorem dX9_summer_19 : decode cX9_summer 19 = .ok (.iload_n 1, 1) := by decide +kernel
theorem dX9_summer_20 : decode cX9_summer 20 = .ok (.bipush 30, 2) := by decide +kernel
theorem dX9_summer_22 : decode cX9_summer 22 = .ok (.if_icmp .le 10, 3) := by decide +kernel
theorem dX9_summer_25 : decode cX9_summer 25 = .ok (.aload_n 0, 1) := by decide +kernel
theorem dX9_summer_26 : decode cX9_summer 26 = .ok (.bipush (-6), 2) := by decide +kernel
theorem dX9_summer_28 : decode cX9_summer 28 = .ok (.invokevirtual 127, 3) := by decide +kernel
theorem dX9_summer_31 : decode cX9_summer 31 = .ok (.ireturn, 1) := by decide +kernel
theorem dX9_summer_32 : decode cX9_summer 32 = .ok (.iconst 0, 1) := by decide +kernel
theorem dX9_summer_33 : decode cX9_summer 33 = .ok (.istore_n 3, 1) := by decide +kernel
theorem dX9_summer_34 : decode cX9_summer 34 = .ok (.iconst 0, 1) := by decide +kernel
theorem dX9_summer_35 : decode cX9_summer 35 = .ok (.istore 4, 2) := by decide +kernel
theorem dX9_summer_37 : decode cX9_summer 37 = .ok (.iload 4, 2) := by decide +kernel
theorem dX9_summer_39 : decode cX9_summer 39 = .ok (.iload_n 1, 1) := by decide +kernel
theorem dX9_summer_40 : decode cX9_summer 40 = .ok (.if_icmp .ge 20, 3) := by decide +kernel
theorem dX9_summer_43 : decode cX9_summer 43 = .ok (.aload_n 0, 1) := by decide +kernel
theorem dX9_summer_44 : decode cX9_summer 44 = .ok (.invokevirtual 343, 3) := by decide +kernel
theorem dX9_summer_47 : decode cX9_summer 47 = .ok (.iload_n 2, 1) := by decide +kernel
theorem dX9_summer_48 : decode cX9_summer 48 = .ok (.if_icmp .ne 6, 3) := by decide +kernel
theorem dX9_summer_51 : decode cX9_summer 51 = .ok (.iinc 3 1, 3) := by decide +kernel
theorem dX9_summer_54 : decode cX9_summer 54 = .ok (.iinc 4 1, 3) := by decide +kernel
theorem dX9_summer_57 : decode cX9_summer 57 = .ok (.goto (-20), 3) := by decide +kernel
theorem dX9_summer_60 : decode cX9_summer 60 = .ok (.iload_n 3, 1) := by decide +kernel
theorem dX9_summer_61 : decode cX9_summer 61 = .ok (.ireturn, 1) := by decide +kernel
theorem dX9_seed_0 : decode cX9_seed 0 = .ok (.aload_n 0, 1) := by decide +kernel
theorem dX9_seed_1 : decode cX9_seed 1 = .ok (.getfield 22, 3) := by decide +kernel
theorem dX9_seed_4 : decode cX9_seed 4 = .ok (.istore_n 2, 1) := by decide +kernel
theorem dX9_seed_5 : decode cX9_seed 5 = .ok (.aload_n 0, 1) := by decide +kernel
theorem dX9_seed_6 : decode cX9_seed 6 = .ok (.iload_n 1, 1) := by decide +kernel
theorem dX9_seed_7 : decode cX9_seed 7 = .ok (.putfield 22, 3) := by decide +kernel
theorem dX9_seed_10 : decode cX9_seed 10 = .ok (.iload_n 2, 1) := by decide +kernel
theorem dX9_seed_11 : decode cX9_seed 11 = .ok (.ireturn, 1) := by decide +kernel
theorem dX9_body_0 : decode cX9_body 0 = .ok (.aload_n 0, 1) := by decide +kernel
theorem dX9_body_1 : decode cX9_body 1 = .ok (.getfield 346, 3) := by decide +kernel
theorem dX9_body_4 : decode cX9_body 4 = .ok (.bipush 20, 2) := by decide +kernel
theorem dX9_body_6 : decode cX9_body 6 = .ok (.if_icmp .ge 13, 3) := by decide +kernel
theorem dX9_body_9 : decode cX9_body 9 = .ok (.aload_n 0, 1) := by decide +kernel
theorem dX9_body_10 : decode cX9_body 10 = .ok (.getfield 114, 3) := by decide +kernel
theorem dX9_body_13 : decode cX9_body 13 = .ok (.aload_n 0, 1) := by decide +kernel
theorem dX9_body_14 : decode cX9_body 14 = .ok (.getfield 346, 3) := by decide +kernel
theorem dX9_body_17 : decode cX9_body 17 = .ok (.iload_n 1, 1) := by decide +kernel
theorem dX9_body_18 : decode cX9_body 18 = .ok (.iastore, 1) := by decide +kernel
theorem dX9_body_19 : decode cX9_body 19 = .ok (.aload_n 0, 1) := by decide +kernel
theorem dX9_body_20 : decode cX9_body 20 = .ok (.dup, 1) := by decide +kernel
theorem dX9_body_21 : decode cX9_body 21 = .ok (.getfield 346, 3) := by decide +kernel
theorem dX9_body_24 : decode cX9_body 24 = .ok (.iconst 1, 1) := by decide +kernel
theorem dX9_body_25 : decode cX9_body 25 = .ok (.iadd, 1) := by decide +kernel
theorem dX9_body_26 : decode cX9_body 26 = .ok (.putfield 346, 3) := by decide +kernel
theorem dX9_body_29 : decode cX9_body 29 = .ok (.return_, 1) := by decide +kernel
theorem dX9_hopping_0 : decode cX9_hopping 0 = .ok (.aload_n 0, 1) := by decide +kernel
theorem dX9_hopping_1 : decode cX9_hopping 1 = .ok (.getfield 32, 3) := by decide +kernel
theorem dX9_hopping_4 : decode cX9_hopping 4 = .ok (.iload_n 1, 1) := by decide +kernel
theorem dX9_hopping_5 : decode cX9_hopping 5 = .ok (.iaload, 1) := by decide +kernel
theorem dX9_hopping_6 : decode cX9_hopping 6 = .ok (.istore_n 3, 1) := by decide +kernel
theorem dX9_hopping_7 : decode cX9_hopping 7 = .ok (.iload_n 3, 1) := by decide +kernel
theorem dX9_hopping_8 : decode cX9_hopping 8 = .ok (.bipush 6, 2) := by decide +kernel
theorem dX9_hopping_10 : decode cX9_hopping 10 = .ok (.if_icmp .ne 9, 3) := by decide +kernel
theorem dX9_hopping_13 : decode cX9_hopping 13 = .ok (.aload_n 0, 1) := by decide +kernel
theorem dX9_hopping_14 : decode cX9_hopping 14 = .ok (.bipush 70, 2) := by decide +kernel
theorem dX9_hopping_16 : decode cX9_hopping 16 = .ok (.invokevirtual 349, 3) := by decide +kernel
theorem dX9_hopping_19 : decode cX9_hopping 19 = .ok (.iload_n 3, 1) := by decide +kernel
theorem dX9_hopping_20 : decode cX9_hopping 20 = .ok (.iconst 4, 1) := by decide +kernel
theorem dX9_hopping_21 : decode cX9_hopping 21 = .ok (.if_icmp .eq 9, 3) := by decide +kernel
theorem dX9_hopping_24 : decode cX9_hopping 24 = .ok (.iload_n 3, 1) := by decide +kernel
theorem dX9_hopping_25 : decode cX9_hopping 25 = .ok (.bipush 6, 2) := by decide +kernel
theorem dX9_hopping_27 : decode cX9_hopping 27 = .ok (.if_icmp .ne 9, 3) := by decide +kernel
theorem dX9_hopping_30 : decode cX9_hopping 30 = .ok (.aload_n 0, 1) := by decide +kernel
theorem dX9_hopping_31 : decode cX9_hopping 31 = .ok (.bipush 51, 2) := by decide +kernel
theorem dX9_hopping_33 : decode cX9_hopping 33 = .ok (.invokevirtual 349, 3) := by decide +kernel
theorem dX9_hopping_36 : decode cX9_hopping 36 = .ok (.iload_n 3, 1) := by decide +kernel
theorem dX9_hopping_37 : decode cX9_hopping 37 = .ok (.iconst 1, 1) := by decide +kernel
theorem dX9_hopping_38 : decode cX9_hopping 38 = .ok (.if_icmp .eq 8, 3) := by decide +kernel
theorem dX9_hopping_41 : decode cX9_hopping 41 = .ok (.iload_n 3, 1) := by decide +kernel
theorem dX9_hopping_42 : decode cX9_hopping 42 = .ok (.iconst 3, 1) := by decide +kernel
theorem dX9_hopping_43 : decode cX9_hopping 43 = .ok (.if_icmp .ne 9, 3) := by decide +kernel
theorem dX9_hopping_46 : decode cX9_hopping 46 = .ok (.aload_n 0, 1) := by decide +kernel
theorem dX9_hopping_47 : decode cX9_hopping 47 = .ok (.bipush 20, 2) := by decide +kernel
theorem dX9_hopping_49 : decode cX9_hopping 49 = .ok (.invokevirtual 349, 3) := by decide +kernel
theorem dX9_hopping_52 : decode cX9_hopping 52 = .ok (.aload_n 0, 1) := by decide +kernel
theorem dX9_hopping_53 : decode cX9_hopping 53 = .ok (.bipush 10, 2) := by decide +kernel
theorem dX9_hopping_55 : decode cX9_hopping 55 = .ok (.invokevirtual 349, 3) := by decide +kernel
theorem dX9_hopping_58 : decode cX9_hopping 58 = .ok (.iload_n 2, 1) := by decide +kernel
theorem dX9_hopping_59 : decode cX9_hopping 59 = .ok (.iload_n 1, 1) := by decide +kernel
theorem dX9_hopping_60 : decode cX9_hopping 60 = .ok (.iadd, 1) := by decide +kernel
theorem dX9_hopping_61 : decode cX9_hopping 61 = .ok (.istore 4, 2) := by decide +kernel
theorem dX9_hopping_63 : decode cX9_hopping 63 = .ok (.iload_n 3, 1) := by decide +kernel
theorem dX9_hopping_64 : decode cX9_hopping 64 = .ok (.iconst 1, 1) := by decide +kernel
theorem dX9_hopping_65 : decode cX9_hopping 65 = .ok (.if_icmp .eq 8, 3) := by decide +kernel
theorem dX9_hopping_68 : decode cX9_hopping 68 = .ok (.iload_n 3, 1) := by decide +kernel
theorem dX9_hopping_69 : decode cX9_hopping 69 = .ok (.iconst 3, 1) := by decide +kernel
theorem dX9_hopping_70 : decode cX9_hopping 70 = .ok (.if_icmp .ne 14, 3) := by decide +kernel
theorem dX9_hopping_73 : decode cX9_hopping 73 = .ok (.iload 4, 2) := by decide +kernel
theorem dX9_hopping_75 : decode cX9_hopping 75 = .ok (.aload_n 0, 1) := by decide +kernel
theorem dX9_hopping_76 : decode cX9_hopping 76 = .ok (.getfield 35, 3) := by decide +kernel
theorem dX9_hopping_79 : decode cX9_hopping 79 = .ok (.iload_n 1, 1) := by decide +kernel
theorem dX9_hopping_80 : decode cX9_hopping 80 = .ok (.iaload, 1) := by decide +kernel
theorem dX9_hopping_81 : decode cX9_hopping 81 = .ok (.iadd, 1) := by decide +kernel
theorem dX9_hopping_82 : decode cX9_hopping 82 = .ok (.istore 4, 2) := by decide +kernel
theorem dX9_hopping_84 : decode cX9_hopping 84 = .ok (.iload_n 3, 1) := by decide +kernel
theorem dX9_hopping_85 : decode cX9_hopping 85 = .ok (.iconst 4, 1) := by decide +kernel
theorem dX9_hopping_86 : decode cX9_hopping 86 = .ok (.if_icmp .eq 9, 3) := by decide +kernel
theorem dX9_hopping_89 : decode cX9_hopping 89 = .ok (.iload_n 3, 1) := by decide +kernel
theorem dX9_hopping_90 : decode cX9_hopping 90 = .ok (.bipush 6, 2) := by decide +kernel
theorem dX9_hopping_92 : decode cX9_hopping 92 = .ok (.if_icmp .ne 9, 3) := by decide +kernel
theorem dX9_hopping_95 : decode cX9_hopping 95 = .ok (.iload 4, 2) := by decide +kernel
theorem dX9_hopping_97 : decode cX9_hopping 97 = .ok (.iload_n 1, 1) := by decide +kernel
theorem dX9_hopping_98 : decode cX9_hopping 98 = .ok (.isub, 1) := by decide +kernel
theorem dX9_hopping_99 : decode cX9_hopping 99 = .ok (.istore 4, 2) := by decide +kernel
theorem dX9_hopping_101 : decode cX9_hopping 101 = .ok (.iload_n 3, 1) := by decide +kernel
theorem dX9_hopping_102 : decode cX9_hopping 102 = .ok (.bipush 6, 2) := by decide +kernel
theorem dX9_hopping_104 : decode cX9_hopping 104 = .ok (.if_icmp .ne 10, 3) := by decide +kernel
theorem dX9_hopping_107 : decode cX9_hopping 107 = .ok (.iload 4, 2) := by decide +kernel
theorem dX9_hopping_109 : decode cX9_hopping 109 = .ok (.iconst 2, 1) := by decide +kernel
theorem dX9_hopping_110 : decode cX9_hopping 110 = .ok (.imul, 1) := by decide +kernel
theorem dX9_hopping_111 : decode cX9_hopping 111 = .ok (.goto 5, 3) := by decide +kernel
theorem dX9_hopping_114 : decode cX9_hopping 114 = .ok (.iload 4, 2) := by decide +kernel
theorem dX9_hopping_116 : decode cX9_hopping 116 = .ok (.ireturn, 1) := by decide +kernel
theorem dX9_falling_0 : decode cX9_falling 0 = .ok (.aload_n 0, 1) := by decide +kernel
theorem dX9_falling_1 : decode cX9_falling 1 = .ok (.getfield 32, 3) := by decide +kernel
theorem dX9_falling_4 : decode cX9_falling 4 = .ok (.iload_n 1, 1) := by decide +kernel
theorem dX9_falling_5 : decode cX9_falling 5 = .ok (.iaload, 1) := by decide +kernel
theorem dX9_falling_6 : decode cX9_falling 6 = .ok (.istore_n 3, 1) := by decide +kernel
theorem dX9_falling_7 : decode cX9_falling 7 = .ok (.iload_n 2, 1) := by decide +kernel
theorem dX9_falling_8 : decode cX9_falling 8 = .ok (.istore 4, 2) := by decide +kernel
theorem dX9_falling_10 : decode cX9_falling 10 = .ok (.iload_n 3, 1) := by decide +kernel
theorem dX9_falling_11 : decode cX9_falling 11 = .ok (.bipush 6, 2) := by decide +kernel
theorem dX9_falling_13 : decode cX9_falling 13 = .ok (.if_icmp .ne 19, 3) := by decide +kernel
theorem dX9_falling_16 : decode cX9_falling 16 = .ok (.aload_n 0, 1) := by decide +kernel
theorem dX9_falling_17 : decode cX9_falling 17 = .ok (.bipush 71, 2) := by decide +kernel
theorem dX9_falling_19 : decode cX9_falling 19 = .ok (.invokevirtual 349, 3) := by decide +kernel
theorem dX9_falling_22 : decode cX9_falling 22 = .ok (.iload_n 2, 1) := by decide +kernel
theorem dX9_falling_23 : decode cX9_falling 23 = .ok (.aload_n 0, 1) := by decide +kernel
theorem dX9_falling_24 : decode cX9_falling 24 = .ok (.getfield 35, 3) := by decide +kernel
theorem dX9_falling_27 : decode cX9_falling 27 = .ok (.iload_n 1, 1) := by decide +kernel
theorem dX9_falling_28 : decode cX9_falling 28 = .ok (.iaload, 1) := by decide +kernel
theorem dX9_falling_29 : decode cX9_falling 29 = .ok (.isub, 1) := by decide +kernel
theorem dX9_falling_30 : decode cX9_falling 30 = .ok (.istore 4, 2) := by decide +kernel
theorem dX9_falling_32 : decode cX9_falling 32 = .ok (.iload_n 3, 1) := by decide +kernel
theorem dX9_falling_33 : decode cX9_falling 33 = .ok (.iconst 3, 1) := by decide +kernel
theorem dX9_falling_34 : decode cX9_falling 34 = .ok (.if_icmp .ne 14, 3) := by decide +kernel
theorem dX9_falling_37 : decode cX9_falling 37 = .ok (.aload_n 0, 1) := by decide +kernel
theorem dX9_falling_38 : decode cX9_falling 38 = .ok (.bipush 40, 2) := by decide +kernel
theorem dX9_falling_40 : decode cX9_falling 40 = .ok (.invokevirtual 349, 3) := by decide +kernel
theorem dX9_falling_43 : decode cX9_falling 43 = .ok (.iload_n 2, 1) := by decide +kernel
theorem dX9_falling_44 : decode cX9_falling 44 = .ok (.iconst 1, 1) := by decide +kernel
theorem dX9_falling_45 : decode cX9_falling 45 = .ok (.iadd, 1) := by decide +kernel
theorem dX9_falling_46 : decode cX9_falling 46 = .ok (.istore 4, 2) := by decide +kernel
theorem dX9_falling_48 : decode cX9_falling 48 = .ok (.iload_n 3, 1) := by decide +kernel
theorem dX9_falling_49 : decode cX9_falling 49 = .ok (.iconst 2, 1) := by decide +kernel
theorem dX9_falling_50 : decode cX9_falling 50 = .ok (.if_icmp .eq 8, 3) := by decide +kernel
theorem dX9_falling_53 : decode cX9_falling 53 = .ok (.iload_n 3, 1) := by decide +kernel
theorem dX9_falling_54 : decode cX9_falling 54 = .ok (.iconst 5, 1) := by decide +kernel
theorem dX9_falling_55 : decode cX9_falling 55 = .ok (.if_icmp .ne 7, 3) := by decide +kernel
theorem dX9_falling_58 : decode cX9_falling 58 = .ok (.iconst 1, 1) := by decide +kernel
theorem dX9_falling_59 : decode cX9_falling 59 = .ok (.goto 4, 3) := by decide +kernel
theorem dX9_falling_62 : decode cX9_falling 62 = .ok (.iconst 0, 1) := by decide +kernel
theorem dX9_falling_63 : decode cX9_falling 63 = .ok (.istore 5, 2) := by decide +kernel
theorem dX9_falling_65 : decode cX9_falling 65 = .ok (.iload 5, 2) := by decide +kernel
theorem dX9_falling_67 : decode cX9_falling 67 = .ok (.ifCond .eq 9, 3) := by decide +kernel
theorem dX9_falling_70 : decode cX9_falling 70 = .ok (.aload_n 0, 1) := by decide +kernel
theorem dX9_falling_71 : decode cX9_falling 71 = .ok (.bipush 30, 2) := by decide +kernel
theorem dX9_falling_73 : decode cX9_falling 73 = .ok (.invokevirtual 349, 3) := by decide +kernel
theorem dX9_falling_76 : decode cX9_falling 76 = .ok (.aload_n 0, 1) := by decide +kernel
theorem dX9_falling_77 : decode cX9_falling 77 = .ok (.bipush 11, 2) := by decide +kernel
theorem dX9_falling_79 : decode cX9_falling 79 = .ok (.invokevirtual 349, 3) := by decide +kernel
theorem dX9_falling_82 : decode cX9_falling 82 = .ok (.aload_n 0, 1) := by decide +kernel
theorem dX9_falling_83 : decode cX9_falling 83 = .ok (.iload_n 1, 1) := by decide +kernel
theorem dX9_falling_84 : decode cX9_falling 84 = .ok (.iload 4, 2) := by decide +kernel
theorem dX9_falling_86 : decode cX9_falling 86 = .ok (.invokevirtual 352, 3) := by decide +kernel
theorem dX9_falling_89 : decode cX9_falling 89 = .ok (.iconst 2, 1) := by decide +kernel
theorem dX9_falling_90 : decode cX9_falling 90 = .ok (.imul, 1) := by decide +kernel
theorem dX9_falling_91 : decode cX9_falling 91 = .ok (.istore 6, 2) := by decide +kernel
theorem dX9_falling_93 : decode cX9_falling 93 = .ok (.iload 5, 2) := by decide +kernel
theorem dX9_falling_95 : decode cX9_falling 95 = .ok (.ifCond .eq 10, 3) := by decide +kernel
theorem dX9_falling_98 : decode cX9_falling 98 = .ok (.iload 6, 2) := by decide +kernel
theorem dX9_falling_100 : decode cX9_falling 100 = .ok (.iconst 3, 1) := by decide +kernel
theorem dX9_falling_101 : decode cX9_falling 101 = .ok (.imul, 1) := by decide +kernel
theorem dX9_falling_102 : decode cX9_falling 102 = .ok (.goto 5, 3) := by decide +kernel
theorem dX9_falling_105 : decode cX9_falling 105 = .ok (.iload 6, 2) := by decide +kernel
theorem dX9_falling_107 : decode cX9_falling 107 = .ok (.ireturn, 1) := by decide +kernel
theorem dX9_rising_0 : decode cX9_rising 0 = .ok (.aload_n 0, 1) := by decide +kernel
theorem dX9_rising_1 : decode cX9_rising 1 = .ok (.getfield 32, 3) := by decide +kernel
theorem dX9_rising_4 : decode cX9_rising 4 = .ok (.iload_n 1, 1) := by decide +kernel
theorem dX9_rising_5 : decode cX9_rising 5 = .ok (.iaload, 1) := by decide +kernel
theorem dX9_rising_6 : decode cX9_rising 6 = .ok (.istore_n 3, 1) := by decide +kernel
theorem dX9_rising_7 : decode cX9_rising 7 = .ok (.iload_n 3, 1) := by decide +kernel
theorem dX9_rising_8 : decode cX9_rising 8 = .ok (.iconst 4, 1) := by decide +kernel
theorem dX9_rising_9 : decode cX9_rising 9 = .ok (.if_icmp .eq 9, 3) := by decide +kernel
theorem dX9_rising_12 : decode cX9_rising 12 = .ok (.iload_n 3, 1) := by decide +kernel
theorem dX9_rising_13 : decode cX9_rising 13 = .ok (.bipush 6, 2) := by decide +kernel
theorem dX9_rising_15 : decode cX9_rising 15 = .ok (.if_icmp .ne 9, 3) := by decide +kernel
theorem dX9_rising_18 : decode cX9_rising 18 = .ok (.aload_n 0, 1) := by decide +kernel
theorem dX9_rising_19 : decode cX9_rising 19 = .ok (.bipush 50, 2) := by decide +kernel
theorem dX9_rising_21 : decode cX9_rising 21 = .ok (.invokevirtual 349, 3) := by decide +kernel
theorem dX9_rising_24 : decode cX9_rising 24 = .ok (.iload_n 3, 1) := by decide +kernel
theorem dX9_rising_25 : decode cX9_rising 25 = .ok (.iconst 5, 1) := by decide +kernel
theorem dX9_rising_26 : decode cX9_rising 26 = .ok (.if_icmp .ne 9, 3) := by decide +kernel
theorem dX9_rising_29 : decode cX9_rising 29 = .ok (.aload_n 0, 1) := by decide +kernel
theorem dX9_rising_30 : decode cX9_rising 30 = .ok (.bipush 60, 2) := by decide +kernel
theorem dX9_rising_32 : decode cX9_rising 32 = .ok (.invokevirtual 349, 3) := by decide +kernel
theorem dX9_rising_35 : decode cX9_rising 35 = .ok (.aload_n 0, 1) := by decide +kernel
theorem dX9_rising_36 : decode cX9_rising 36 = .ok (.bipush 12, 2) := by decide +kernel
theorem dX9_rising_38 : decode cX9_rising 38 = .ok (.invokevirtual 349, 3) := by decide +kernel
theorem dX9_rising_41 : decode cX9_rising 41 = .ok (.aload_n 0, 1) := by decide +kernel
theorem dX9_rising_42 : decode cX9_rising 42 = .ok (.iload_n 1, 1) := by decide +kernel
theorem dX9_rising_43 : decode cX9_rising 43 = .ok (.iload_n 2, 1) := by decide +kernel
theorem dX9_rising_44 : decode cX9_rising 44 = .ok (.invokevirtual 355, 3) := by decide +kernel
theorem dX9_rising_47 : decode cX9_rising 47 = .ok (.istore 4, 2) := by decide +kernel
theorem dX9_rising_49 : decode cX9_rising 49 = .ok (.iload 4, 2) := by decide +kernel
theorem dX9_rising_51 : decode cX9_rising 51 = .ok (.aload_n 0, 1) := by decide +kernel
theorem dX9_rising_52 : decode cX9_rising 52 = .ok (.iload_n 1, 1) := by decide +kernel
theorem dX9_rising_53 : decode cX9_rising 53 = .ok (.iload_n 2, 1) := by decide +kernel
theorem dX9_rising_54 : decode cX9_rising 54 = .ok (.aload_n 0, 1) := by decide +kernel
theorem dX9_rising_55 : decode cX9_rising 55 = .ok (.getfield 35, 3) := by decide +kernel
theorem dX9_rising_58 : decode cX9_rising 58 = .ok (.iload_n 1, 1) := by decide +kernel
theorem dX9_rising_59 : decode cX9_rising 59 = .ok (.iaload, 1) := by decide +kernel
theorem dX9_rising_60 : decode cX9_rising 60 = .ok (.isub, 1) := by decide +kernel
theorem dX9_rising_61 : decode cX9_rising 61 = .ok (.invokevirtual 352, 3) := by decide +kernel
theorem dX9_rising_64 : decode cX9_rising 64 = .ok (.ixor, 1) := by decide +kernel
theorem dX9_rising_65 : decode cX9_rising 65 = .ok (.istore 4, 2) := by decide +kernel
theorem dX9_rising_67 : decode cX9_rising 67 = .ok (.iload_n 3, 1) := by decide +kernel
theorem dX9_rising_68 : decode cX9_rising 68 = .ok (.iconst 4, 1) := by decide +kernel
theorem dX9_rising_69 : decode cX9_rising 69 = .ok (.if_icmp .eq 9, 3) := by decide +kernel
theorem dX9_rising_72 : decode cX9_rising 72 = .ok (.iload_n 3, 1) := by decide +kernel
theorem dX9_rising_73 : decode cX9_rising 73 = .ok (.bipush 6, 2) := by decide +kernel
theorem dX9_rising_75 : decode cX9_rising 75 = .ok (.if_icmp .ne 9, 3) := by decide +kernel
theorem dX9_rising_78 : decode cX9_rising 78 = .ok (.iload 4, 2) := by decide +kernel
theorem dX9_rising_80 : decode cX9_rising 80 = .ok (.ineg, 1) := by decide +kernel
theorem dX9_rising_81 : decode cX9_rising 81 = .ok (.goto 17, 3) := by decide +kernel
theorem dX9_rising_84 : decode cX9_rising 84 = .ok (.iload_n 3, 1) := by decide +kernel
theorem dX9_rising_85 : decode cX9_rising 85 = .ok (.iconst 5, 1) := by decide +kernel
theorem dX9_rising_86 : decode cX9_rising 86 = .ok (.if_icmp .ne 10, 3) := by decide +kernel
theorem dX9_rising_89 : decode cX9_rising 89 = .ok (.iload 4, 2) := by decide +kernel
theorem dX9_rising_91 : decode cX9_rising 91 = .ok (.iconst 5, 1) := by decide +kernel
theorem dX9_rising_92 : decode cX9_rising 92 = .ok (.ixor, 1) := by decide +kernel
theorem dX9_rising_93 : decode cX9_rising 93 = .ok (.goto 5, 3) := by decide +kernel
theorem dX9_rising_96 : decode cX9_rising 96 = .ok (.iload 4, 2) := by decide +kernel
theorem dX9_rising_98 : decode cX9_rising 98 = .ok (.ireturn, 1) := by decide +kernel
theorem dX9_act_0 : decode cX9_act 0 = .ok (.aload_n 0, 1) := by decide +kernel
theorem dX9_act_1 : decode cX9_act 1 = .ok (.iconst 0, 1) := by decide +kernel
theorem dX9_act_2 : decode cX9_act 2 = .ok (.putfield 346, 3) := by decide +kernel
theorem dX9_act_5 : decode cX9_act 5 = .ok (.aload_n 0, 1) := by decide +kernel
theorem dX9_act_6 : decode cX9_act 6 = .ok (.iload_n 1, 1) := by decide +kernel
theorem dX9_act_7 : decode cX9_act 7 = .ok (.invokevirtual 131, 3) := by decide +kernel
theorem dX9_act_10 : decode cX9_act 10 = .ok (.ifCond .eq 12, 3) := by decide +kernel
theorem dX9_act_13 : decode cX9_act 13 = .ok (.iload_n 2, 1) := by decide +kernel
theorem dX9_act_14 : decode cX9_act 14 = .ok (.ifCond .lt 8, 3) := by decide +kernel
theorem dX9_act_17 : decode cX9_act 17 = .ok (.iload_n 2, 1) := by decide +kernel
theorem dX9_act_18 : decode cX9_act 18 = .ok (.iconst 2, 1) := by decide +kernel
theorem dX9_act_19 : decode cX9_act 19 = .ok (.if_icmp .le 5, 3) := by decide +kernel
theorem dX9_act_22 : decode cX9_act 22 = .ok (.iconst 0, 1) := by decide +kernel
theorem dX9_act_23 : decode cX9_act 23 = .ok (.ireturn, 1) := by decide +kernel
theorem dX9_act_24 : decode cX9_act 24 = .ok (.iload_n 2, 1) := by decide +kernel
theorem dX9_act_25 : decode cX9_act 25 = .ok (.ifCond .ne 12, 3) := by decide +kernel
theorem dX9_act_28 : decode cX9_act 28 = .ok (.aload_n 0, 1) := by decide +kernel
theorem dX9_act_29 : decode cX9_act 29 = .ok (.iload_n 1, 1) := by decide +kernel
theorem dX9_act_30 : decode cX9_act 30 = .ok (.iload_n 3, 1) := by decide +kernel
theorem dX9_act_31 : decode cX9_act 31 = .ok (.invokevirtual 352, 3) := by decide +kernel
theorem dX9_act_34 : decode cX9_act 34 = .ok (.goto 23, 3) := by decide +kernel
theorem dX9_act_37 : decode cX9_act 37 = .ok (.iload_n 2, 1) := by decide +kernel
theorem dX9_act_38 : decode cX9_act 38 = .ok (.iconst 1, 1) := by decide +kernel
theorem dX9_act_39 : decode cX9_act 39 = .ok (.if_icmp .ne 12, 3) := by decide +kernel
theorem dX9_act_42 : decode cX9_act 42 = .ok (.aload_n 0, 1) := by decide +kernel
theorem dX9_act_43 : decode cX9_act 43 = .ok (.iload_n 1, 1) := by decide +kernel
theorem dX9_act_44 : decode cX9_act 44 = .ok (.iload_n 3, 1) := by decide +kernel
theorem dX9_act_45 : decode cX9_act 45 = .ok (.invokevirtual 355, 3) := by decide +kernel
theorem dX9_act_48 : decode cX9_act 48 = .ok (.goto 9, 3) := by decide +kernel
theorem dX9_act_51 : decode cX9_act 51 = .ok (.aload_n 0, 1) := by decide +kernel
theorem dX9_act_52 : decode cX9_act 52 = .ok (.iload_n 1, 1) := by decide +kernel
theorem dX9_act_53 : decode cX9_act 53 = .ok (.iload_n 3, 1) := by decide +kernel
theorem dX9_act_54 : decode cX9_act 54 = .ok (.invokevirtual 358, 3) := by decide +kernel
theorem dX9_act_57 : decode cX9_act 57 = .ok (.ireturn, 1) := by decide +kernel
theorem dX9_trace_0 : decode cX9_trace 0 = .ok (.iload_n 1, 1) := by decide +kernel
theorem dX9_trace_1 : decode cX9_trace 1 = .ok (.ifCond .lt 26, 3) := by decide +kernel
theorem dX9_trace_4 : decode cX9_trace 4 = .ok (.iload_n 1, 1) := by decide +kernel
theorem dX9_trace_5 : decode cX9_trace 5 = .ok (.bipush 20, 2) := by decide +kernel
theorem dX9_trace_7 : decode cX9_trace 7 = .ok (.if_icmp .ge 20, 3) := by decide +kernel
theorem dX9_trace_10 : decode cX9_trace 10 = .ok (.iload_n 1, 1) := by decide +kernel
theorem dX9_trace_11 : decode cX9_trace 11 = .ok (.aload_n 0, 1) := by decide +kernel
theorem dX9_trace_12 : decode cX9_trace 12 = .ok (.getfield 346, 3) := by decide +kernel
theorem dX9_trace_15 : decode cX9_trace 15 = .ok (.if_icmp .ge 12, 3) := by decide +kernel
theorem dX9_trace_18 : decode cX9_trace 18 = .ok (.aload_n 0, 1) := by decide +kernel
theorem dX9_trace_19 : decode cX9_trace 19 = .ok (.getfield 114, 3) := by decide +kernel
theorem dX9_trace_22 : decode cX9_trace 22 = .ok (.iload_n 1, 1) := by decide +kernel
theorem dX9_trace_23 : decode cX9_trace 23 = .ok (.iaload, 1) := by decide +kernel
theorem dX9_trace_24 : decode cX9_trace 24 = .ok (.goto 4, 3) := by decide +kernel
theorem dX9_trace_27 : decode cX9_trace 27 = .ok (.iconst (-1), 1) := by decide +kernel
theorem dX9_trace_28 : decode cX9_trace 28 = .ok (.ireturn, 1) := by decide +kernel
theorem dX9_image_0 : decode cX9_image 0 = .ok (.aload_n 0, 1) := by decide +kernel
theorem dX9_image_1 : decode cX9_image 1 = .ok (.iconst 1, 1) := by decide +kernel
theorem dX9_image_2 : decode cX9_image 2 = .ok (.putfield 361, 3) := by decide +kernel
theorem dX9_image_5 : decode cX9_image 5 = .ok (.aload_n 0, 1) := by decide +kernel
theorem dX9_image_6 : decode cX9_image 6 = .ok (.aload_n 0, 1) := by decide +kernel
theorem dX9_image_7 : decode cX9_image 7 = .ok (.getfield 87, 3) := by decide +kernel
theorem dX9_image_10 : decode cX9_image 10 = .ok (.iconst 0, 1) := by decide +kernel
theorem dX9_image_11 : decode cX9_image 11 = .ok (.invokevirtual 217, 3) := by decide +kernel
theorem dX9_image_14 : decode cX9_image 14 = .ok (.aload_n 0, 1) := by decide +kernel
theorem dX9_image_15 : decode cX9_image 15 = .ok (.getfield 117, 3) := by decide +kernel
theorem dX9_image_18 : decode cX9_image 18 = .ok (.ireturn, 1) := by decide +kernel
theorem dX9_restore_0 : decode cX9_restore 0 = .ok (.aload_n 0, 1) := by decide +kernel
theorem dX9_restore_1 : decode cX9_restore 1 = .ok (.getfield 361, 3) := by decide +kernel
theorem dX9_restore_4 : decode cX9_restore 4 = .ok (.ifCond .ne 10, 3) := by decide +kernel
theorem dX9_restore_7 : decode cX9_restore 7 = .ok (.aload_n 0, 1) := by decide +kernel
theorem dX9_restore_8 : decode cX9_restore 8 = .ok (.bipush (-6), 2) := by decide +kernel
theorem dX9_restore_10 : decode cX9_restore 10 = .ok (.invokevirtual 127, 3) := by decide +kernel
theorem dX9_restore_13 : decode cX9_restore 13 = .ok (.ireturn, 1) := by decide +kernel
theorem dX9_restore_14 : decode cX9_restore 14 = .ok (.aload_n 0, 1) := by decide +kernel
theorem dX9_restore_15 : decode cX9_restore 15 = .ok (.aload_n 0, 1) := by decide +kernel
theorem dX9_restore_16 : decode cX9_restore 16 = .ok (.getfield 87, 3) := by decide +kernel
theorem dX9_restore_19 : decode cX9_restore 19 = .ok (.iconst 1, 1) := by decide +kernel
theorem dX9_restore_20 : decode cX9_restore 20 = .ok (.invokevirtual 217, 3) := by decide +kernel
theorem dX9_restore_23 : decode cX9_restore 23 = .ok (.iconst 0, 1) := by decide +kernel
theorem dX9_restore_24 : decode cX9_restore 24 = .ok (.istore_n 1, 1) := by decide +kernel
theorem dX9_restore_25 : decode cX9_restore 25 = .ok (.iload_n 1, 1) := by decide +kernel
theorem dX9_restore_26 : decode cX9_restore 26 = .ok (.bipush 8, 2) := by decide +kernel
theorem dX9_restore_28 : decode cX9_restore 28 = .ok (.if_icmp .ge 39, 3) := by decide +kernel
theorem dX9_restore_31 : decode cX9_restore 31 = .ok (.aload_n 0, 1) := by decide +kernel
theorem dX9_restore_32 : decode cX9_restore 32 = .ok (.getfield 56, 3) := by decide +kernel
theorem dX9_restore_35 : decode cX9_restore 35 = .ok (.iload_n 1, 1) := by decide +kernel
theorem dX9_restore_36 : decode cX9_restore 36 = .ok (.iaload, 1) := by decide +kernel
theorem dX9_restore_37 : decode cX9_restore 37 = .ok (.iconst 2, 1) := by decide +kernel
theorem dX9_restore_38 : decode cX9_restore 38 = .ok (.if_icmp .ne 23, 3) := by decide +kernel
theorem dX9_restore_41 : decode cX9_restore 41 = .ok (.aload_n 0, 1) := by decide +kernel
theorem dX9_restore_42 : decode cX9_restore 42 = .ok (.getfield 65, 3) := by decide +kernel
theorem dX9_restore_45 : decode cX9_restore 45 = .ok (.iload_n 1, 1) := by decide +kernel
theorem dX9_restore_46 : decode cX9_restore 46 = .ok (.iaload, 1) := by decide +kernel
theorem dX9_restore_47 : decode cX9_restore 47 = .ok (.aload_n 0, 1) := by decide +kernel
theorem dX9_restore_48 : decode cX9_restore 48 = .ok (.getfield 117, 3) := by decide +kernel
theorem dX9_restore_51 : decode cX9_restore 51 = .ok (.if_icmp .lt 10, 3) := by decide +kernel
theorem dX9_restore_54 : decode cX9_restore 54 = .ok (.aload_n 0, 1) := by decide +kernel
theorem dX9_restore_55 : decode cX9_restore 55 = .ok (.getfield 56, 3) := by decide +kernel
theorem dX9_restore_58 : decode cX9_restore 58 = .ok (.iload_n 1, 1) := by decide +kernel
theorem dX9_restore_59 : decode cX9_restore 59 = .ok (.iconst 0, 1) := by decide +kernel
theorem dX9_restore_60 : decode cX9_restore 60 = .ok (.iastore, 1) := by decide +kernel
theorem dX9_restore_61 : decode cX9_restore 61 = .ok (.iinc 1 1, 3) := by decide +kernel
theorem dX9_restore_64 : decode cX9_restore 64 = .ok (.goto (-39), 3) := by decide +kernel
theorem dX9_restore_67 : decode cX9_restore 67 = .ok (.aload_n 0, 1) := by decide +kernel
theorem dX9_restore_68 : decode cX9_restore 68 = .ok (.getfield 117, 3) := by decide +kernel
theorem dX9_restore_71 : decode cX9_restore 71 = .ok (.ireturn, 1) := by decide +kernel
theorem dX9_status_0 : decode cX9_status 0 = .ok (.iload_n 1, 1) := by decide +kernel
theorem dX9_status_1 : decode cX9_status 1 = .ok (.bipush 11, 2) := by decide +kernel
theorem dX9_status_3 : decode cX9_status 3 = .ok (.if_icmp .lt 19, 3) := by decide +kernel
theorem dX9_status_6 : decode cX9_status 6 = .ok (.iload_n 1, 1) := by decide +kernel
theorem dX9_status_7 : decode cX9_status 7 = .ok (.bipush 17, 2) := by decide +kernel
theorem dX9_status_9 : decode cX9_status 9 = .ok (.if_icmp .gt 13, 3) := by decide +kernel
theorem dX9_status_12 : decode cX9_status 12 = .ok (.aload_n 0, 1) := by decide +kernel
theorem dX9_status_13 : decode cX9_status 13 = .ok (.getfield 28, 3) := by decide +kernel
theorem dX9_status_16 : decode cX9_status 16 = .ok (.iload_n 1, 1) := by decide +kernel
theorem dX9_status_17 : decode cX9_status 17 = .ok (.bipush 10, 2) := by decide +kernel
theorem dX9_status_19 : decode cX9_status 19 = .ok (.isub, 1) := by decide +kernel
theorem dX9_status_20 : decode cX9_status 20 = .ok (.iaload, 1) := by decide +kernel
theorem dX9_status_21 : decode cX9_status 21 = .ok (.ireturn, 1) := by decide +kernel
theorem dX9_status_22 : decode cX9_status 22 = .ok (.iload_n 1, 1) := by decide +kernel
theorem dX9_status_23 : decode cX9_status 23 = .ok (.iconst 2, 1) := by decide +kernel
theorem dX9_status_24 : decode cX9_status 24 = .ok (.if_icmp .lt 16, 3) := by decide +kernel
theorem dX9_status_27 : decode cX9_status 27 = .ok (.iload_n 1, 1) := by decide +kernel
theorem dX9_status_28 : decode cX9_status 28 = .ok (.iconst 5, 1) := by decide +kernel
theorem dX9_status_29 : decode cX9_status 29 = .ok (.if_icmp .gt 11, 3) := by decide +kernel
theorem dX9_status_32 : decode cX9_status 32 = .ok (.aload_n 0, 1) := by decide +kernel
theorem dX9_status_33 : decode cX9_status 33 = .ok (.iload_n 1, 1) := by decide +kernel
theorem dX9_status_34 : decode cX9_status 34 = .ok (.iconst 2, 1) := by decide +kernel
theorem dX9_status_35 : decode cX9_status 35 = .ok (.isub, 1) := by decide +kernel
theorem dX9_status_36 : decode cX9_status 36 = .ok (.invokevirtual 163, 3) := by decide +kernel
theorem dX9_status_39 : decode cX9_status 39 = .ok (.ireturn, 1) := by decide +kernel
theorem dX9_status_40 : decode cX9_status 40 = .ok (.iload_n 1, 1) := by decide +kernel
theorem dX9_status_41 : decode cX9_status 41 = .ok (.tableswitch 85 0 9 #[55, 60, 85, 85, 85, 85, 65, 70, 75, 80], 55) := by decide +kernel
theorem dX9_status_96 : decode cX9_status 96 = .ok (.aload_n 0, 1) := by decide +kernel
theorem dX9_status_97 : decode cX9_status 97 = .ok (.getfield 117, 3) := by decide +kernel
theorem dX9_status_100 : decode cX9_status 100 = .ok (.ireturn, 1) := by decide +kernel
theorem dX9_status_101 : decode cX9_status 101 = .ok (.aload_n 0, 1) := by decide +kernel
theorem dX9_status_102 : decode cX9_status 102 = .ok (.getfield 120, 3) := by decide +kernel
theorem dX9_status_105 : decode cX9_status 105 = .ok (.ireturn, 1) := by decide +kernel
theorem dX9_status_106 : decode cX9_status 106 = .ok (.aload_n 0, 1) := by decide +kernel
theorem dX9_status_107 : decode cX9_status 107 = .ok (.getfield 170, 3) := by decide +kernel
theorem dX9_status_110 : decode cX9_status 110 = .ok (.ireturn, 1) := by decide +kernel
theorem dX9_status_111 : decode cX9_status 111 = .ok (.aload_n 0, 1) := by decide +kernel
theorem dX9_status_112 : decode cX9_status 112 = .ok (.getfield 211, 3) := by decide +kernel
theorem dX9_status_115 : decode cX9_status 115 = .ok (.ireturn, 1) := by decide +kernel
theorem dX9_status_116 : decode cX9_status 116 = .ok (.aload_n 0, 1) := by decide +kernel
theorem dX9_status_117 : decode cX9_status 117 = .ok (.getfield 22, 3) := by decide +kernel
theorem dX9_status_120 : decode cX9_status 120 = .ok (.ireturn, 1) := by decide +kernel
theorem dX9_status_121 : decode cX9_status 121 = .ok (.aload_n 0, 1) := by decide +kernel
theorem dX9_status_122 : decode cX9_status 122 = .ok (.getfield 346, 3) := by decide +kernel
theorem dX9_status_125 : decode cX9_status 125 = .ok (.ireturn, 1) := by decide +kernel
theorem dX9_status_126 : decode cX9_status 126 = .ok (.iconst (-1), 1) := by decide +kernel
theorem dX9_status_127 : decode cX9_status 127 = .ok (.ireturn, 1) := by decide +kernel
theorem dJ9_abs_0f7a4_0 : decode cJ9_abs_0f7a4 0 = .ok (.iload_n 0, 1) := by decide +kernel
theorem dJ9_abs_0f7a4_1 : decode cJ9_abs_0f7a4 1 = .ok (.ifCond .ge 8, 3) := by decide +kernel
theorem dJ9_abs_0f7a4_4 : decode cJ9_abs_0f7a4 4 = .ok (.iload_n 0, 1) := by decide +kernel
theorem dJ9_abs_0f7a4_5 : decode cJ9_abs_0f7a4 5 = .ok (.ineg, 1) := by decide +kernel
theorem dJ9_abs_0f7a4_6 : decode cJ9_abs_0f7a4 6 = .ok (.goto 4, 3) := by decide +kernel
theorem dJ9_abs_0f7a4_9 : decode cJ9_abs_0f7a4 9 = .ok (.iload_n 0, 1) := by decide +kernel
theorem dJ9_abs_0f7a4_10 : decode cJ9_abs_0f7a4 10 = .ok (.ireturn, 1) := by decide +kernel
theorem dJ9_max_7cf53_0 : decode cJ9_max_7cf53 0 = .ok (.iload_n 0, 1) := by decide +kernel
theorem dJ9_max_7cf53_1 : decode cJ9_max_7cf53 1 = .ok (.iload_n 1, 1) := by decide +kernel
theorem dJ9_max_7cf53_2 : decode cJ9_max_7cf53 2 = .ok (.if_icmp .lt 7, 3) := by decide +kernel
theorem dJ9_max_7cf53_5 : decode cJ9_max_7cf53 5 = .ok (.iload_n 0, 1) := by decide +kernel
theorem dJ9_max_7cf53_6 : decode cJ9_max_7cf53 6 = .ok (.goto 4, 3) := by decide +kernel
theorem dJ9_max_7cf53_9 : decode cJ9_max_7cf53 9 = .ok (.iload_n 1, 1) := by decide +kernel
theorem dJ9_max_7cf53_10 : decode cJ9_max_7cf53 10 = .ok (.ireturn, 1) := by decide +kernel
theorem dJ9_min_7cf53_0 : decode cJ9_min_7cf53 0 = .ok (.iload_n 0, 1) := by decide +kernel
theorem dJ9_min_7cf53_1 : decode cJ9_min_7cf53 1 = .ok (.iload_n 1, 1) := by decide +kernel
theorem dJ9_min_7cf53_2 : decode cJ9_min_7cf53 2 = .ok (.if_icmp .gt 7, 3) := by decide +kernel
theorem dJ9_min_7cf53_5 : decode cJ9_min_7cf53 5 = .ok (.iload_n 0, 1) := by decide +kernel
theorem dJ9_min_7cf53_6 : decode cJ9_min_7cf53 6 = .ok (.goto 4, 3) := by decide +kernel
theorem dJ9_min_7cf53_9 : decode cJ9_min_7cf53 9 = .ok (.iload_n 1, 1) := by decide +kernel
theorem dJ9_min_7cf53_10 : decode cJ9_min_7cf53 10 = .ok (.ireturn, 1) := by decide +kernel
theorem dJ0_length_8abf5_0 : decode cJ0_length_8abf5 0 = .ok (.aload_n 0, 1) := by decide +kernel
theorem dJ0_length_8abf5_1 : decode cJ0_length_8abf5 1 = .ok (.getfield 9, 3) := by decide +kernel
theorem dJ0_length_8abf5_4 : decode cJ0_length_8abf5 4 = .ok (.arraylength, 1) := by decide +kernel
theorem dJ0_length_8abf5_5 : decode cJ0_length_8abf5 5 = .ok (.aload_n 0, 1) := by decide +kernel
theorem dJ0_length_8abf5_6 : decode cJ0_length_8abf5 6 = .ok (.invokevirtual 335, 3) := by decide +kernel
theorem dJ0_length_8abf5_9 : decode cJ0_length_8abf5 9 = .ok (.ishr, 1) := by decide +kernel
theorem dJ0_length_8abf5_10 : decode cJ0_length_8abf5 10 = .ok (.ireturn, 1) := by decide +kernel
theorem dJ0_charAt_5068e_0 : decode cJ0_charAt_5068e 0 = .ok (.aload_n 0, 1) := by decide +kernel
theorem dJ0_charAt_5068e_1 : decode cJ0_charAt_5068e 1 = .ok (.invokevirtual 492, 3) := by decide +kernel
theorem dJ0_charAt_5068e_4 : decode cJ0_charAt_5068e 4 = .ok (.ifCond .eq 12, 3) := by decide +kernel
theorem dJ0_charAt_5068e_7 : decode cJ0_charAt_5068e 7 = .ok (.aload_n 0, 1) := by decide +kernel
theorem dJ0_charAt_5068e_8 : decode cJ0_charAt_5068e 8 = .ok (.getfield 9, 3) := by decide +kernel
theorem dJ0_charAt_5068e_11 : decode cJ0_charAt_5068e 11 = .ok (.iload_n 1, 1) := by decide +kernel
theorem dJ0_charAt_5068e_12 : decode cJ0_charAt_5068e 12 = .ok (.invokestatic 495, 3) := by decide +kernel
theorem dJ0_charAt_5068e_15 : decode cJ0_charAt_5068e 15 = .ok (.ireturn, 1) := by decide +kernel
theorem dJ0_charAt_5068e_16 : decode cJ0_charAt_5068e 16 = .ok (.aload_n 0, 1) := by decide +kernel
theorem dJ0_charAt_5068e_17 : decode cJ0_charAt_5068e 17 = .ok (.getfield 9, 3) := by decide +kernel
theorem dJ0_charAt_5068e_20 : decode cJ0_charAt_5068e 20 = .ok (.iload_n 1, 1) := by decide +kernel
theorem dJ0_charAt_5068e_21 : decode cJ0_charAt_5068e 21 = .ok (.invokestatic 498, 3) := by decide +kernel
theorem dJ0_charAt_5068e_24 : decode cJ0_charAt_5068e 24 = .ok (.ireturn, 1) := by decide +kernel
theorem dJ0_coder_7d493_0 : decode cJ0_coder_7d493 0 = .ok (.getstatic 38, 3) := by decide +kernel
theorem dJ0_coder_7d493_3 : decode cJ0_coder_7d493 3 = .ok (.ifCond .eq 10, 3) := by decide +kernel
theorem dJ0_coder_7d493_6 : decode cJ0_coder_7d493 6 = .ok (.aload_n 0, 1) := by decide +kernel
theorem dJ0_coder_7d493_7 : decode cJ0_coder_7d493 7 = .ok (.getfield 15, 3) := by decide +kernel
theorem dJ0_coder_7d493_10 : decode cJ0_coder_7d493 10 = .ok (.goto 4, 3) := by decide +kernel
theorem dJ0_coder_7d493_13 : decode cJ0_coder_7d493 13 = .ok (.iconst 1, 1) := by decide +kernel
theorem dJ0_coder_7d493_14 : decode cJ0_coder_7d493 14 = .ok (.ireturn, 1) := by decide +kernel
theorem dJ0_isLatin1_aae02_0 : decode cJ0_isLatin1_aae02 0 = .ok (.getstatic 38, 3) := by decide +kernel
theorem dJ0_isLatin1_aae02_3 : decode cJ0_isLatin1_aae02 3 = .ok (.ifCond .eq 14, 3) := by decide +kernel
theorem dJ0_isLatin1_aae02_6 : decode cJ0_isLatin1_aae02 6 = .ok (.aload_n 0, 1) := by decide +kernel
theorem dJ0_isLatin1_aae02_7 : decode cJ0_isLatin1_aae02 7 = .ok (.getfield 15, 3) := by decide +kernel
