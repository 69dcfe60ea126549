theorem dX9_addsChild_10 : decode cX9_addsChild 10 = .ok (.aload_n 0, 1) := by decide +kernel
theorem dX9_addsChild_11 : decode cX9_addsChild 11 = .ok (.getfield 35, 3) := by decide +kernel
theorem dX9_addsChild_14 : decode cX9_addsChild 14 = .ok (.aload_n 0, 1) := by decide +kernel
theorem dX9_addsChild_15 : decode cX9_addsChild 15 = .ok (.getfield 117, 3) := by decide +kernel
theorem dX9_addsChild_18 : decode cX9_addsChild 18 = .ok (.iload_n 2, 1) := by decide +kernel
theorem dX9_addsChild_19 : decode cX9_addsChild 19 = .ok (.iastore, 1) := by decide +kernel
theorem dX9_addsChild_20 : decode cX9_addsChild 20 = .ok (.aload_n 0, 1) := by decide +kernel
theorem dX9_addsChild_21 : decode cX9_addsChild 21 = .ok (.getfield 38, 3) := by decide +kernel
theorem dX9_addsChild_24 : decode cX9_addsChild 24 = .ok (.aload_n 0, 1) := by decide +kernel
theorem dX9_addsChild_25 : decode cX9_addsChild 25 = .ok (.getfield 117, 3) := by decide +kernel
theorem dX9_addsChild_28 : decode cX9_addsChild 28 = .ok (.iload_n 3, 1) := by decide +kernel
theorem dX9_addsChild_29 : decode cX9_addsChild 29 = .ok (.iastore, 1) := by decide +kernel
theorem dX9_addsChild_30 : decode cX9_addsChild 30 = .ok (.aload_n 0, 1) := by decide +kernel
theorem dX9_addsChild_31 : decode cX9_addsChild 31 = .ok (.getfield 41, 3) := by decide +kernel
theorem dX9_addsChild_34 : decode cX9_addsChild 34 = .ok (.aload_n 0, 1) := by decide +kernel
theorem dX9_addsChild_35 : decode cX9_addsChild 35 = .ok (.getfield 117, 3) := by decide +kernel
theorem dX9_addsChild_38 : decode cX9_addsChild 38 = .ok (.aload_n 0, 1) := by decide +kernel
theorem dX9_addsChild_39 : decode cX9_addsChild 39 = .ok (.getfield 117, 3) := by decide +kernel
theorem dX9_addsChild_42 : decode cX9_addsChild 42 = .ok (.aload_n 0, 1) := by decide +kernel
theorem dX9_addsChild_43 : decode cX9_addsChild 43 = .ok (.getfield 120, 3) := by decide +kernel
theorem dX9_addsChild_46 : decode cX9_addsChild 46 = .ok (.if_icmp .ge 10, 3) := by decide +kernel
theorem dX9_addsChild_49 : decode cX9_addsChild 49 = .ok (.aload_n 0, 1) := by decide +kernel
theorem dX9_addsChild_50 : decode cX9_addsChild 50 = .ok (.getfield 117, 3) := by decide +kernel
theorem dX9_addsChild_53 : decode cX9_addsChild 53 = .ok (.goto 4, 3) := by decide +kernel
theorem dX9_addsChild_56 : decode cX9_addsChild 56 = .ok (.iconst 0, 1) := by decide +kernel
theorem dX9_addsChild_57 : decode cX9_addsChild 57 = .ok (.iastore, 1) := by decide +kernel
theorem dX9_addsChild_58 : decode cX9_addsChild 58 = .ok (.aload_n 0, 1) := by decide +kernel
theorem dX9_addsChild_59 : decode cX9_addsChild 59 = .ok (.getfield 44, 3) := by decide +kernel
theorem dX9_addsChild_62 : decode cX9_addsChild 62 = .ok (.aload_n 0, 1) := by decide +kernel
theorem dX9_addsChild_63 : decode cX9_addsChild 63 = .ok (.getfield 117, 3) := by decide +kernel
theorem dX9_addsChild_66 : decode cX9_addsChild 66 = .ok (.iconst 0, 1) := by decide +kernel
theorem dX9_addsChild_67 : decode cX9_addsChild 67 = .ok (.iastore, 1) := by decide +kernel
theorem dX9_addsChild_68 : decode cX9_addsChild 68 = .ok (.aload_n 0, 1) := by decide +kernel
theorem dX9_addsChild_69 : decode cX9_addsChild 69 = .ok (.getfield 47, 3) := by decide +kernel
theorem dX9_addsChild_72 : decode cX9_addsChild 72 = .ok (.aload_n 0, 1) := by decide +kernel
theorem dX9_addsChild_73 : decode cX9_addsChild 73 = .ok (.getfield 117, 3) := by decide +kernel
theorem dX9_addsChild_76 : decode cX9_addsChild 76 = .ok (.iconst 0, 1) := by decide +kernel
theorem dX9_addsChild_77 : decode cX9_addsChild 77 = .ok (.iastore, 1) := by decide +kernel
theorem dX9_addsChild_78 : decode cX9_addsChild 78 = .ok (.aload_n 0, 1) := by decide +kernel
theorem dX9_addsChild_79 : decode cX9_addsChild 79 = .ok (.dup, 1) := by decide +kernel
theorem dX9_addsChild_80 : decode cX9_addsChild 80 = .ok (.getfield 117, 3) := by decide +kernel
theorem dX9_addsChild_83 : decode cX9_addsChild 83 = .ok (.dup_x1, 1) := by decide +kernel
theorem dX9_addsChild_84 : decode cX9_addsChild 84 = .ok (.iconst 1, 1) := by decide +kernel
theorem dX9_addsChild_85 : decode cX9_addsChild 85 = .ok (.iadd, 1) := by decide +kernel
theorem dX9_addsChild_86 : decode cX9_addsChild 86 = .ok (.putfield 117, 3) := by decide +kernel
theorem dX9_addsChild_89 : decode cX9_addsChild 89 = .ok (.ireturn, 1) := by decide +kernel
theorem dX9_addsSack_0 : decode cX9_addsSack 0 = .ok (.aload_n 0, 1) := by decide +kernel
theorem dX9_addsSack_1 : decode cX9_addsSack 1 = .ok (.getfield 50, 3) := by decide +kernel
theorem dX9_addsSack_4 : decode cX9_addsSack 4 = .ok (.aload_n 0, 1) := by decide +kernel
theorem dX9_addsSack_5 : decode cX9_addsSack 5 = .ok (.getfield 120, 3) := by decide +kernel
theorem dX9_addsSack_8 : decode cX9_addsSack 8 = .ok (.iload_n 1, 1) := by decide +kernel
theorem dX9_addsSack_9 : decode cX9_addsSack 9 = .ok (.iastore, 1) := by decide +kernel
theorem dX9_addsSack_10 : decode cX9_addsSack 10 = .ok (.aload_n 0, 1) := by decide +kernel
theorem dX9_addsSack_11 : decode cX9_addsSack 11 = .ok (.getfield 53, 3) := by decide +kernel
theorem dX9_addsSack_14 : decode cX9_addsSack 14 = .ok (.aload_n 0, 1) := by decide +kernel
theorem dX9_addsSack_15 : decode cX9_addsSack 15 = .ok (.getfield 120, 3) := by decide +kernel
theorem dX9_addsSack_18 : decode cX9_addsSack 18 = .ok (.iload_n 2, 1) := by decide +kernel
theorem dX9_addsSack_19 : decode cX9_addsSack 19 = .ok (.iastore, 1) := by decide +kernel
theorem dX9_addsSack_20 : decode cX9_addsSack 20 = .ok (.aload_n 0, 1) := by decide +kernel
theorem dX9_addsSack_21 : decode cX9_addsSack 21 = .ok (.dup, 1) := by decide +kernel
theorem dX9_addsSack_22 : decode cX9_addsSack 22 = .ok (.getfield 120, 3) := by decide +kernel
theorem dX9_addsSack_25 : decode cX9_addsSack 25 = .ok (.dup_x1, 1) := by decide +kernel
theorem dX9_addsSack_26 : decode cX9_addsSack 26 = .ok (.iconst 1, 1) := by decide +kernel
theorem dX9_addsSack_27 : decode cX9_addsSack 27 = .ok (.iadd, 1) := by decide +kernel
theorem dX9_addsSack_28 : decode cX9_addsSack 28 = .ok (.putfield 120, 3) := by decide +kernel
theorem dX9_addsSack_31 : decode cX9_addsSack 31 = .ok (.ireturn, 1) := by decide +kernel
theorem dX9_child_0 : decode cX9_child 0 = .ok (.iload_n 1, 1) := by decide +kernel
theorem dX9_child_1 : decode cX9_child 1 = .ok (.ifCond .lt 9, 3) := by decide +kernel
theorem dX9_child_4 : decode cX9_child 4 = .ok (.iload_n 1, 1) := by decide +kernel
theorem dX9_child_5 : decode cX9_child 5 = .ok (.bipush 6, 2) := by decide +kernel
theorem dX9_child_7 : decode cX9_child 7 = .ok (.if_icmp .le 9, 3) := by decide +kernel
theorem dX9_child_10 : decode cX9_child 10 = .ok (.aload_n 0, 1) := by decide +kernel
theorem dX9_child_11 : decode cX9_child 11 = .ok (.iconst (-1), 1) := by decide +kernel
theorem dX9_child_12 : decode cX9_child 12 = .ok (.invokevirtual 127, 3) := by decide +kernel
theorem dX9_child_15 : decode cX9_child 15 = .ok (.ireturn, 1) := by decide +kernel
theorem dX9_child_16 : decode cX9_child 16 = .ok (.iload_n 2, 1) := by decide +kernel
theorem dX9_child_17 : decode cX9_child 17 = .ok (.ifCond .lt 20, 3) := by decide +kernel
theorem dX9_child_20 : decode cX9_child 20 = .ok (.iload_n 2, 1) := by decide +kernel
theorem dX9_child_21 : decode cX9_child 21 = .ok (.bipush 9, 2) := by decide +kernel
theorem dX9_child_23 : decode cX9_child 23 = .ok (.if_icmp .gt 14, 3) := by decide +kernel
theorem dX9_child_26 : decode cX9_child 26 = .ok (.iload_n 3, 1) := by decide +kernel
theorem dX9_child_27 : decode cX9_child 27 = .ok (.iconst 1, 1) := by decide +kernel
theorem dX9_child_28 : decode cX9_child 28 = .ok (.if_icmp .lt 9, 3) := by decide +kernel
theorem dX9_child_31 : decode cX9_child 31 = .ok (.iload_n 3, 1) := by decide +kernel
theorem dX9_child_32 : decode cX9_child 32 = .ok (.bipush 9, 2) := by decide +kernel
theorem dX9_child_34 : decode cX9_child 34 = .ok (.if_icmp .le 10, 3) := by decide +kernel
theorem dX9_child_37 : decode cX9_child 37 = .ok (.aload_n 0, 1) := by decide +kernel
theorem dX9_child_38 : decode cX9_child 38 = .ok (.bipush (-6), 2) := by decide +kernel
theorem dX9_child_40 : decode cX9_child 40 = .ok (.invokevirtual 127, 3) := by decide +kernel
theorem dX9_child_43 : decode cX9_child 43 = .ok (.ireturn, 1) := by decide +kernel
theorem dX9_child_44 : decode cX9_child 44 = .ok (.aload_n 0, 1) := by decide +kernel
theorem dX9_child_45 : decode cX9_child 45 = .ok (.getfield 117, 3) := by decide +kernel
theorem dX9_child_48 : decode cX9_child 48 = .ok (.bipush 8, 2) := by decide +kernel
theorem dX9_child_50 : decode cX9_child 50 = .ok (.if_icmp .ne 12, 3) := by decide +kernel
theorem dX9_child_53 : decode cX9_child 53 = .ok (.aload_n 0, 1) := by decide +kernel
theorem dX9_child_54 : decode cX9_child 54 = .ok (.bipush (-7), 2) := by decide +kernel
theorem dX9_child_56 : decode cX9_child 56 = .ok (.invokevirtual 127, 3) := by decide +kernel
theorem dX9_child_59 : decode cX9_child 59 = .ok (.goto 10, 3) := by decide +kernel
theorem dX9_child_62 : decode cX9_child 62 = .ok (.aload_n 0, 1) := by decide +kernel
theorem dX9_child_63 : decode cX9_child 63 = .ok (.iload_n 1, 1) := by decide +kernel
theorem dX9_child_64 : decode cX9_child 64 = .ok (.iload_n 2, 1) := by decide +kernel
theorem dX9_child_65 : decode cX9_child 65 = .ok (.iload_n 3, 1) := by decide +kernel
theorem dX9_child_66 : decode cX9_child 66 = .ok (.invokevirtual 148, 3) := by decide +kernel
theorem dX9_child_69 : decode cX9_child 69 = .ok (.ireturn, 1) := by decide +kernel
theorem dX9_sack_0 : decode cX9_sack 0 = .ok (.iload_n 1, 1) := by decide +kernel
theorem dX9_sack_1 : decode cX9_sack 1 = .ok (.iconst 1, 1) := by decide +kernel
theorem dX9_sack_2 : decode cX9_sack 2 = .ok (.if_icmp .lt 19, 3) := by decide +kernel
theorem dX9_sack_5 : decode cX9_sack 5 = .ok (.iload_n 1, 1) := by decide +kernel
theorem dX9_sack_6 : decode cX9_sack 6 = .ok (.bipush 9, 2) := by decide +kernel
theorem dX9_sack_8 : decode cX9_sack 8 = .ok (.if_icmp .gt 13, 3) := by decide +kernel
theorem dX9_sack_11 : decode cX9_sack 11 = .ok (.iload_n 2, 1) := by decide +kernel
theorem dX9_sack_12 : decode cX9_sack 12 = .ok (.ifCond .lt 9, 3) := by decide +kernel
theorem dX9_sack_15 : decode cX9_sack 15 = .ok (.iload_n 2, 1) := by decide +kernel
theorem dX9_sack_16 : decode cX9_sack 16 = .ok (.bipush 9, 2) := by decide +kernel
theorem dX9_sack_18 : decode cX9_sack 18 = .ok (.if_icmp .le 10, 3) := by decide +kernel
theorem dX9_sack_21 : decode cX9_sack 21 = .ok (.aload_n 0, 1) := by decide +kernel
theorem dX9_sack_22 : decode cX9_sack 22 = .ok (.bipush (-6), 2) := by decide +kernel
theorem dX9_sack_24 : decode cX9_sack 24 = .ok (.invokevirtual 127, 3) := by decide +kernel
theorem dX9_sack_27 : decode cX9_sack 27 = .ok (.ireturn, 1) := by decide +kernel
theorem dX9_sack_28 : decode cX9_sack 28 = .ok (.aload_n 0, 1) := by decide +kernel
theorem dX9_sack_29 : decode cX9_sack 29 = .ok (.getfield 120, 3) := by decide +kernel
theorem dX9_sack_32 : decode cX9_sack 32 = .ok (.bipush 8, 2) := by decide +kernel
theorem dX9_sack_34 : decode cX9_sack 34 = .ok (.if_icmp .ne 12, 3) := by decide +kernel
theorem dX9_sack_37 : decode cX9_sack 37 = .ok (.aload_n 0, 1) := by decide +kernel
theorem dX9_sack_38 : decode cX9_sack 38 = .ok (.bipush (-7), 2) := by decide +kernel
theorem dX9_sack_40 : decode cX9_sack 40 = .ok (.invokevirtual 127, 3) := by decide +kernel
theorem dX9_sack_43 : decode cX9_sack 43 = .ok (.goto 9, 3) := by decide +kernel
theorem dX9_sack_46 : decode cX9_sack 46 = .ok (.aload_n 0, 1) := by decide +kernel
theorem dX9_sack_47 : decode cX9_sack 47 = .ok (.iload_n 1, 1) := by decide +kernel
theorem dX9_sack_48 : decode cX9_sack 48 = .ok (.iload_n 2, 1) := by decide +kernel
theorem dX9_sack_49 : decode cX9_sack 49 = .ok (.invokevirtual 152, 3) := by decide +kernel
theorem dX9_sack_52 : decode cX9_sack 52 = .ok (.ireturn, 1) := by decide +kernel
theorem dX9_childOf_0 : decode cX9_childOf 0 = .ok (.aload_n 0, 1) := by decide +kernel
theorem dX9_childOf_1 : decode cX9_childOf 1 = .ok (.iload_n 1, 1) := by decide +kernel
theorem dX9_childOf_2 : decode cX9_childOf 2 = .ok (.invokevirtual 131, 3) := by decide +kernel
theorem dX9_childOf_5 : decode cX9_childOf 5 = .ok (.ifCond .ne 10, 3) := by decide +kernel
theorem dX9_childOf_8 : decode cX9_childOf 8 = .ok (.aload_n 0, 1) := by decide +kernel
theorem dX9_childOf_9 : decode cX9_childOf 9 = .ok (.bipush (-5), 2) := by decide +kernel
theorem dX9_childOf_11 : decode cX9_childOf 11 = .ok (.invokevirtual 127, 3) := by decide +kernel
theorem dX9_childOf_14 : decode cX9_childOf 14 = .ok (.ireturn, 1) := by decide +kernel
theorem dX9_childOf_15 : decode cX9_childOf 15 = .ok (.aload_n 0, 1) := by decide +kernel
theorem dX9_childOf_16 : decode cX9_childOf 16 = .ok (.iload_n 1, 1) := by decide +kernel
theorem dX9_childOf_17 : decode cX9_childOf 17 = .ok (.invokevirtual 134, 3) := by decide +kernel
theorem dX9_childOf_20 : decode cX9_childOf 20 = .ok (.iload_n 2, 1) := by decide +kernel
theorem dX9_childOf_21 : decode cX9_childOf 21 = .ok (.tableswitch 108 0 8 #[51, 58, 65, 72, 79, 86, 91, 96, 101], 51) := by decide +kernel
theorem dX9_childOf_72 : decode cX9_childOf 72 = .ok (.aload_n 0, 1) := by decide +kernel
theorem dX9_childOf_73 : decode cX9_childOf 73 = .ok (.getfield 32, 3) := by decide +kernel
theorem dX9_childOf_76 : decode cX9_childOf 76 = .ok (.iload_n 1, 1) := by decide +kernel
theorem dX9_childOf_77 : decode cX9_childOf 77 = .ok (.iaload, 1) := by decide +kernel
theorem dX9_childOf_78 : decode cX9_childOf 78 = .ok (.ireturn, 1) := by decide +kernel
theorem dX9_childOf_79 : decode cX9_childOf 79 = .ok (.aload_n 0, 1) := by decide +kernel
theorem dX9_childOf_80 : decode cX9_childOf 80 = .ok (.getfield 35, 3) := by decide +kernel
theorem dX9_childOf_83 : decode cX9_childOf 83 = .ok (.iload_n 1, 1) := by decide +kernel
theorem dX9_childOf_84 : decode cX9_childOf 84 = .ok (.iaload, 1) := by decide +kernel
theorem dX9_childOf_85 : decode cX9_childOf 85 = .ok (.ireturn, 1) := by decide +kernel
theorem dX9_childOf_86 : decode cX9_childOf 86 = .ok (.aload_n 0, 1) := by decide +kernel
theorem dX9_childOf_87 : decode cX9_childOf 87 = .ok (.getfield 38, 3) := by decide +kernel
theorem dX9_childOf_90 : decode cX9_childOf 90 = .ok (.iload_n 1, 1) := by decide +kernel
theorem dX9_childOf_91 : decode cX9_childOf 91 = .ok (.iaload, 1) := by decide +kernel
theorem dX9_childOf_92 : decode cX9_childOf 92 = .ok (.ireturn, 1) := by decide +kernel
theorem dX9_childOf_93 : decode cX9_childOf 93 = .ok (.aload_n 0, 1) := by decide +kernel
theorem dX9_childOf_94 : decode cX9_childOf 94 = .ok (.getfield 41, 3) := by decide +kernel
theorem dX9_childOf_97 : decode cX9_childOf 97 = .ok (.iload_n 1, 1) := by decide +kernel
theorem dX9_childOf_98 : decode cX9_childOf 98 = .ok (.iaload, 1) := by decide +kernel
theorem dX9_childOf_99 : decode cX9_childOf 99 = .ok (.ireturn, 1) := by decide +kernel
theorem dX9_childOf_100 : decode cX9_childOf 100 = .ok (.aload_n 0, 1) := by decide +kernel
theorem dX9_childOf_101 : decode cX9_childOf 101 = .ok (.getfield 44, 3) := by decide +kernel
theorem dX9_childOf_104 : decode cX9_childOf 104 = .ok (.iload_n 1, 1) := by decide +kernel
theorem dX9_childOf_105 : decode cX9_childOf 105 = .ok (.iaload, 1) := by decide +kernel
theorem dX9_childOf_106 : decode cX9_childOf 106 = .ok (.ireturn, 1) := by decide +kernel
theorem dX9_childOf_107 : decode cX9_childOf 107 = .ok (.aload_n 0, 1) := by decide +kernel
theorem dX9_childOf_108 : decode cX9_childOf 108 = .ok (.invokevirtual 142, 3) := by decide +kernel
theorem dX9_childOf_111 : decode cX9_childOf 111 = .ok (.ireturn, 1) := by decide +kernel
theorem dX9_childOf_112 : decode cX9_childOf 112 = .ok (.aload_n 0, 1) := by decide +kernel
theorem dX9_childOf_113 : decode cX9_childOf 113 = .ok (.invokevirtual 138, 3) := by decide +kernel
theorem dX9_childOf_116 : decode cX9_childOf 116 = .ok (.ireturn, 1) := by decide +kernel
theorem dX9_childOf_117 : decode cX9_childOf 117 = .ok (.aload_n 0, 1) := by decide +kernel
theorem dX9_childOf_118 : decode cX9_childOf 118 = .ok (.invokevirtual 145, 3) := by decide +kernel
theorem dX9_childOf_121 : decode cX9_childOf 121 = .ok (.ireturn, 1) := by decide +kernel
theorem dX9_childOf_122 : decode cX9_childOf 122 = .ok (.aload_n 0, 1) := by decide +kernel
theorem dX9_childOf_123 : decode cX9_childOf 123 = .ok (.getfield 47, 3) := by decide +kernel
theorem dX9_childOf_126 : decode cX9_childOf 126 = .ok (.iload_n 1, 1) := by decide +kernel
theorem dX9_childOf_127 : decode cX9_childOf 127 = .ok (.iaload, 1) := by decide +kernel
theorem dX9_childOf_128 : decode cX9_childOf 128 = .ok (.ireturn, 1) := by decide +kernel
theorem dX9_childOf_129 : decode cX9_childOf 129 = .ok (.aload_n 0, 1) := by decide +kernel
theorem dX9_childOf_130 : decode cX9_childOf 130 = .ok (.bipush (-5), 2) := by decide +kernel
theorem dX9_childOf_132 : decode cX9_childOf 132 = .ok (.invokevirtual 127, 3) := by decide +kernel
theorem dX9_childOf_135 : decode cX9_childOf 135 = .ok (.ireturn, 1) := by decide +kernel
theorem dX9_sackOf_0 : decode cX9_sackOf 0 = .ok (.aload_n 0, 1) := by decide +kernel
theorem dX9_sackOf_1 : decode cX9_sackOf 1 = .ok (.iload_n 1, 1) := by decide +kernel
theorem dX9_sackOf_2 : decode cX9_sackOf 2 = .ok (.invokevirtual 156, 3) := by decide +kernel
theorem dX9_sackOf_5 : decode cX9_sackOf 5 = .ok (.ifCond .ne 9, 3) := by decide +kernel
theorem dX9_sackOf_8 : decode cX9_sackOf 8 = .ok (.aload_n 0, 1) := by decide +kernel
theorem dX9_sackOf_9 : decode cX9_sackOf 9 = .ok (.iconst (-1), 1) := by decide +kernel
theorem dX9_sackOf_10 : decode cX9_sackOf 10 = .ok (.invokevirtual 127, 3) := by decide +kernel
theorem dX9_sackOf_13 : decode cX9_sackOf 13 = .ok (.ireturn, 1) := by decide +kernel
theorem dX9_sackOf_14 : decode cX9_sackOf 14 = .ok (.iload_n 2, 1) := by decide +kernel
theorem dX9_sackOf_15 : decode cX9_sackOf 15 = .ok (.ifCond .ne 12, 3) := by decide +kernel
theorem dX9_sackOf_18 : decode cX9_sackOf 18 = .ok (.aload_n 0, 1) := by decide +kernel
theorem dX9_sackOf_19 : decode cX9_sackOf 19 = .ok (.getfield 50, 3) := by decide +kernel
theorem dX9_sackOf_22 : decode cX9_sackOf 22 = .ok (.iload_n 1, 1) := by decide +kernel
theorem dX9_sackOf_23 : decode cX9_sackOf 23 = .ok (.iaload, 1) := by decide +kernel
theorem dX9_sackOf_24 : decode cX9_sackOf 24 = .ok (.goto 23, 3) := by decide +kernel
theorem dX9_sackOf_27 : decode cX9_sackOf 27 = .ok (.iload_n 2, 1) := by decide +kernel
theorem dX9_sackOf_28 : decode cX9_sackOf 28 = .ok (.iconst 1, 1) := by decide +kernel
theorem dX9_sackOf_29 : decode cX9_sackOf 29 = .ok (.if_icmp .ne 12, 3) := by decide +kernel
theorem dX9_sackOf_32 : decode cX9_sackOf 32 = .ok (.aload_n 0, 1) := by decide +kernel
theorem dX9_sackOf_33 : decode cX9_sackOf 33 = .ok (.getfield 53, 3) := by decide +kernel
theorem dX9_sackOf_36 : decode cX9_sackOf 36 = .ok (.iload_n 1, 1) := by decide +kernel
theorem dX9_sackOf_37 : decode cX9_sackOf 37 = .ok (.iaload, 1) := by decide +kernel
theorem dX9_sackOf_38 : decode cX9_sackOf 38 = .ok (.goto 9, 3) := by decide +kernel
theorem dX9_sackOf_41 : decode cX9_sackOf 41 = .ok (.aload_n 0, 1) := by decide +kernel
theorem dX9_sackOf_42 : decode cX9_sackOf 42 = .ok (.bipush (-5), 2) := by decide +kernel
theorem dX9_sackOf_44 : decode cX9_sackOf 44 = .ok (.invokevirtual 127, 3) := by decide +kernel
theorem dX9_sackOf_47 : decode cX9_sackOf 47 = .ok (.ireturn, 1) := by decide +kernel
theorem dX9_wears_0 : decode cX9_wears 0 = .ok (.aload_n 0, 1) := by decide +kernel
theorem dX9_wears_1 : decode cX9_wears 1 = .ok (.iload_n 1, 1) := by decide +kernel
theorem dX9_wears_2 : decode cX9_wears 2 = .ok (.invokevirtual 131, 3) := by decide +kernel
theorem dX9_wears_5 : decode cX9_wears 5 = .ok (.ifCond .eq 11, 3) := by decide +kernel
theorem dX9_wears_8 : decode cX9_wears 8 = .ok (.aload_n 0, 1) := by decide +kernel
theorem dX9_wears_9 : decode cX9_wears 9 = .ok (.iload_n 2, 1) := by decide +kernel
theorem dX9_wears_10 : decode cX9_wears 10 = .ok (.invokevirtual 156, 3) := by decide +kernel
theorem dX9_wears_13 : decode cX9_wears 13 = .ok (.ifCond .ne 9, 3) := by decide +kernel
theorem dX9_wears_16 : decode cX9_wears 16 = .ok (.aload_n 0, 1) := by decide +kernel
theorem dX9_wears_17 : decode cX9_wears 17 = .ok (.iconst (-1), 1) := by decide +kernel
theorem dX9_wears_18 : decode cX9_wears 18 = .ok (.invokevirtual 127, 3) := by decide +kernel
theorem dX9_wears_21 : decode cX9_wears 21 = .ok (.ireturn, 1) := by decide +kernel
theorem dX9_wears_22 : decode cX9_wears 22 = .ok (.aload_n 0, 1) := by decide +kernel
theorem dX9_wears_23 : decode cX9_wears 23 = .ok (.getfield 41, 3) := by decide +kernel
theorem dX9_wears_26 : decode cX9_wears 26 = .ok (.iload_n 1, 1) := by decide +kernel
theorem dX9_wears_27 : decode cX9_wears 27 = .ok (.iaload, 1) := by decide +kernel
theorem dX9_wears_28 : decode cX9_wears 28 = .ok (.istore_n 3, 1) := by decide +kernel
theorem dX9_wears_29 : decode cX9_wears 29 = .ok (.aload_n 0, 1) := by decide +kernel
theorem dX9_wears_30 : decode cX9_wears 30 = .ok (.getfield 41, 3) := by decide +kernel
theorem dX9_wears_33 : decode cX9_wears 33 = .ok (.iload_n 1, 1) := by decide +kernel
theorem dX9_wears_34 : decode cX9_wears 34 = .ok (.iload_n 2, 1) := by decide +kernel
theorem dX9_wears_35 : decode cX9_wears 35 = .ok (.iastore, 1) := by decide +kernel
theorem dX9_wears_36 : decode cX9_wears 36 = .ok (.iload_n 3, 1) := by decide +kernel
theorem dX9_wears_37 : decode cX9_wears 37 = .ok (.ireturn, 1) := by decide +kernel
theorem dX9_ahead_0 : decode cX9_ahead 0 = .ok (.aload_n 0, 1) := by decide +kernel
theorem dX9_ahead_1 : decode cX9_ahead 1 = .ok (.iload_n 1, 1) := by decide +kernel
theorem dX9_ahead_2 : decode cX9_ahead 2 = .ok (.invokevirtual 131, 3) := by decide +kernel
theorem dX9_ahead_5 : decode cX9_ahead 5 = .ok (.ifCond .ne 9, 3) := by decide +kernel
theorem dX9_ahead_8 : decode cX9_ahead 8 = .ok (.aload_n 0, 1) := by decide +kernel
theorem dX9_ahead_9 : decode cX9_ahead 9 = .ok (.iconst (-1), 1) := by decide +kernel
theorem dX9_ahead_10 : decode cX9_ahead 10 = .ok (.invokevirtual 127, 3) := by decide +kernel
theorem dX9_ahead_13 : decode cX9_ahead 13 = .ok (.ireturn, 1) := by decide +kernel
theorem dX9_ahead_14 : decode cX9_ahead 14 = .ok (.iload_n 2, 1) := by decide +kernel
theorem dX9_ahead_15 : decode cX9_ahead 15 = .ok (.ifCond .lt 9, 3) := by decide +kernel
theorem dX9_ahead_18 : decode cX9_ahead 18 = .ok (.iload_n 2, 1) := by decide +kernel
theorem dX9_ahead_19 : decode cX9_ahead 19 = .ok (.bipush 99, 2) := by decide +kernel
theorem dX9_ahead_21 : decode cX9_ahead 21 = .ok (.if_icmp .le 10, 3) := by decide +kernel
theorem dX9_ahead_24 : decode cX9_ahead 24 = .ok (.aload_n 0, 1) := by decide +kernel
theorem dX9_ahead_25 : decode cX9_ahead 25 = .ok (.bipush (-6), 2) := by decide +kernel
theorem dX9_ahead_27 : decode cX9_ahead 27 = .ok (.invokevirtual 127, 3) := by decide +kernel
theorem dX9_ahead_30 : decode cX9_ahead 30 = .ok (.ireturn, 1) := by decide +kernel
theorem dX9_ahead_31 : decode cX9_ahead 31 = .ok (.aload_n 0, 1) := by decide +kernel
theorem dX9_ahead_32 : decode cX9_ahead 32 = .ok (.getfield 44, 3) := by decide +kernel
theorem dX9_ahead_35 : decode cX9_ahead 35 = .ok (.iload_n 1, 1) := by decide +kernel
theorem dX9_ahead_36 : decode cX9_ahead 36 = .ok (.iaload, 1) := by decide +kernel
theorem dX9_ahead_37 : decode cX9_ahead 37 = .ok (.istore_n 3, 1) := by decide +kernel
theorem dX9_ahead_38 : decode cX9_ahead 38 = .ok (.aload_n 0, 1) := by decide +kernel
theorem dX9_ahead_39 : decode cX9_ahead 39 = .ok (.getfield 44, 3) := by decide +kernel
theorem dX9_ahead_42 : decode cX9_ahead 42 = .ok (.iload_n 1, 1) := by decide +kernel
theorem dX9_ahead_43 : decode cX9_ahead 43 = .ok (.iload_n 2, 1) := by decide +kernel
theorem dX9_ahead_44 : decode cX9_ahead 44 = .ok (.iastore, 1) := by decide +kernel
theorem dX9_ahead_45 : decode cX9_ahead 45 = .ok (.iload_n 3, 1) := by decide +kernel
theorem dX9_ahead_46 : decode cX9_ahead 46 = .ok (.ireturn, 1) := by decide +kernel
theorem dX9_isAsked_0 : decode cX9_isAsked 0 = .ok (.iload_n 2, 1) := by decide +kernel
theorem dX9_isAsked_1 : decode cX9_isAsked 1 = .ok (.iload_n 1, 1) := by decide +kernel
theorem dX9_isAsked_2 : decode cX9_isAsked 2 = .ok (.iconst 2, 1) := by decide +kernel
theorem dX9_isAsked_3 : decode cX9_isAsked 3 = .ok (.if_icmp .ge 7, 3) := by decide +kernel
theorem dX9_isAsked_6 : decode cX9_isAsked 6 = .ok (.iconst 1, 1) := by decide +kernel
theorem dX9_isAsked_7 : decode cX9_isAsked 7 = .ok (.goto 4, 3) := by decide +kernel
theorem dX9_isAsked_10 : decode cX9_isAsked 10 = .ok (.iconst 0, 1) := by decide +kernel
theorem dX9_isAsked_11 : decode cX9_isAsked 11 = .ok (.if_icmp .lt 43, 3) := by decide +kernel
theorem dX9_isAsked_14 : decode cX9_isAsked 14 = .ok (.iload_n 2, 1) := by decide +kernel
theorem dX9_isAsked_15 : decode cX9_isAsked 15 = .ok (.iload_n 1, 1) := by decide +kernel
theorem dX9_isAsked_16 : decode cX9_isAsked 16 = .ok (.ifCond .ne 9, 3) := by decide +kernel
theorem dX9_isAsked_19 : decode cX9_isAsked 19 = .ok (.sipush 200, 3) := by decide +kernel
theorem dX9_isAsked_22 : decode cX9_isAsked 22 = .ok (.goto 25, 3) := by decide +kernel
theorem dX9_isAsked_25 : decode cX9_isAsked 25 = .ok (.iload_n 1, 1) := by decide +kernel
theorem dX9_isAsked_26 : decode cX9_isAsked 26 = .ok (.iconst 1, 1) := by decide +kernel
theorem dX9_isAsked_27 : decode cX9_isAsked 27 = .ok (.if_icmp .ne 8, 3) := by decide +kernel
theorem dX9_isAsked_30 : decode cX9_isAsked 30 = .ok (.bipush 20, 2) := by decide +kernel
theorem dX9_isAsked_32 : decode cX9_isAsked 32 = .ok (.goto 15, 3) := by decide +kernel
theorem dX9_isAsked_35 : decode cX9_isAsked 35 = .ok (.iload_n 1, 1) := by decide +kernel
theorem dX9_isAsked_36 : decode cX9_isAsked 36 = .ok (.iconst 2, 1) := by decide +kernel
theorem dX9_isAsked_37 : decode cX9_isAsked 37 = .ok (.if_icmp .ne 8, 3) := by decide +kernel
theorem dX9_isAsked_40 : decode cX9_isAsked 40 = .ok (.bipush 9, 2) := by decide +kernel
theorem dX9_isAsked_42 : decode cX9_isAsked 42 = .ok (.goto 5, 3) := by decide +kernel
theorem dX9_isAsked_45 : decode cX9_isAsked 45 = .ok (.bipush 60, 2) := by decide +kernel
theorem dX9_isAsked_47 : decode cX9_isAsked 47 = .ok (.if_icmp .gt 7, 3) := by decide +kernel
theorem dX9_isAsked_50 : decode cX9_isAsked 50 = .ok (.iconst 1, 1) := by decide +kernel
theorem dX9_isAsked_51 : decode cX9_isAsked 51 = .ok (.goto 4, 3) := by decide +kernel
theorem dX9_isAsked_54 : decode cX9_isAsked 54 = .ok (.iconst 0, 1) := by decide +kernel
theorem dX9_isAsked_55 : decode cX9_isAsked 55 = .ok (.ireturn, 1) := by decide +kernel
theorem dX9_told_0 : decode cX9_told 0 = .ok (.iload_n 1, 1) := by decide +kernel
theorem dX9_told_1 : decode cX9_told 1 = .ok (.ifCond .ne 10, 3) := by decide +kernel
theorem dX9_told_4 : decode cX9_told 4 = .ok (.aload_n 0, 1) := by decide +kernel
theorem dX9_told_5 : decode cX9_told 5 = .ok (.getfield 7, 3) := by decide +kernel
theorem dX9_told_8 : decode cX9_told 8 = .ok (.goto 31, 3) := by decide +kernel
theorem dX9_told_11 : decode cX9_told 11 = .ok (.iload_n 1, 1) := by decide +kernel
theorem dX9_told_12 : decode cX9_told 12 = .ok (.iconst 1, 1) := by decide +kernel
theorem dX9_told_13 : decode cX9_told 13 = .ok (.if_icmp .ne 10, 3) := by decide +kernel
theorem dX9_told_16 : decode cX9_told 16 = .ok (.aload_n 0, 1) := by decide +kernel
theorem dX9_told_17 : decode cX9_told 17 = .ok (.getfield 13, 3) := by decide +kernel
theorem dX9_told_20 : decode cX9_told 20 = .ok (.goto 19, 3) := by decide +kernel
theorem dX9_told_23 : decode cX9_told 23 = .ok (.iload_n 1, 1) := by decide +kernel
theorem dX9_told_24 : decode cX9_told 24 = .ok (.iconst 2, 1) := by decide +kernel
theorem dX9_told_25 : decode cX9_told 25 = .ok (.if_icmp .ne 10, 3) := by decide +kernel
theorem dX9_told_28 : decode cX9_told 28 = .ok (.aload_n 0, 1) := by decide +kernel
theorem dX9_told_29 : decode cX9_told 29 = .ok (.getfield 16, 3) := by decide +kernel
theorem dX9_told_32 : decode cX9_told 32 = .ok (.goto 7, 3) := by decide +kernel
theorem dX9_told_35 : decode cX9_told 35 = .ok (.aload_n 0, 1) := by decide +kernel
theorem dX9_told_36 : decode cX9_told 36 = .ok (.getfield 19, 3) := by decide +kernel
theorem dX9_told_39 : decode cX9_told 39 = .ok (.ireturn, 1) := by decide +kernel
theorem dX9_tells_0 : decode cX9_tells 0 = .ok (.iload_n 1, 1) := by decide +kernel
theorem dX9_tells_1 : decode cX9_tells 1 = .ok (.tableswitch 51 0 2 #[27, 35, 43], 27) := by decide +kernel
theorem dX9_tells_28 : decode cX9_tells 28 = .ok (.aload_n 0, 1) := by decide +kernel
theorem dX9_tells_29 : decode cX9_tells 29 = .ok (.iload_n 2, 1) := by decide +kernel
theorem dX9_tells_30 : decode cX9_tells 30 = .ok (.putfield 7, 3) := by decide +kernel
theorem dX9_tells_33 : decode cX9_tells 33 = .ok (.goto 24, 3) := by decide +kernel
theorem dX9_tells_36 : decode cX9_tells 36 = .ok (.aload_n 0, 1) := by decide +kernel
theorem dX9_tells_37 : decode cX9_tells 37 = .ok (.iload_n 2, 1) := by decide +kernel
theorem dX9_tells_38 : decode cX9_tells 38 = .ok (.putfield 13, 3) := by decide +kernel
theorem dX9_tells_41 : decode cX9_tells 41 = .ok (.goto 16, 3) := by decide +kernel
theorem dX9_tells_44 : decode cX9_tells 44 = .ok (.aload_n 0, 1) := by decide +kernel
theorem dX9_tells_45 : decode cX9_tells 45 = .ok (.iload_n 2, 1) := by decide +kernel
theorem dX9_tells_46 : decode cX9_tells 46 = .ok (.putfield 16, 3) := by decide +kernel
theorem dX9_tells_49 : decode cX9_tells 49 = .ok (.goto 8, 3) := by decide +kernel
theorem dX9_tells_52 : decode cX9_tells 52 = .ok (.aload_n 0, 1) := by decide +kernel
theorem dX9_tells_53 : decode cX9_tells 53 = .ok (.iload_n 2, 1) := by decide +kernel
theorem dX9_tells_54 : decode cX9_tells 54 = .ok (.putfield 19, 3) := by decide +kernel
theorem dX9_tells_57 : decode cX9_tells 57 = .ok (.return_, 1) := by decide +kernel
theorem dX9_ask_0 : decode cX9_ask 0 = .ok (.iload_n 1, 1) := by decide +kernel
theorem dX9_ask_1 : decode cX9_ask 1 = .ok (.ifCond .lt 17, 3) := by decide +kernel
theorem dX9_ask_4 : decode cX9_ask 4 = .ok (.iload_n 1, 1) := by decide +kernel
theorem dX9_ask_5 : decode cX9_ask 5 = .ok (.iconst 3, 1) := by decide +kernel
theorem dX9_ask_6 : decode cX9_ask 6 = .ok (.if_icmp .gt 12, 3) := by decide +kernel
theorem dX9_ask_9 : decode cX9_ask 9 = .ok (.aload_n 0, 1) := by decide +kernel
theorem dX9_ask_10 : decode cX9_ask 10 = .ok (.iload_n 1, 1) := by decide +kernel
theorem dX9_ask_11 : decode cX9_ask 11 = .ok (.iload_n 2, 1) := by decide +kernel
theorem dX9_ask_12 : decode cX9_ask 12 = .ok (.invokevirtual 159, 3) := by decide +kernel
theorem dX9_ask_15 : decode cX9_ask 15 = .ok (.ifCond .ne 10, 3) := by decide +kernel
theorem dX9_ask_18 : decode cX9_ask 18 = .ok (.aload_n 0, 1) := by decide +kernel
theorem dX9_ask_19 : decode cX9_ask 19 = .ok (.bipush (-6), 2) := by decide +kernel
theorem dX9_ask_21 : decode cX9_ask 21 = .ok (.invokevirtual 127, 3) := by decide +kernel
theorem dX9_ask_24 : decode cX9_ask 24 = .ok (.ireturn, 1) := by decide +kernel
theorem dX9_ask_25 : decode cX9_ask 25 = .ok (.aload_n 0, 1) := by decide +kernel
theorem dX9_ask_26 : decode cX9_ask 26 = .ok (.iload_n 1, 1) := by decide +kernel
theorem dX9_ask_27 : decode cX9_ask 27 = .ok (.invokevirtual 163, 3) := by decide +kernel
theorem dX9_ask_30 : decode cX9_ask 30 = .ok (.istore_n 3, 1) := by decide +kernel
theorem dX9_ask_31 : decode cX9_ask 31 = .ok (.aload_n 0, 1) := by decide +kernel
theorem dX9_ask_32 : decode cX9_ask 32 = .ok (.iload_n 1, 1) := by decide +kernel
theorem dX9_ask_33 : decode cX9_ask 33 = .ok (.iload_n 2, 1) := by decide +kernel
theorem dX9_ask_34 : decode cX9_ask 34 = .ok (.invokevirtual 166, 3) := by decide +kernel
theorem dX9_ask_37 : decode cX9_ask 37 = .ok (.iload_n 3, 1) := by decide +kernel
theorem dX9_ask_38 : decode cX9_ask 38 = .ok (.ireturn, 1) := by decide +kernel
theorem dX9_roll_0 : decode cX9_roll 0 = .ok (.aload_n 0, 1) := by decide +kernel
theorem dX9_roll_1 : decode cX9_roll 1 = .ok (.getfield 170, 3) := by decide +kernel
theorem dX9_roll_4 : decode cX9_roll 4 = .ok (.istore_n 2, 1) := by decide +kernel
theorem dX9_roll_5 : decode cX9_roll 5 = .ok (.aload_n 0, 1) := by decide +kernel
theorem dX9_roll_6 : decode cX9_roll 6 = .ok (.iload_n 1, 1) := by decide +kernel
theorem dX9_roll_7 : decode cX9_roll 7 = .ok (.ifCond .eq 7, 3) := by decide +kernel
theorem dX9_roll_10 : decode cX9_roll 10 = .ok (.iconst 1, 1) := by decide +kernel
theorem dX9_roll_11 : decode cX9_roll 11 = .ok (.goto 4, 3) := by decide +kernel
theorem dX9_roll_14 : decode cX9_roll 14 = .ok (.iconst 0, 1) := by decide +kernel
theorem dX9_roll_15 : decode cX9_roll 15 = .ok (.putfield 170, 3) := by decide +kernel
theorem dX9_roll_18 : decode cX9_roll 18 = .ok (.iload_n 2, 1) := by decide +kernel
theorem dX9_roll_19 : decode cX9_roll 19 = .ok (.ireturn, 1) := by decide +kernel
theorem dX9_wrong_0 : decode cX9_wrong 0 = .ok (.aload_n 0, 1) := by decide +kernel
theorem dX9_wrong_1 : decode cX9_wrong 1 = .ok (.iload_n 1, 1) := by decide +kernel
theorem dX9_wrong_2 : decode cX9_wrong 2 = .ok (.putfield 173, 3) := by decide +kernel
theorem dX9_wrong_5 : decode cX9_wrong 5 = .ok (.iconst 0, 1) := by decide +kernel
theorem dX9_wrong_6 : decode cX9_wrong 6 = .ok (.ireturn, 1) := by decide +kernel
theorem dX9_stands_0 : decode cX9_stands 0 = .ok (.iconst 0, 1) := by decide +kernel
theorem dX9_stands_1 : decode cX9_stands 1 = .ok (.istore_n 2, 1) := by decide +kernel
theorem dX9_stands_2 : decode cX9_stands 2 = .ok (.iconst 0, 1) := by decide +kernel
theorem dX9_stands_3 : decode cX9_stands 3 = .ok (.istore_n 3, 1) := by decide +kernel
theorem dX9_stands_4 : decode cX9_stands 4 = .ok (.iload_n 3, 1) := by decide +kernel
theorem dX9_stands_5 : decode cX9_stands 5 = .ok (.iload_n 1, 1) := by decide +kernel
theorem dX9_stands_6 : decode cX9_stands 6 = .ok (.if_icmp .ge 26, 3) := by decide +kernel
theorem dX9_stands_9 : decode cX9_stands 9 = .ok (.iload_n 3, 1) := by decide +kernel
theorem dX9_stands_10 : decode cX9_stands 10 = .ok (.aload_n 0, 1) := by decide +kernel
theorem dX9_stands_11 : decode cX9_stands 11 = .ok (.getfield 75, 3) := by decide +kernel
theorem dX9_stands_14 : decode cX9_stands 14 = .ok (.iload_n 2, 1) := by decide +kernel
theorem dX9_stands_15 : decode cX9_stands 15 = .ok (.iaload, 1) := by decide +kernel
theorem dX9_stands_16 : decode cX9_stands 16 = .ok (.ifCond .ne 7, 3) := by decide +kernel
theorem dX9_stands_19 : decode cX9_stands 19 = .ok (.iconst 1, 1) := by decide +kernel
theorem dX9_stands_20 : decode cX9_stands 20 = .ok (.goto 4, 3) := by decide +kernel
theorem dX9_stands_23 : decode cX9_stands 23 = .ok (.iconst 0, 1) := by decide +kernel
theorem dX9_stands_24 : decode cX9_stands 24 = .ok (.iadd, 1) := by decide +kernel
theorem dX9_stands_25 : decode cX9_stands 25 = .ok (.istore_n 3, 1) := by decide +kernel
theorem dX9_stands_26 : decode cX9_stands 26 = .ok (.iinc 2 1, 3) := by decide +kernel
theorem dX9_stands_29 : decode cX9_stands 29 = .ok (.goto (-25), 3) := by decide +kernel
theorem dX9_stands_32 : decode cX9_stands 32 = .ok (.aload_n 0, 1) := by decide +kernel
theorem dX9_stands_33 : decode cX9_stands 33 = .ok (.getfield 176, 3) := by decide +kernel
theorem dX9_stands_36 : decode cX9_stands 36 = .ok (.istore_n 3, 1) := by decide +kernel
theorem dX9_stands_37 : decode cX9_stands 37 = .ok (.aload_n 0, 1) := by decide +kernel
theorem dX9_stands_38 : decode cX9_stands 38 = .ok (.getfield 75, 3) := by decide +kernel
theorem dX9_stands_41 : decode cX9_stands 41 = .ok (.iload_n 2, 1) := by decide +kernel
theorem dX9_stands_42 : decode cX9_stands 42 = .ok (.iaload, 1) := by decide +kernel
theorem dX9_stands_43 : decode cX9_stands 43 = .ok (.bipush 32, 2) := by decide +kernel
theorem dX9_stands_45 : decode cX9_stands 45 = .ok (.if_icmp .le 41, 3) := by decide +kernel
theorem dX9_stands_48 : decode cX9_stands 48 = .ok (.iload_n 3, 1) := by decide +kernel
theorem dX9_stands_49 : decode cX9_stands 49 = .ok (.aload_n 0, 1) := by decide +kernel
theorem dX9_stands_50 : decode cX9_stands 50 = .ok (.getfield 179, 3) := by decide +kernel
theorem dX9_stands_53 : decode cX9_stands 53 = .ok (.if_icmp .ge 33, 3) := by decide +kernel
theorem dX9_stands_56 : decode cX9_stands 56 = .ok (.aload_n 0, 1) := by decide +kernel
theorem dX9_stands_57 : decode cX9_stands 57 = .ok (.getfield 68, 3) := by decide +kernel
theorem dX9_stands_60 : decode cX9_stands 60 = .ok (.aload_n 0, 1) := by decide +kernel
theorem dX9_stands_61 : decode cX9_stands 61 = .ok (.getfield 182, 3) := by decide +kernel
theorem dX9_stands_64 : decode cX9_stands 64 = .ok (.iload_n 3, 1) := by decide +kernel
theorem dX9_stands_65 : decode cX9_stands 65 = .ok (.iadd, 1) := by decide +kernel
theorem dX9_stands_66 : decode cX9_stands 66 = .ok (.laload, 1) := by decide +kernel
theorem dX9_stands_67 : decode cX9_stands 67 = .ok (.l2i, 1) := by decide +kernel
theorem dX9_stands_68 : decode cX9_stands 68 = .ok (.aload_n 0, 1) := by decide +kernel
theorem dX9_stands_69 : decode cX9_stands 69 = .ok (.getfield 75, 3) := by decide +kernel
theorem dX9_stands_72 : decode cX9_stands 72 = .ok (.iload_n 2, 1) := by decide +kernel
theorem dX9_stands_73 : decode cX9_stands 73 = .ok (.iaload, 1) := by decide +kernel
theorem dX9_stands_74 : decode cX9_stands 74 = .ok (.if_icmp .ne 12, 3) := by decide +kernel
theorem dX9_stands_77 : decode cX9_stands 77 = .ok (.iinc 3 1, 3) := by decide +kernel
theorem dX9_stands_80 : decode cX9_stands 80 = .ok (.iinc 2 1, 3) := by decide +kernel
theorem dX9_stands_83 : decode cX9_stands 83 = .ok (.goto (-46), 3) := by decide +kernel
theorem dX9_stands_86 : decode cX9_stands 86 = .ok (.aload_n 0, 1) := by decide +kernel
theorem dX9_stands_87 : decode cX9_stands 87 = .ok (.getfield 75, 3) := by decide +kernel
theorem dX9_stands_90 : decode cX9_stands 90 = .ok (.iload_n 2, 1) := by decide +kernel
theorem dX9_stands_91 : decode cX9_stands 91 = .ok (.iaload, 1) := by decide +kernel
theorem dX9_stands_92 : decode cX9_stands 92 = .ok (.bipush 32, 2) := by decide +kernel
theorem dX9_stands_94 : decode cX9_stands 94 = .ok (.if_icmp .gt 7, 3) := by decide +kernel
theorem dX9_stands_97 : decode cX9_stands 97 = .ok (.iconst 1, 1) := by decide +kernel
theorem dX9_stands_98 : decode cX9_stands 98 = .ok (.goto 4, 3) := by decide +kernel
theorem dX9_stands_101 : decode cX9_stands 101 = .ok (.iconst 0, 1) := by decide +kernel
theorem dX9_stands_102 : decode cX9_stands 102 = .ok (.ireturn, 1) := by decide +kernel
theorem dX9_word_0 : decode cX9_word 0 = .ok (.iconst 0, 1) := by decide +kernel
theorem dX9_word_1 : decode cX9_word 1 = .ok (.istore_n 1, 1) := by decide +kernel
theorem dX9_word_2 : decode cX9_word 2 = .ok (.aload_n 0, 1) := by decide +kernel
theorem dX9_word_3 : decode cX9_word 3 = .ok (.getfield 176, 3) := by decide +kernel
theorem dX9_word_6 : decode cX9_word 6 = .ok (.istore_n 2, 1) := by decide +kernel
theorem dX9_word_7 : decode cX9_word 7 = .ok (.iconst 0, 1) := by decide +kernel
theorem dX9_word_8 : decode cX9_word 8 = .ok (.istore_n 3, 1) := by decide +kernel
theorem dX9_word_9 : decode cX9_word 9 = .ok (.iload_n 3, 1) := by decide +kernel
theorem dX9_word_10 : decode cX9_word 10 = .ok (.bipush 8, 2) := by decide +kernel
theorem dX9_word_12 : decode cX9_word 12 = .ok (.if_icmp .ge 118, 3) := by decide +kernel
theorem dX9_word_15 : decode cX9_word 15 = .ok (.aload_n 0, 1) := by decide +kernel
theorem dX9_word_16 : decode cX9_word 16 = .ok (.getfield 176, 3) := by decide +kernel
theorem dX9_word_19 : decode cX9_word 19 = .ok (.istore 4, 2) := by decide +kernel
theorem dX9_word_21 : decode cX9_word 21 = .ok (.iload_n 1, 1) := by decide +kernel
theorem dX9_word_22 : decode cX9_word 22 = .ok (.istore 5, 2) := by decide +kernel
theorem dX9_word_24 : decode cX9_word 24 = .ok (.aload_n 0, 1) := by decide +kernel
theorem dX9_word_25 : decode cX9_word 25 = .ok (.getfield 75, 3) := by decide +kernel
theorem dX9_word_28 : decode cX9_word 28 = .ok (.iload 5, 2) := by decide +kernel
theorem dX9_word_30 : decode cX9_word 30 = .ok (.iaload, 1) := by decide +kernel
theorem dX9_word_31 : decode cX9_word 31 = .ok (.ifCond .eq 44, 3) := by decide +kernel
theorem dX9_word_34 : decode cX9_word 34 = .ok (.iload 4, 2) := by decide +kernel
theorem dX9_word_36 : decode cX9_word 36 = .ok (.aload_n 0, 1) := by decide +kernel
theorem dX9_word_37 : decode cX9_word 37 = .ok (.getfield 179, 3) := by decide +kernel
theorem dX9_word_40 : decode cX9_word 40 = .ok (.if_icmp .ge 35, 3) := by decide +kernel
theorem dX9_word_43 : decode cX9_word 43 = .ok (.aload_n 0, 1) := by decide +kernel
theorem dX9_word_44 : decode cX9_word 44 = .ok (.getfield 68, 3) := by decide +kernel
theorem dX9_word_47 : decode cX9_word 47 = .ok (.aload_n 0, 1) := by decide +kernel
theorem dX9_word_48 : decode cX9_word 48 = .ok (.getfield 182, 3) := by decide +kernel
theorem dX9_word_51 : decode cX9_word 51 = .ok (.iload 4, 2) := by decide +kernel
theorem dX9_word_53 : decode cX9_word 53 = .ok (.iadd, 1) := by decide +kernel
theorem dX9_word_54 : decode cX9_word 54 = .ok (.laload, 1) := by decide +kernel
theorem dX9_word_55 : decode cX9_word 55 = .ok (.l2i, 1) := by decide +kernel
theorem dX9_word_56 : decode cX9_word 56 = .ok (.aload_n 0, 1) := by decide +kernel
theorem dX9_word_57 : decode cX9_word 57 = .ok (.getfield 75, 3) := by decide +kernel
theorem dX9_word_60 : decode cX9_word 60 = .ok (.iload 5, 2) := by decide +kernel
theorem dX9_word_62 : decode cX9_word 62 = .ok (.iaload, 1) := by decide +kernel
theorem dX9_word_63 : decode cX9_word 63 = .ok (.if_icmp .ne 12, 3) := by decide +kernel
theorem dX9_word_66 : decode cX9_word 66 = .ok (.iinc 4 1, 3) := by decide +kernel
theorem dX9_word_69 : decode cX9_word 69 = .ok (.iinc 5 1, 3) := by decide +kernel
theorem dX9_word_72 : decode cX9_word 72 = .ok (.goto (-48), 3) := by decide +kernel
theorem dX9_word_75 : decode cX9_word 75 = .ok (.aload_n 0, 1) := by decide +kernel
theorem dX9_word_76 : decode cX9_word 76 = .ok (.getfield 75, 3) := by decide +kernel
theorem dX9_word_79 : decode cX9_word 79 = .ok (.iload 5, 2) := by decide +kernel
theorem dX9_word_81 : decode cX9_word 81 = .ok (.iaload, 1) := by decide +kernel
theorem dX9_word_82 : decode cX9_word 82 = .ok (.ifCond .ne 11, 3) := by decide +kernel
theorem dX9_word_85 : decode cX9_word 85 = .ok (.aload_n 0, 1) := by decide +kernel
theorem dX9_word_86 : decode cX9_word 86 = .ok (.iload 4, 2) := by decide +kernel
theorem dX9_word_88 : decode cX9_word 88 = .ok (.putfield 176, 3) := by decide +kernel
theorem dX9_word_91 : decode cX9_word 91 = .ok (.iload_n 3, 1) := by decide +kernel
theorem dX9_word_92 : decode cX9_word 92 = .ok (.ireturn, 1) := by decide +kernel
theorem dX9_word_93 : decode cX9_word 93 = .ok (.iload 4, 2) := by decide +kernel
theorem dX9_word_95 : decode cX9_word 95 = .ok (.iload_n 2, 1) := by decide +kernel
theorem dX9_word_96 : decode cX9_word 96 = .ok (.if_icmp .le 8, 3) := by decide +kernel
theorem dX9_word_99 : decode cX9_word 99 = .ok (.iload 4, 2) := by decide +kernel
theorem dX9_word_101 : decode cX9_word 101 = .ok (.goto 4, 3) := by decide +kernel
theorem dX9_word_104 : decode cX9_word 104 = .ok (.iload_n 2, 1) := by decide +kernel
theorem dX9_word_105 : decode cX9_word 105 = .ok (.istore_n 2, 1) := by decide +kernel
theorem dX9_word_106 : decode cX9_word 106 = .ok (.aload_n 0, 1) := by decide +kernel
theorem dX9_word_107 : decode cX9_word 107 = .ok (.getfield 75, 3) := by decide +kernel
theorem dX9_word_110 : decode cX9_word 110 = .ok (.iload_n 1, 1) := by decide +kernel
theorem dX9_word_111 : decode cX9_word 111 = .ok (.iaload, 1) := by decide +kernel
theorem dX9_word_112 : decode cX9_word 112 = .ok (.ifCond .eq 9, 3) := by decide +kernel
theorem dX9_word_115 : decode cX9_word 115 = .ok (.iinc 1 1, 3) := by decide +kernel
theorem dX9_word_118 : decode cX9_word 118 = .ok (.goto (-12), 3) := by decide +kernel
theorem dX9_word_121 : decode cX9_word 121 = .ok (.iinc 1 1, 3) := by decide +kernel
theorem dX9_word_124 : decode cX9_word 124 = .ok (.iinc 3 1, 3) := by decide +kernel
theorem dX9_word_127 : decode cX9_word 127 = .ok (.goto (-118), 3) := by decide +kernel
theorem dX9_word_130 : decode cX9_word 130 = .ok (.aload_n 0, 1) := by decide +kernel
theorem dX9_word_131 : decode cX9_word 131 = .ok (.iload_n 2, 1) := by decide +kernel
theorem dX9_word_132 : decode cX9_word 132 = .ok (.putfield 173, 3) := by decide +kernel
theorem dX9_word_135 : decode cX9_word 135 = .ok (.iconst (-1), 1) := by decide +kernel
theorem dX9_word_136 : decode cX9_word 136 = .ok (.ireturn, 1) := by decide +kernel
theorem dX9_isDigit_0 : decode cX9_isDigit 0 = .ok (.aload_n 0, 1) := by decide +kernel
theorem dX9_isDigit_1 : decode cX9_isDigit 1 = .ok (.getfield 176, 3) := by decide +kernel
theorem dX9_isDigit_4 : decode cX9_isDigit 4 = .ok (.aload_n 0, 1) := by decide +kernel
theorem dX9_isDigit_5 : decode cX9_isDigit 5 = .ok (.getfield 179, 3) := by decide +kernel
theorem dX9_isDigit_8 : decode cX9_isDigit 8 = .ok (.if_icmp .ge 47, 3) := by decide +kernel
theorem dX9_isDigit_11 : decode cX9_isDigit 11 = .ok (.aload_n 0, 1) := by decide +kernel
theorem dX9_isDigit_12 : decode cX9_isDigit 12 = .ok (.getfield 68, 3) := by decide +kernel
theorem dX9_isDigit_15 : decode cX9_isDigit 15 = .ok (.aload_n 0, 1) := by decide +kernel
theorem dX9_isDigit_16 : decode cX9_isDigit 16 = .ok (.getfield 182, 3) := by decide +kernel
theorem dX9_isDigit_19 : decode cX9_isDigit 19 = .ok (.aload_n 0, 1) := by decide +kernel
theorem dX9_isDigit_20 : decode cX9_isDigit 20 = .ok (.getfield 176, 3) := by decide +kernel
theorem dX9_isDigit_23 : decode cX9_isDigit 23 = .ok (.iadd, 1) := by decide +kernel
theorem dX9_isDigit_24 : decode cX9_isDigit 24 = .ok (.laload, 1) := by decide +kernel
theorem dX9_isDigit_25 : decode cX9_isDigit 25 = .ok (.l2i, 1) := by decide +kernel
theorem dX9_isDigit_26 : decode cX9_isDigit 26 = .ok (.bipush 48, 2) := by decide +kernel
theorem dX9_isDigit_28 : decode cX9_isDigit 28 = .ok (.if_icmp .lt 27, 3) := by decide +kernel
theorem dX9_isDigit_31 : decode cX9_isDigit 31 = .ok (.aload_n 0, 1) := by decide +kernel
theorem dX9_isDigit_32 : decode cX9_isDigit 32 = .ok (.getfield 68, 3) := by decide +kernel
theorem dX9_isDigit_35 : decode cX9_isDigit 35 = .ok (.aload_n 0, 1) := by decide +kernel
theorem dX9_isDigit_36 : decode cX9_isDigit 36 = .ok (.getfield 182, 3) := by decide +kernel
theorem dX9_isDigit_39 : decode cX9_isDigit 39 = .ok (.aload_n 0, 1) := by decide +kernel
theorem dX9_isDigit_40 : decode cX9_isDigit 40 = .ok (.getfield 176, 3) := by decide +kernel
theorem dX9_isDigit_43 : decode cX9_isDigit 43 = .ok (.iadd, 1) := by decide +kernel
theorem dX9_isDigit_44 : decode cX9_isDigit 44 = .ok (.laload, 1) := by decide +kernel
theorem dX9_isDigit_45 : decode cX9_isDigit 45 = .ok (.l2i, 1) := by decide +kernel
theorem dX9_isDigit_46 : decode cX9_isDigit 46 = .ok (.bipush 57, 2) := by decide +kernel
theorem dX9_isDigit_48 : decode cX9_isDigit 48 = .ok (.if_icmp .gt 7, 3) := by decide +kernel
theorem dX9_isDigit_51 : decode cX9_isDigit 51 = .ok (.iconst 1, 1) := by decide +kernel
theorem dX9_isDigit_52 : decode cX9_isDigit 52 = .ok (.goto 4, 3) := by decide +kernel
theorem dX9_isDigit_55 : decode cX9_isDigit 55 = .ok (.iconst 0, 1) := by decide +kernel
theorem dX9_isDigit_56 : decode cX9_isDigit 56 = .ok (.ireturn, 1) := by decide +kernel
theorem dX9_reads_0 : decode cX9_reads 0 = .ok (.aload_n 0, 1) := by decide +kernel
theorem dX9_reads_1 : decode cX9_reads 1 = .ok (.iconst 0, 1) := by decide +kernel
theorem dX9_reads_2 : decode cX9_reads 2 = .ok (.putfield 185, 3) := by decide +kernel
theorem dX9_reads_5 : decode cX9_reads 5 = .ok (.aload_n 0, 1) := by decide +kernel
theorem dX9_reads_6 : decode cX9_reads 6 = .ok (.invokevirtual 188, 3) := by decide +kernel
theorem dX9_reads_9 : decode cX9_reads 9 = .ok (.ifCond .ne 12, 3) := by decide +kernel
theorem dX9_reads_12 : decode cX9_reads 12 = .ok (.aload_n 0, 1) := by decide +kernel
theorem dX9_reads_13 : decode cX9_reads 13 = .ok (.aload_n 0, 1) := by decide +kernel
theorem dX9_reads_14 : decode cX9_reads 14 = .ok (.getfield 176, 3) := by decide +kernel
theorem dX9_reads_17 : decode cX9_reads 17 = .ok (.invokevirtual 192, 3) := by decide +kernel
theorem dX9_reads_20 : decode cX9_reads 20 = .ok (.ireturn, 1) := by decide +kernel
theorem dX9_reads_21 : decode cX9_reads 21 = .ok (.iconst 0, 1) := by decide +kernel
theorem dX9_reads_22 : decode cX9_reads 22 = .ok (.istore_n 1, 1) := by decide +kernel
theorem dX9_reads_23 : decode cX9_reads 23 = .ok (.iload_n 1, 1) := by decide +kernel
theorem dX9_reads_24 : decode cX9_reads 24 = .ok (.iconst 3, 1) := by decide +kernel
theorem dX9_reads_25 : decode cX9_reads 25 = .ok (.if_icmp .ge 56, 3) := by decide +kernel
theorem dX9_reads_28 : decode cX9_reads 28 = .ok (.aload_n 0, 1) := by decide +kernel
theorem dX9_reads_29 : decode cX9_reads 29 = .ok (.invokevirtual 188, 3) := by decide +kernel
theorem dX9_reads_32 : decode cX9_reads 32 = .ok (.ifCond .eq 49, 3) := by decide +kernel
theorem dX9_reads_35 : decode cX9_reads 35 = .ok (.aload_n 0, 1) := by decide +kernel
theorem dX9_reads_36 : decode cX9_reads 36 = .ok (.bipush 10, 2) := by decide +kernel
theorem dX9_reads_38 : decode cX9_reads 38 = .ok (.aload_n 0, 1) := by decide +kernel
theorem dX9_reads_39 : decode cX9_reads 39 = .ok (.getfield 185, 3) := by decide +kernel
theorem dX9_reads_42 : decode cX9_reads 42 = .ok (.imul, 1) := by decide +kernel
theorem dX9_reads_43 : decode cX9_reads 43 = .ok (.aload_n 0, 1) := by decide +kernel
theorem dX9_reads_44 : decode cX9_reads 44 = .ok (.getfield 68, 3) := by decide +kernel
theorem dX9_reads_47 : decode cX9_reads 47 = .ok (.aload_n 0, 1) := by decide +kernel
theorem dX9_reads_48 : decode cX9_reads 48 = .ok (.getfield 182, 3) := by decide +kernel
theorem dX9_reads_51 : decode cX9_reads 51 = .ok (.aload_n 0, 1) := by decide +kernel
theorem dX9_reads_52 : decode cX9_reads 52 = .ok (.getfield 176, 3) := by decide +kernel
theorem dX9_reads_55 : decode cX9_reads 55 = .ok (.iadd, 1) := by decide +kernel
theorem dX9_reads_56 : decode cX9_reads 56 = .ok (.laload, 1) := by decide +kernel
theorem dX9_reads_57 : decode cX9_reads 57 = .ok (.l2i, 1) := by decide +kernel
theorem dX9_reads_58 : decode cX9_reads 58 = .ok (.iadd, 1) := by decide +kernel
theorem dX9_reads_59 : decode cX9_reads 59 = .ok (.bipush 48, 2) := by decide +kernel
theorem dX9_reads_61 : decode cX9_reads 61 = .ok (.isub, 1) := by decide +kernel
theorem dX9_reads_62 : decode cX9_reads 62 = .ok (.putfield 185, 3) := by decide +kernel
theorem dX9_reads_65 : decode cX9_reads 65 = .ok (.aload_n 0, 1) := by decide +kernel
theorem dX9_reads_66 : decode cX9_reads 66 = .ok (.dup, 1) := by decide +kernel
theorem dX9_reads_67 : decode cX9_reads 67 = .ok (.getfield 176, 3) := by decide +kernel
theorem dX9_reads_70 : decode cX9_reads 70 = .ok (.iconst 1, 1) := by decide +kernel
theorem dX9_reads_71 : decode cX9_reads 71 = .ok (.iadd, 1) := by decide +kernel
theorem dX9_reads_72 : decode cX9_reads 72 = .ok (.putfield 176, 3) := by decide +kernel
theorem dX9_reads_75 : decode cX9_reads 75 = .ok (.iinc 1 1, 3) := by decide +kernel
theorem dX9_reads_78 : decode cX9_reads 78 = .ok (.goto (-55), 3) := by decide +kernel
theorem dX9_reads_81 : decode cX9_reads 81 = .ok (.iconst 1, 1) := by decide +kernel
theorem dX9_reads_82 : decode cX9_reads 82 = .ok (.ireturn, 1) := by decide +kernel
theorem dX9_isSo_0 : decode cX9_isSo 0 = .ok (.iload_n 1, 1) := by decide +kernel
theorem dX9_isSo_1 : decode cX9_isSo 1 = .ok (.tableswitch 191 0 3 #[31, 97, 125, 153], 31) := by decide +kernel
theorem dX9_isSo_32 : decode cX9_isSo 32 = .ok (.iload_n 2, 1) := by decide +kernel
theorem dX9_isSo_33 : decode cX9_isSo 33 = .ok (.ifCond .ne 20, 3) := by decide +kernel
theorem dX9_isSo_36 : decode cX9_isSo 36 = .ok (.aload_n 0, 1) := by decide +kernel
theorem dX9_isSo_37 : decode cX9_isSo 37 = .ok (.getfield 185, 3) := by decide +kernel
theorem dX9_isSo_40 : decode cX9_isSo 40 = .ok (.bipush 6, 2) := by decide +kernel
theorem dX9_isSo_42 : decode cX9_isSo 42 = .ok (.if_icmp .gt 7, 3) := by decide +kernel
theorem dX9_isSo_45 : decode cX9_isSo 45 = .ok (.iconst 1, 1) := by decide +kernel
theorem dX9_isSo_46 : decode cX9_isSo 46 = .ok (.goto 51, 3) := by decide +kernel
theorem dX9_isSo_49 : decode cX9_isSo 49 = .ok (.iconst 0, 1) := by decide +kernel
theorem dX9_isSo_50 : decode cX9_isSo 50 = .ok (.goto 47, 3) := by decide +kernel
theorem dX9_isSo_53 : decode cX9_isSo 53 = .ok (.iload_n 2, 1) := by decide +kernel
theorem dX9_isSo_54 : decode cX9_isSo 54 = .ok (.iconst 1, 1) := by decide +kernel
theorem dX9_isSo_55 : decode cX9_isSo 55 = .ok (.if_icmp .ne 20, 3) := by decide +kernel
theorem dX9_isSo_58 : decode cX9_isSo 58 = .ok (.aload_n 0, 1) := by decide +kernel
theorem dX9_isSo_59 : decode cX9_isSo 59 = .ok (.getfield 185, 3) := by decide +kernel
theorem dX9_isSo_62 : decode cX9_isSo 62 = .ok (.bipush 9, 2) := by decide +kernel
theorem dX9_isSo_64 : decode cX9_isSo 64 = .ok (.if_icmp .gt 7, 3) := by decide +kernel
theorem dX9_isSo_67 : decode cX9_isSo 67 = .ok (.iconst 1, 1) := by decide +kernel
theorem dX9_isSo_68 : decode cX9_isSo 68 = .ok (.goto 29, 3) := by decide +kernel
theorem dX9_isSo_71 : decode cX9_isSo 71 = .ok (.iconst 0, 1) := by decide +kernel
theorem dX9_isSo_72 : decode cX9_isSo 72 = .ok (.goto 25, 3) := by decide +kernel
theorem dX9_isSo_75 : decode cX9_isSo 75 = .ok (.aload_n 0, 1) := by decide +kernel
theorem dX9_isSo_76 : decode cX9_isSo 76 = .ok (.getfield 185, 3) := by decide +kernel
theorem dX9_isSo_79 : decode cX9_isSo 79 = .ok (.iconst 1, 1) := by decide +kernel
theorem dX9_isSo_80 : decode cX9_isSo 80 = .ok (.if_icmp .lt 16, 3) := by decide +kernel
theorem dX9_isSo_83 : decode cX9_isSo 83 = .ok (.aload_n 0, 1) := by decide +kernel
theorem dX9_isSo_84 : decode cX9_isSo 84 = .ok (.getfield 185, 3) := by decide +kernel
theorem dX9_isSo_87 : decode cX9_isSo 87 = .ok (.bipush 9, 2) := by decide +kernel
theorem dX9_isSo_89 : decode cX9_isSo 89 = .ok (.if_icmp .gt 7, 3) := by decide +kernel
theorem dX9_isSo_92 : decode cX9_isSo 92 = .ok (.iconst 1, 1) := by decide +kernel
theorem dX9_isSo_93 : decode cX9_isSo 93 = .ok (.goto 4, 3) := by decide +kernel
theorem dX9_isSo_96 : decode cX9_isSo 96 = .ok (.iconst 0, 1) := by decide +kernel
theorem dX9_isSo_97 : decode cX9_isSo 97 = .ok (.ireturn, 1) := by decide +kernel
theorem dX9_isSo_98 : decode cX9_isSo 98 = .ok (.aload_n 0, 1) := by decide +kernel
theorem dX9_isSo_99 : decode cX9_isSo 99 = .ok (.getfield 185, 3) := by decide +kernel
theorem dX9_isSo_102 : decode cX9_isSo 102 = .ok (.bipush 9, 2) := by decide +kernel
theorem dX9_isSo_104 : decode cX9_isSo 104 = .ok (.if_icmp .gt 20, 3) := by decide +kernel
theorem dX9_isSo_107 : decode cX9_isSo 107 = .ok (.iload_n 2, 1) := by decide +kernel
theorem dX9_isSo_108 : decode cX9_isSo 108 = .ok (.iconst 1, 1) := by decide +kernel
theorem dX9_isSo_109 : decode cX9_isSo 109 = .ok (.if_icmp .eq 11, 3) := by decide +kernel
theorem dX9_isSo_112 : decode cX9_isSo 112 = .ok (.aload_n 0, 1) := by decide +kernel
theorem dX9_isSo_113 : decode cX9_isSo 113 = .ok (.getfield 185, 3) := by decide +kernel
theorem dX9_isSo_116 : decode cX9_isSo 116 = .ok (.iconst 1, 1) := by decide +kernel
theorem dX9_isSo_117 : decode cX9_isSo 117 = .ok (.if_icmp .lt 7, 3) := by decide +kernel
theorem dX9_isSo_120 : decode cX9_isSo 120 = .ok (.iconst 1, 1) := by decide +kernel
theorem dX9_isSo_121 : decode cX9_isSo 121 = .ok (.goto 4, 3) := by decide +kernel
theorem dX9_isSo_124 : decode cX9_isSo 124 = .ok (.iconst 0, 1) := by decide +kernel
theorem dX9_isSo_125 : decode cX9_isSo 125 = .ok (.ireturn, 1) := by decide +kernel
theorem dX9_isSo_126 : decode cX9_isSo 126 = .ok (.aload_n 0, 1) := by decide +kernel
theorem dX9_isSo_127 : decode cX9_isSo 127 = .ok (.getfield 185, 3) := by decide +kernel
theorem dX9_isSo_130 : decode cX9_isSo 130 = .ok (.iload_n 2, 1) := by decide +kernel
theorem dX9_isSo_131 : decode cX9_isSo 131 = .ok (.ifCond .ne 10, 3) := by decide +kernel
theorem dX9_isSo_134 : decode cX9_isSo 134 = .ok (.aload_n 0, 1) := by decide +kernel
theorem dX9_isSo_135 : decode cX9_isSo 135 = .ok (.getfield 117, 3) := by decide +kernel
theorem dX9_isSo_138 : decode cX9_isSo 138 = .ok (.goto 7, 3) := by decide +kernel
theorem dX9_isSo_141 : decode cX9_isSo 141 = .ok (.aload_n 0, 1) := by decide +kernel
theorem dX9_isSo_142 : decode cX9_isSo 142 = .ok (.getfield 120, 3) := by decide +kernel
theorem dX9_isSo_145 : decode cX9_isSo 145 = .ok (.if_icmp .ge 7, 3) := by decide +kernel
theorem dX9_isSo_148 : decode cX9_isSo 148 = .ok (.iconst 1, 1) := by decide +kernel
theorem dX9_isSo_149 : decode cX9_isSo 149 = .ok (.goto 4, 3) := by decide +kernel
theorem dX9_isSo_152 : decode cX9_isSo 152 = .ok (.iconst 0, 1) := by decide +kernel
theorem dX9_isSo_153 : decode cX9_isSo 153 = .ok (.ireturn, 1) := by decide +kernel
theorem dX9_isSo_154 : decode cX9_isSo 154 = .ok (.iload_n 2, 1) := by decide +kernel
theorem dX9_isSo_155 : decode cX9_isSo 155 = .ok (.ifCond .ne 22, 3) := by decide +kernel
theorem dX9_isSo_158 : decode cX9_isSo 158 = .ok (.aload_n 0, 1) := by decide +kernel
theorem dX9_isSo_159 : decode cX9_isSo 159 = .ok (.getfield 185, 3) := by decide +kernel
theorem dX9_isSo_162 : decode cX9_isSo 162 = .ok (.aload_n 0, 1) := by decide +kernel
theorem dX9_isSo_163 : decode cX9_isSo 163 = .ok (.getfield 117, 3) := by decide +kernel
theorem dX9_isSo_166 : decode cX9_isSo 166 = .ok (.if_icmp .ge 7, 3) := by decide +kernel
theorem dX9_isSo_169 : decode cX9_isSo 169 = .ok (.iconst 1, 1) := by decide +kernel
theorem dX9_isSo_170 : decode cX9_isSo 170 = .ok (.goto 21, 3) := by decide +kernel
theorem dX9_isSo_173 : decode cX9_isSo 173 = .ok (.iconst 0, 1) := by decide +kernel
theorem dX9_isSo_174 : decode cX9_isSo 174 = .ok (.goto 17, 3) := by decide +kernel
theorem dX9_isSo_177 : decode cX9_isSo 177 = .ok (.aload_n 0, 1) := by decide +kernel
theorem dX9_isSo_178 : decode cX9_isSo 178 = .ok (.getfield 185, 3) := by decide +kernel
theorem dX9_isSo_181 : decode cX9_isSo 181 = .ok (.bipush 99, 2) := by decide +kernel
theorem dX9_isSo_183 : decode cX9_isSo 183 = .ok (.if_icmp .gt 7, 3) := by decide +kernel
theorem dX9_isSo_186 : decode cX9_isSo 186 = .ok (.iconst 1, 1) := by decide +kernel
theorem dX9_isSo_187 : decode cX9_isSo 187 = .ok (.goto 4, 3) := by decide +kernel
theorem dX9_isSo_190 : decode cX9_isSo 190 = .ok (.iconst 0, 1) := by decide +kernel
theorem dX9_isSo_191 : decode cX9_isSo 191 = .ok (.ireturn, 1) := by decide +kernel
theorem dX9_isSo_192 : decode cX9_isSo 192 = .ok (.aload_n 0, 1) := by decide +kernel
theorem dX9_isSo_193 : decode cX9_isSo 193 = .ok (.iload_n 1, 1) := by decide +kernel
theorem dX9_isSo_194 : decode cX9_isSo 194 = .ok (.iconst 4, 1) := by decide +kernel
theorem dX9_isSo_195 : decode cX9_isSo 195 = .ok (.isub, 1) := by decide +kernel
theorem dX9_isSo_196 : decode cX9_isSo 196 = .ok (.aload_n 0, 1) := by decide +kernel
theorem dX9_isSo_197 : decode cX9_isSo 197 = .ok (.getfield 185, 3) := by decide +kernel
theorem dX9_isSo_200 : decode cX9_isSo 200 = .ok (.invokevirtual 159, 3) := by decide +kernel
theorem dX9_isSo_203 : decode cX9_isSo 203 = .ok (.ireturn, 1) := by decide +kernel
theorem dX9_item_0 : decode cX9_item 0 = .ok (.aload_n 0, 1) := by decide +kernel
theorem dX9_item_1 : decode cX9_item 1 = .ok (.iconst 0, 1) := by decide +kernel
theorem dX9_item_2 : decode cX9_item 2 = .ok (.invokevirtual 195, 3) := by decide +kernel
theorem dX9_item_5 : decode cX9_item 5 = .ok (.ifCond .eq 12, 3) := by decide +kernel
theorem dX9_item_8 : decode cX9_item 8 = .ok (.aload_n 0, 1) := by decide +kernel
theorem dX9_item_9 : decode cX9_item 9 = .ok (.getfield 117, 3) := by decide +kernel
theorem dX9_item_12 : decode cX9_item 12 = .ok (.bipush 8, 2) := by decide +kernel
theorem dX9_item_14 : decode cX9_item 14 = .ok (.if_icmp .eq 20, 3) := by decide +kernel
theorem dX9_item_17 : decode cX9_item 17 = .ok (.aload_n 0, 1) := by decide +kernel
theorem dX9_item_18 : decode cX9_item 18 = .ok (.iconst 1, 1) := by decide +kernel
theorem dX9_item_19 : decode cX9_item 19 = .ok (.invokevirtual 195, 3) := by decide +kernel
theorem dX9_item_22 : decode cX9_item 22 = .ok (.ifCond .eq 21, 3) := by decide +kernel
theorem dX9_item_25 : decode cX9_item 25 = .ok (.aload_n 0, 1) := by decide +kernel
theorem dX9_item_26 : decode cX9_item 26 = .ok (.getfield 120, 3) := by decide +kernel
theorem dX9_item_29 : decode cX9_item 29 = .ok (.bipush 8, 2) := by decide +kernel
theorem dX9_item_31 : decode cX9_item 31 = .ok (.if_icmp .ne 12, 3) := by decide +kernel
theorem dX9_item_34 : decode cX9_item 34 = .ok (.aload_n 0, 1) := by decide +kernel
theorem dX9_item_35 : decode cX9_item 35 = .ok (.aload_n 0, 1) := by decide +kernel
theorem dX9_item_36 : decode cX9_item 36 = .ok (.getfield 176, 3) := by decide +kernel
theorem dX9_item_39 : decode cX9_item 39 = .ok (.invokevirtual 192, 3) := by decide +kernel
theorem dX9_item_42 : decode cX9_item 42 = .ok (.ireturn, 1) := by decide +kernel
theorem dX9_item_43 : decode cX9_item 43 = .ok (.aload_n 0, 1) := by decide +kernel
theorem dX9_item_44 : decode cX9_item 44 = .ok (.invokevirtual 198, 3) := by decide +kernel
theorem dX9_item_47 : decode cX9_item 47 = .ok (.istore_n 1, 1) := by decide +kernel
theorem dX9_item_48 : decode cX9_item 48 = .ok (.iload_n 1, 1) := by decide +kernel
theorem dX9_item_49 : decode cX9_item 49 = .ok (.iconst (-1), 1) := by decide +kernel
theorem dX9_item_50 : decode cX9_item 50 = .ok (.if_icmp .ne 5, 3) := by decide +kernel
theorem dX9_item_53 : decode cX9_item 53 = .ok (.iconst 0, 1) := by decide +kernel
theorem dX9_item_54 : decode cX9_item 54 = .ok (.ireturn, 1) := by decide +kernel
theorem dX9_item_55 : decode cX9_item 55 = .ok (.iconst 0, 1) := by decide +kernel
theorem dX9_item_56 : decode cX9_item 56 = .ok (.istore_n 2, 1) := by decide +kernel
theorem dX9_item_57 : decode cX9_item 57 = .ok (.iload_n 2, 1) := by decide +kernel
theorem dX9_item_58 : decode cX9_item 58 = .ok (.aload_n 0, 1) := by decide +kernel
theorem dX9_item_59 : decode cX9_item 59 = .ok (.getfield 78, 3) := by decide +kernel
theorem dX9_item_62 : decode cX9_item 62 = .ok (.iload_n 1, 1) := by decide +kernel
theorem dX9_item_63 : decode cX9_item 63 = .ok (.iaload, 1) := by decide +kernel
theorem dX9_item_64 : decode cX9_item 64 = .ok (.if_icmp .ge 102, 3) := by decide +kernel
theorem dX9_item_67 : decode cX9_item 67 = .ok (.iload_n 2, 1) := by decide +kernel
theorem dX9_item_68 : decode cX9_item 68 = .ok (.ifCond .le 53, 3) := by decide +kernel
theorem dX9_item_71 : decode cX9_item 71 = .ok (.aload_n 0, 1) := by decide +kernel
theorem dX9_item_72 : decode cX9_item 72 = .ok (.getfield 176, 3) := by decide +kernel
theorem dX9_item_75 : decode cX9_item 75 = .ok (.aload_n 0, 1) := by decide +kernel
theorem dX9_item_76 : decode cX9_item 76 = .ok (.getfield 179, 3) := by decide +kernel
theorem dX9_item_79 : decode cX9_item 79 = .ok (.if_icmp .ge 23, 3) := by decide +kernel
theorem dX9_item_82 : decode cX9_item 82 = .ok (.aload_n 0, 1) := by decide +kernel
theorem dX9_item_83 : decode cX9_item 83 = .ok (.getfield 68, 3) := by decide +kernel
theorem dX9_item_86 : decode cX9_item 86 = .ok (.aload_n 0, 1) := by decide +kernel
theorem dX9_item_87 : decode cX9_item 87 = .ok (.getfield 182, 3) := by decide +kernel
theorem dX9_item_90 : decode cX9_item 90 = .ok (.aload_n 0, 1) := by decide +kernel
theorem dX9_item_91 : decode cX9_item 91 = .ok (.getfield 176, 3) := by decide +kernel
theorem dX9_item_94 : decode cX9_item 94 = .ok (.iadd, 1) := by decide +kernel
theorem dX9_item_95 : decode cX9_item 95 = .ok (.laload, 1) := by decide +kernel
theorem dX9_item_96 : decode cX9_item 96 = .ok (.l2i, 1) := by decide +kernel
theorem dX9_item_97 : decode cX9_item 97 = .ok (.bipush 32, 2) := by decide +kernel
theorem dX9_item_99 : decode cX9_item 99 = .ok (.if_icmp .eq 12, 3) := by decide +kernel
theorem dX9_item_102 : decode cX9_item 102 = .ok (.aload_n 0, 1) := by decide +kernel
theorem dX9_item_103 : decode cX9_item 103 = .ok (.aload_n 0, 1) := by decide +kernel
theorem dX9_item_104 : decode cX9_item 104 = .ok (.getfield 176, 3) := by decide +kernel
theorem dX9_item_107 : decode cX9_item 107 = .ok (.invokevirtual 192, 3) := by decide +kernel
theorem dX9_item_110 : decode cX9_item 110 = .ok (.ireturn, 1) := by decide +kernel
theorem dX9_item_111 : decode cX9_item 111 = .ok (.aload_n 0, 1) := by decide +kernel
theorem dX9_item_112 : decode cX9_item 112 = .ok (.dup, 1) := by decide +kernel
theorem dX9_item_113 : decode cX9_item 113 = .ok (.getfield 176, 3) := by decide +kernel
theorem dX9_item_116 : decode cX9_item 116 = .ok (.iconst 1, 1) := by decide +kernel
theorem dX9_item_117 : decode cX9_item 117 = .ok (.iadd, 1) := by decide +kernel
theorem dX9_item_118 : decode cX9_item 118 = .ok (.putfield 176, 3) := by decide +kernel
theorem dX9_item_121 : decode cX9_item 121 = .ok (.aload_n 0, 1) := by decide +kernel
theorem dX9_item_122 : decode cX9_item 122 = .ok (.getfield 176, 3) := by decide +kernel
theorem dX9_item_125 : decode cX9_item 125 = .ok (.istore_n 3, 1) := by decide +kernel
theorem dX9_item_126 : decode cX9_item 126 = .ok (.aload_n 0, 1) := by decide +kernel
theorem dX9_item_127 : decode cX9_item 127 = .ok (.invokevirtual 201, 3) := by decide +kernel
theorem dX9_item_130 : decode cX9_item 130 = .ok (.ifCond .ne 5, 3) := by decide +kernel
theorem dX9_item_133 : decode cX9_item 133 = .ok (.iconst 0, 1) := by decide +kernel
theorem dX9_item_134 : decode cX9_item 134 = .ok (.ireturn, 1) := by decide +kernel
theorem dX9_item_135 : decode cX9_item 135 = .ok (.aload_n 0, 1) := by decide +kernel
theorem dX9_item_136 : decode cX9_item 136 = .ok (.iload_n 1, 1) := by decide +kernel
theorem dX9_item_137 : decode cX9_item 137 = .ok (.iload_n 2, 1) := by decide +kernel
theorem dX9_item_138 : decode cX9_item 138 = .ok (.invokevirtual 204, 3) := by decide +kernel
theorem dX9_item_141 : decode cX9_item 141 = .ok (.ifCond .ne 9, 3) := by decide +kernel
theorem dX9_item_144 : decode cX9_item 144 = .ok (.aload_n 0, 1) := by decide +kernel
theorem dX9_item_145 : decode cX9_item 145 = .ok (.iload_n 3, 1) := by decide +kernel
theorem dX9_item_146 : decode cX9_item 146 = .ok (.invokevirtual 192, 3) := by decide +kernel
theorem dX9_item_149 : decode cX9_item 149 = .ok (.ireturn, 1) := by decide +kernel
theorem dX9_item_150 : decode cX9_item 150 = .ok (.aload_n 0, 1) := by decide +kernel
theorem dX9_item_151 : decode cX9_item 151 = .ok (.getfield 81, 3) := by decide +kernel
theorem dX9_item_154 : decode cX9_item 154 = .ok (.iload_n 2, 1) := by decide +kernel
theorem dX9_item_155 : decode cX9_item 155 = .ok (.aload_n 0, 1) := by decide +kernel
theorem dX9_item_156 : decode cX9_item 156 = .ok (.getfield 185, 3) := by decide +kernel
theorem dX9_item_159 : decode cX9_item 159 = .ok (.iastore, 1) := by decide +kernel
theorem dX9_item_160 : decode cX9_item 160 = .ok (.iinc 2 1, 3) := by decide +kernel
theorem dX9_item_163 : decode cX9_item 163 = .ok (.goto (-106), 3) := by decide +kernel
theorem dX9_item_166 : decode cX9_item 166 = .ok (.iload_n 1, 1) := by decide +kernel
theorem dX9_item_167 : decode cX9_item 167 = .ok (.tableswitch 115 0 3 #[29, 55, 75, 95], 29) := by decide +kernel
theorem dX9_item_196 : decode cX9_item 196 = .ok (.aload_n 0, 1) := by decide +kernel
theorem dX9_item_197 : decode cX9_item 197 = .ok (.aload_n 0, 1) := by decide +kernel
theorem dX9_item_198 : decode cX9_item 198 = .ok (.getfield 81, 3) := by decide +kernel
theorem dX9_item_201 : decode cX9_item 201 = .ok (.iconst 0, 1) := by decide +kernel
theorem dX9_item_202 : decode cX9_item 202 = .ok (.iaload, 1) := by decide +kernel
theorem dX9_item_203 : decode cX9_item 203 = .ok (.aload_n 0, 1) := by decide +kernel
theorem dX9_item_204 : decode cX9_item 204 = .ok (.getfield 81, 3) := by decide +kernel
theorem dX9_item_207 : decode cX9_item 207 = .ok (.iconst 1, 1) := by decide +kernel
theorem dX9_item_208 : decode cX9_item 208 = .ok (.iaload, 1) := by decide +kernel
theorem dX9_item_209 : decode cX9_item 209 = .ok (.aload_n 0, 1) := by decide +kernel
theorem dX9_item_210 : decode cX9_item 210 = .ok (.getfield 81, 3) := by decide +kernel
theorem dX9_item_213 : decode cX9_item 213 = .ok (.iconst 2, 1) := by decide +kernel
theorem dX9_item_214 : decode cX9_item 214 = .ok (.iaload, 1) := by decide +kernel
theorem dX9_item_215 : decode cX9_item 215 = .ok (.invokevirtual 148, 3) := by decide +kernel
theorem dX9_item_218 : decode cX9_item 218 = .ok (.pop, 1) := by decide +kernel
theorem dX9_item_219 : decode cX9_item 219 = .ok (.goto 76, 3) := by decide +kernel
theorem dX9_item_222 : decode cX9_item 222 = .ok (.aload_n 0, 1) := by decide +kernel
theorem dX9_item_223 : decode cX9_item 223 = .ok (.aload_n 0, 1) := by decide +kernel
theorem dX9_item_224 : decode cX9_item 224 = .ok (.getfield 81, 3) := by decide +kernel
theorem dX9_item_227 : decode cX9_item 227 = .ok (.iconst 0, 1) := by decide +kernel
theorem dX9_item_228 : decode cX9_item 228 = .ok (.iaload, 1) := by decide +kernel
theorem dX9_item_229 : decode cX9_item 229 = .ok (.aload_n 0, 1) := by decide +kernel
theorem dX9_item_230 : decode cX9_item 230 = .ok (.getfield 81, 3) := by decide +kernel
theorem dX9_item_233 : decode cX9_item 233 = .ok (.iconst 1, 1) := by decide +kernel
theorem dX9_item_234 : decode cX9_item 234 = .ok (.iaload, 1) := by decide +kernel
theorem dX9_item_235 : decode cX9_item 235 = .ok (.invokevirtual 152, 3) := by decide +kernel
theorem dX9_item_238 : decode cX9_item 238 = .ok (.pop, 1) := by decide +kernel
theorem dX9_item_239 : decode cX9_item 239 = .ok (.goto 56, 3) := by decide +kernel
theorem dX9_item_242 : decode cX9_item 242 = .ok (.aload_n 0, 1) := by decide +kernel
theorem dX9_item_243 : decode cX9_item 243 = .ok (.getfield 41, 3) := by decide +kernel
theorem dX9_item_246 : decode cX9_item 246 = .ok (.aload_n 0, 1) := by decide +kernel
theorem dX9_item_247 : decode cX9_item 247 = .ok (.getfield 81, 3) := by decide +kernel
theorem dX9_item_250 : decode cX9_item 250 = .ok (.iconst 0, 1) := by decide +kernel
theorem dX9_item_251 : decode cX9_item 251 = .ok (.iaload, 1) := by decide +kernel
theorem dX9_item_252 : decode cX9_item 252 = .ok (.aload_n 0, 1) := by decide +kernel
theorem dX9_item_253 : decode cX9_item 253 = .ok (.getfield 81, 3) := by decide +kernel
theorem dX9_item_256 : decode cX9_item 256 = .ok (.iconst 1, 1) := by decide +kernel
theorem dX9_item_257 : decode cX9_item 257 = .ok (.iaload, 1) := by decide +kernel
theorem dX9_item_258 : decode cX9_item 258 = .ok (.iastore, 1) := by decide +kernel
theorem dX9_item_259 : decode cX9_item 259 = .ok (.goto 36, 3) := by decide +kernel
theorem dX9_item_262 : decode cX9_item 262 = .ok (.aload_n 0, 1) := by decide +kernel
theorem dX9_item_263 : decode cX9_item 263 = .ok (.getfield 44, 3) := by decide +kernel
theorem dX9_item_266 : decode cX9_item 266 = .ok (.aload_n 0, 1) := by decide +kernel
theorem dX9_item_267 : decode cX9_item 267 = .ok (.getfield 81, 3) := by decide +kernel
theorem dX9_item_270 : decode cX9_item 270 = .ok (.iconst 0, 1) := by decide +kernel
theorem dX9_item_271 : decode cX9_item 271 = .ok (.iaload, 1) := by decide +kernel
theorem dX9_item_272 : decode cX9_item 272 = .ok (.aload_n 0, 1) := by decide +kernel
theorem dX9_item_273 : decode cX9_item 273 = .ok (.getfield 81, 3) := by decide +kernel
theorem dX9_item_276 : decode cX9_item 276 = .ok (.iconst 1, 1) := by decide +kernel
theorem dX9_item_277 : decode cX9_item 277 = .ok (.iaload, 1) := by decide +kernel
theorem dX9_item_278 : decode cX9_item 278 = .ok (.iastore, 1) := by decide +kernel
theorem dX9_item_279 : decode cX9_item 279 = .ok (.goto 16, 3) := by decide +kernel
theorem dX9_item_282 : decode cX9_item 282 = .ok (.aload_n 0, 1) := by decide +kernel
theorem dX9_item_283 : decode cX9_item 283 = .ok (.iload_n 1, 1) := by decide +kernel
theorem dX9_item_284 : decode cX9_item 284 = .ok (.iconst 4, 1) := by decide +kernel
theorem dX9_item_285 : decode cX9_item 285 = .ok (.isub, 1) := by decide +kernel
theorem dX9_item_286 : decode cX9_item 286 = .ok (.aload_n 0, 1) := by decide +kernel
theorem dX9_item_287 : decode cX9_item 287 = .ok (.getfield 81, 3) := by decide +kernel
theorem dX9_item_290 : decode cX9_item 290 = .ok (.iconst 0, 1) := by decide +kernel
theorem dX9_item_291 : decode cX9_item 291 = .ok (.iaload, 1) := by decide +kernel
theorem dX9_item_292 : decode cX9_item 292 = .ok (.invokevirtual 166, 3) := by decide +kernel
theorem dX9_item_295 : decode cX9_item 295 = .ok (.iconst 1, 1) := by decide +kernel
theorem dX9_item_296 : decode cX9_item 296 = .ok (.ireturn, 1) := by decide +kernel
theorem dX9_carries_0 : decode cX9_carries 0 = .ok (.iconst 0, 1) := by decide +kernel
theorem dX9_carries_1 : decode cX9_carries 1 = .ok (.istore 5, 2) := by decide +kernel
theorem dX9_carries_3 : decode cX9_carries 3 = .ok (.iload 5, 2) := by decide +kernel
theorem dX9_carries_5 : decode cX9_carries 5 = .ok (.bipush 8, 2) := by decide +kernel
theorem dX9_carries_7 : decode cX9_carries 7 = .ok (.if_icmp .ge 37, 3) := by decide +kernel
theorem dX9_carries_10 : decode cX9_carries 10 = .ok (.iload 4, 2) := by decide +kernel
theorem dX9_carries_12 : decode cX9_carries 12 = .ok (.ifCond .eq 16, 3) := by decide +kernel
theorem dX9_carries_15 : decode cX9_carries 15 = .ok (.aload_n 1, 1) := by decide +kernel
theorem dX9_carries_16 : decode cX9_carries 16 = .ok (.iload 5, 2) := by decide +kernel
theorem dX9_carries_18 : decode cX9_carries 18 = .ok (.aload_n 2, 1) := by decide +kernel
theorem dX9_carries_19 : decode cX9_carries 19 = .ok (.iload_n 3, 1) := by decide +kernel
theorem dX9_carries_20 : decode cX9_carries 20 = .ok (.iload 5, 2) := by decide +kernel
theorem dX9_carries_22 : decode cX9_carries 22 = .ok (.iadd, 1) := by decide +kernel
theorem dX9_carries_23 : decode cX9_carries 23 = .ok (.iaload, 1) := by decide +kernel
theorem dX9_carries_24 : decode cX9_carries 24 = .ok (.iastore, 1) := by decide +kernel
theorem dX9_carries_25 : decode cX9_carries 25 = .ok (.goto 13, 3) := by decide +kernel
theorem dX9_carries_28 : decode cX9_carries 28 = .ok (.aload_n 2, 1) := by decide +kernel
theorem dX9_carries_29 : decode cX9_carries 29 = .ok (.iload_n 3, 1) := by decide +kernel
theorem dX9_carries_30 : decode cX9_carries 30 = .ok (.iload 5, 2) := by decide +kernel
theorem dX9_carries_32 : decode cX9_carries 32 = .ok (.iadd, 1) := by decide +kernel
theorem dX9_carries_33 : decode cX9_carries 33 = .ok (.aload_n 1, 1) := by decide +kernel
theorem dX9_carries_34 : decode cX9_carries 34 = .ok (.iload 5, 2) := by decide +kernel
theorem dX9_carries_36 : decode cX9_carries 36 = .ok (.iaload, 1) := by decide +kernel
theorem dX9_carries_37 : decode cX9_carries 37 = .ok (.iastore, 1) := by decide +kernel
theorem dX9_carries_38 : decode cX9_carries 38 = .ok (.iinc 5 1, 3) := by decide +kernel
theorem dX9_carries_41 : decode cX9_carries 41 = .ok (.goto (-38), 3) := by decide +kernel
theorem dX9_carries_44 : decode cX9_carries 44 = .ok (.iload_n 3, 1) := by decide +kernel
theorem dX9_carries_45 : decode cX9_carries 45 = .ok (.bipush 8, 2) := by decide +kernel
theorem dX9_carries_47 : decode cX9_carries 47 = .ok (.iadd, 1) := by decide +kernel
theorem dX9_carries_48 : decode cX9_carries 48 = .ok (.ireturn, 1) := by decide +kernel
theorem dX9_all_0 : decode cX9_all 0 = .ok (.aload_n 0, 1) := by decide +kernel
theorem dX9_all_1 : decode cX9_all 1 = .ok (.aload_n 0, 1) := by decide +kernel
theorem dX9_all_2 : decode cX9_all 2 = .ok (.getfield 32, 3) := by decide +kernel
theorem dX9_all_5 : decode cX9_all 5 = .ok (.aload_n 1, 1) := by decide +kernel
theorem dX9_all_6 : decode cX9_all 6 = .ok (.iconst 0, 1) := by decide +kernel
theorem dX9_all_7 : decode cX9_all 7 = .ok (.iload_n 2, 1) := by decide +kernel
theorem dX9_all_8 : decode cX9_all 8 = .ok (.invokevirtual 207, 3) := by decide +kernel
theorem dX9_all_11 : decode cX9_all 11 = .ok (.istore_n 3, 1) := by decide +kernel
theorem dX9_all_12 : decode cX9_all 12 = .ok (.aload_n 0, 1) := by decide +kernel
theorem dX9_all_13 : decode cX9_all 13 = .ok (.aload_n 0, 1) := by decide +kernel
theorem dX9_all_14 : decode cX9_all 14 = .ok (.getfield 35, 3) := by decide +kernel
theorem dX9_all_17 : decode cX9_all 17 = .ok (.aload_n 1, 1) := by decide +kernel
theorem dX9_all_18 : decode cX9_all 18 = .ok (.iload_n 3, 1) := by decide +kernel
theorem dX9_all_19 : decode cX9_all 19 = .ok (.iload_n 2, 1) := by decide +kernel
theorem dX9_all_20 : decode cX9_all 20 = .ok (.invokevirtual 207, 3) := by decide +kernel
theorem dX9_all_23 : decode cX9_all 23 = .ok (.istore_n 3, 1) := by decide +kernel
theorem dX9_all_24 : decode cX9_all 24 = .ok (.aload_n 0, 1) := by decide +kernel
theorem dX9_all_25 : decode cX9_all 25 = .ok (.aload_n 0, 1) := by decide +kernel
theorem dX9_all_26 : decode cX9_all 26 = .ok (.getfield 38, 3) := by decide +kernel
theorem dX9_all_29 : decode cX9_all 29 = .ok (.aload_n 1, 1) := by decide +kernel
theorem dX9_all_30 : decode cX9_all 30 = .ok (.iload_n 3, 1) := by decide +kernel
theorem dX9_all_31 : decode cX9_all 31 = .ok (.iload_n 2, 1) := by decide +kernel
theorem dX9_all_32 : decode cX9_all 32 = .ok (.invokevirtual 207, 3) := by decide +kernel
theorem dX9_all_35 : decode cX9_all 35 = .ok (.istore_n 3, 1) := by decide +kernel
theorem dX9_all_36 : decode cX9_all 36 = .ok (.aload_n 0, 1) := by decide +kernel
theorem dX9_all_37 : decode cX9_all 37 = .ok (.aload_n 0, 1) := by decide +kernel
theorem dX9_all_38 : decode cX9_all 38 = .ok (.getfield 41, 3) := by decide +kernel
theorem dX9_all_41 : decode cX9_all 41 = .ok (.aload_n 1, 1) := by decide +kernel
theorem dX9_all_42 : decode cX9_all 42 = .ok (.iload_n 3, 1) := by decide +kernel
theorem dX9_all_43 : decode cX9_all 43 = .ok (.iload_n 2, 1) := by decide +kernel
theorem dX9_all_44 : decode cX9_all 44 = .ok (.invokevirtual 207, 3) := by decide +kernel
theorem dX9_all_47 : decode cX9_all 47 = .ok (.istore_n 3, 1) := by decide +kernel
theorem dX9_all_48 : decode cX9_all 48 = .ok (.aload_n 0, 1) := by decide +kernel
theorem dX9_all_49 : decode cX9_all 49 = .ok (.aload_n 0, 1) := by decide +kernel
theorem dX9_all_50 : decode cX9_all 50 = .ok (.getfield 44, 3) := by decide +kernel
theorem dX9_all_53 : decode cX9_all 53 = .ok (.aload_n 1, 1) := by decide +kernel
theorem dX9_all_54 : decode cX9_all 54 = .ok (.iload_n 3, 1) := by decide +kernel
theorem dX9_all_55 : decode cX9_all 55 = .ok (.iload_n 2, 1) := by decide +kernel
theorem dX9_all_56 : decode cX9_all 56 = .ok (.invokevirtual 207, 3) := by decide +kernel
theorem dX9_all_59 : decode cX9_all 59 = .ok (.istore_n 3, 1) := by decide +kernel
theorem dX9_all_60 : decode cX9_all 60 = .ok (.aload_n 0, 1) := by decide +kernel
theorem dX9_all_61 : decode cX9_all 61 = .ok (.aload_n 0, 1) := by decide +kernel
theorem dX9_all_62 : decode cX9_all 62 = .ok (.getfield 47, 3) := by decide +kernel
theorem dX9_all_65 : decode cX9_all 65 = .ok (.aload_n 1, 1) := by decide +kernel
theorem dX9_all_66 : decode cX9_all 66 = .ok (.iload_n 3, 1) := by decide +kernel
theorem dX9_all_67 : decode cX9_all 67 = .ok (.iload_n 2, 1) := by decide +kernel
theorem dX9_all_68 : decode cX9_all 68 = .ok (.invokevirtual 207, 3) := by decide +kernel
theorem dX9_all_71 : decode cX9_all 71 = .ok (.istore_n 3, 1) := by decide +kernel
theorem dX9_all_72 : decode cX9_all 72 = .ok (.aload_n 0, 1) := by decide +kernel
theorem dX9_all_73 : decode cX9_all 73 = .ok (.aload_n 0, 1) := by decide +kernel
theorem dX9_all_74 : decode cX9_all 74 = .ok (.getfield 50, 3) := by decide +kernel
theorem dX9_all_77 : decode cX9_all 77 = .ok (.aload_n 1, 1) := by decide +kernel
theorem dX9_all_78 : decode cX9_all 78 = .ok (.iload_n 3, 1) := by decide +kernel
theorem dX9_all_79 : decode cX9_all 79 = .ok (.iload_n 2, 1) := by decide +kernel
theorem dX9_all_80 : decode cX9_all 80 = .ok (.invokevirtual 207, 3) := by decide +kernel
theorem dX9_all_83 : decode cX9_all 83 = .ok (.istore_n 3, 1) := by decide +kernel
theorem dX9_all_84 : decode cX9_all 84 = .ok (.aload_n 0, 1) := by decide +kernel
theorem dX9_all_85 : decode cX9_all 85 = .ok (.aload_n 0, 1) := by decide +kernel
theorem dX9_all_86 : decode cX9_all 86 = .ok (.getfield 53, 3) := by decide +kernel
theorem dX9_all_89 : decode cX9_all 89 = .ok (.aload_n 1, 1) := by decide +kernel
theorem dX9_all_90 : decode cX9_all 90 = .ok (.iload_n 3, 1) := by decide +kernel
theorem dX9_all_91 : decode cX9_all 91 = .ok (.iload_n 2, 1) := by decide +kernel
theorem dX9_all_92 : decode cX9_all 92 = .ok (.invokevirtual 207, 3) := by decide +kernel
theorem dX9_all_95 : decode cX9_all 95 = .ok (.istore_n 3, 1) := by decide +kernel
theorem dX9_all_96 : decode cX9_all 96 = .ok (.iconst 0, 1) := by decide +kernel
theorem dX9_all_97 : decode cX9_all 97 = .ok (.istore 4, 2) := by decide +kernel
theorem dX9_all_99 : decode cX9_all 99 = .ok (.iload 4, 2) := by decide +kernel
theorem dX9_all_101 : decode cX9_all 101 = .ok (.iconst 4, 1) := by decide +kernel
theorem dX9_all_102 : decode cX9_all 102 = .ok (.if_icmp .ge 40, 3) := by decide +kernel
theorem dX9_all_105 : decode cX9_all 105 = .ok (.iload_n 2, 1) := by decide +kernel
theorem dX9_all_106 : decode cX9_all 106 = .ok (.ifCond .eq 18, 3) := by decide +kernel
theorem dX9_all_109 : decode cX9_all 109 = .ok (.aload_n 0, 1) := by decide +kernel
theorem dX9_all_110 : decode cX9_all 110 = .ok (.iload 4, 2) := by decide +kernel
theorem dX9_all_112 : decode cX9_all 112 = .ok (.aload_n 1, 1) := by decide +kernel
theorem dX9_all_113 : decode cX9_all 113 = .ok (.iload_n 3, 1) := by decide +kernel
theorem dX9_all_114 : decode cX9_all 114 = .ok (.iload 4, 2) := by decide +kernel
theorem dX9_all_116 : decode cX9_all 116 = .ok (.iadd, 1) := by decide +kernel
theorem dX9_all_117 : decode cX9_all 117 = .ok (.iaload, 1) := by decide +kernel
theorem dX9_all_118 : decode cX9_all 118 = .ok (.invokevirtual 166, 3) := by decide +kernel
theorem dX9_all_121 : decode cX9_all 121 = .ok (.goto 15, 3) := by decide +kernel
theorem dX9_all_124 : decode cX9_all 124 = .ok (.aload_n 1, 1) := by decide +kernel
theorem dX9_all_125 : decode cX9_all 125 = .ok (.iload_n 3, 1) := by decide +kernel
theorem dX9_all_126 : decode cX9_all 126 = .ok (.iload 4, 2) := by decide +kernel
theorem dX9_all_128 : decode cX9_all 128 = .ok (.iadd, 1) := by decide +kernel
theorem dX9_all_129 : decode cX9_all 129 = .ok (.aload_n 0, 1) := by decide +kernel
theorem dX9_all_130 : decode cX9_all 130 = .ok (.iload 4, 2) := by decide +kernel
theorem dX9_all_132 : decode cX9_all 132 = .ok (.invokevirtual 163, 3) := by decide +kernel
theorem dX9_all_135 : decode cX9_all 135 = .ok (.iastore, 1) := by decide +kernel
theorem dX9_all_136 : decode cX9_all 136 = .ok (.iinc 4 1, 3) := by decide +kernel
theorem dX9_all_139 : decode cX9_all 139 = .ok (.goto (-40), 3) := by decide +kernel
theorem dX9_all_142 : decode cX9_all 142 = .ok (.iinc 3 4, 3) := by decide +kernel
theorem dX9_all_145 : decode cX9_all 145 = .ok (.iload_n 2, 1) := by decide +kernel
theorem dX9_all_146 : decode cX9_all 146 = .ok (.ifCond .eq 49, 3) := by decide +kernel
theorem dX9_all_149 : decode cX9_all 149 = .ok (.aload_n 0, 1) := by decide +kernel
theorem dX9_all_150 : decode cX9_all 150 = .ok (.aload_n 1, 1) := by decide +kernel
theorem dX9_all_151 : decode cX9_all 151 = .ok (.iload_n 3, 1) := by decide +kernel
theorem dX9_all_152 : decode cX9_all 152 = .ok (.iaload, 1) := by decide +kernel
theorem dX9_all_153 : decode cX9_all 153 = .ok (.putfield 117, 3) := by decide +kernel
theorem dX9_all_156 : decode cX9_all 156 = .ok (.aload_n 0, 1) := by decide +kernel
theorem dX9_all_157 : decode cX9_all 157 = .ok (.aload_n 1, 1) := by decide +kernel
theorem dX9_all_158 : decode cX9_all 158 = .ok (.iload_n 3, 1) := by decide +kernel
theorem dX9_all_159 : decode cX9_all 159 = .ok (.iconst 1, 1) := by decide +kernel
theorem dX9_all_160 : decode cX9_all 160 = .ok (.iadd, 1) := by decide +kernel
theorem dX9_all_161 : decode cX9_all 161 = .ok (.iaload, 1) := by decide +kernel
theorem dX9_all_162 : decode cX9_all 162 = .ok (.putfield 120, 3) := by decide +kernel
theorem dX9_all_165 : decode cX9_all 165 = .ok (.aload_n 0, 1) := by decide +kernel
theorem dX9_all_166 : decode cX9_all 166 = .ok (.aload_n 1, 1) := by decide +kernel
theorem dX9_all_167 : decode cX9_all 167 = .ok (.iload_n 3, 1) := by decide +kernel
theorem dX9_all_168 : decode cX9_all 168 = .ok (.iconst 2, 1) := by decide +kernel
theorem dX9_all_169 : decode cX9_all 169 = .ok (.iadd, 1) := by decide +kernel
theorem dX9_all_170 : decode cX9_all 170 = .ok (.iaload, 1) := by decide +kernel
theorem dX9_all_171 : decode cX9_all 171 = .ok (.putfield 170, 3) := by decide +kernel
theorem dX9_all_174 : decode cX9_all 174 = .ok (.aload_n 0, 1) := by decide +kernel
theorem dX9_all_175 : decode cX9_all 175 = .ok (.aload_n 1, 1) := by decide +kernel
theorem dX9_all_176 : decode cX9_all 176 = .ok (.iload_n 3, 1) := by decide +kernel
theorem dX9_all_177 : decode cX9_all 177 = .ok (.iconst 3, 1) := by decide +kernel
theorem dX9_all_178 : decode cX9_all 178 = .ok (.iadd, 1) := by decide +kernel
theorem dX9_all_179 : decode cX9_all 179 = .ok (.iaload, 1) := by decide +kernel
theorem dX9_all_180 : decode cX9_all 180 = .ok (.putfield 211, 3) := by decide +kernel
theorem dX9_all_183 : decode cX9_all 183 = .ok (.aload_n 0, 1) := by decide +kernel
theorem dX9_all_184 : decode cX9_all 184 = .ok (.aload_n 1, 1) := by decide +kernel
theorem dX9_all_185 : decode cX9_all 185 = .ok (.iload_n 3, 1) := by decide +kernel
theorem dX9_all_186 : decode cX9_all 186 = .ok (.iconst 4, 1) := by decide +kernel
theorem dX9_all_187 : decode cX9_all 187 = .ok (.iadd, 1) := by decide +kernel
theorem dX9_all_188 : decode cX9_all 188 = .ok (.iaload, 1) := by decide +kernel
theorem dX9_all_189 : decode cX9_all 189 = .ok (.putfield 22, 3) := by decide +kernel
theorem dX9_all_192 : decode cX9_all 192 = .ok (.goto 46, 3) := by decide +kernel
theorem dX9_all_195 : decode cX9_all 195 = .ok (.aload_n 1, 1) := by decide +kernel
theorem dX9_all_196 : decode cX9_all 196 = .ok (.iload_n 3, 1) := by decide +kernel
theorem dX9_all_197 : decode cX9_all 197 = .ok (.aload_n 0, 1) := by decide +kernel
theorem dX9_all_198 : decode cX9_all 198 = .ok (.getfield 117, 3) := by decide +kernel
theorem dX9_all_201 : decode cX9_all 201 = .ok (.iastore, 1) := by decide +kernel
theorem dX9_all_202 : decode cX9_all 202 = .ok (.aload_n 1, 1) := by decide +kernel
theorem dX9_all_203 : decode cX9_all 203 = .ok (.iload_n 3, 1) := by decide +kernel
theorem dX9_all_204 : decode cX9_all 204 = .ok (.iconst 1, 1) := by decide +kernel
theorem dX9_all_205 : decode cX9_all 205 = .ok (.iadd, 1) := by decide +kernel
theorem dX9_all_206 : decode cX9_all 206 = .ok (.aload_n 0, 1) := by decide +kernel
theorem dX9_all_207 : decode cX9_all 207 = .ok (.getfield 120, 3) := by decide +kernel
theorem dX9_all_210 : decode cX9_all 210 = .ok (.iastore, 1) := by decide +kernel
theorem dX9_all_211 : decode cX9_all 211 = .ok (.aload_n 1, 1) := by decide +kernel
theorem dX9_all_212 : decode cX9_all 212 = .ok (.iload_n 3, 1) := by decide +kernel
theorem dX9_all_213 : decode cX9_all 213 = .ok (.iconst 2, 1) := by decide +kernel
theorem dX9_all_214 : decode cX9_all 214 = .ok (.iadd, 1) := by decide +kernel
theorem dX9_all_215 : decode cX9_all 215 = .ok (.aload_n 0, 1) := by decide +kernel
theorem dX9_all_216 : decode cX9_all 216 = .ok (.getfield 170, 3) := by decide +kernel
theorem dX9_all_219 : decode cX9_all 219 = .ok (.iastore, 1) := by decide +kernel
theorem dX9_all_220 : decode cX9_all 220 = .ok (.aload_n 1, 1) := by decide +kernel
theorem dX9_all_221 : decode cX9_all 221 = .ok (.iload_n 3, 1) := by decide +kernel
theorem dX9_all_222 : decode cX9_all 222 = .ok (.iconst 3, 1) := by decide +kernel
theorem dX9_all_223 : decode cX9_all 223 = .ok (.iadd, 1) := by decide +kernel
theorem dX9_all_224 : decode cX9_all 224 = .ok (.aload_n 0, 1) := by decide +kernel
theorem dX9_all_225 : decode cX9_all 225 = .ok (.getfield 211, 3) := by decide +kernel
theorem dX9_all_228 : decode cX9_all 228 = .ok (.iastore, 1) := by decide +kernel
theorem dX9_all_229 : decode cX9_all 229 = .ok (.aload_n 1, 1) := by decide +kernel
theorem dX9_all_230 : decode cX9_all 230 = .ok (.iload_n 3, 1) := by decide +kernel
theorem dX9_all_231 : decode cX9_all 231 = .ok (.iconst 4, 1) := by decide +kernel
theorem dX9_all_232 : decode cX9_all 232 = .ok (.iadd, 1) := by decide +kernel
theorem dX9_all_233 : decode cX9_all 233 = .ok (.aload_n 0, 1) := by decide +kernel
theorem dX9_all_234 : decode cX9_all 234 = .ok (.getfield 22, 3) := by decide +kernel
theorem dX9_all_237 : decode cX9_all 237 = .ok (.iastore, 1) := by decide +kernel
theorem dX9_all_238 : decode cX9_all 238 = .ok (.return_, 1) := by decide +kernel
theorem dX9_field_0 : decode cX9_field 0 = .ok (.aload_n 0, 1) := by decide +kernel
theorem dX9_field_1 : decode cX9_field 1 = .ok (.iload_n 1, 1) := by decide +kernel
theorem dX9_field_2 : decode cX9_field 2 = .ok (.invokevirtual 214, 3) := by decide +kernel
theorem dX9_field_5 : decode cX9_field 5 = .ok (.istore_n 2, 1) := by decide +kernel
theorem dX9_field_6 : decode cX9_field 6 = .ok (.iload_n 2, 1) := by decide +kernel
theorem dX9_field_7 : decode cX9_field 7 = .ok (.ifCond .eq 9, 3) := by decide +kernel
theorem dX9_field_10 : decode cX9_field 10 = .ok (.aload_n 0, 1) := by decide +kernel
theorem dX9_field_11 : decode cX9_field 11 = .ok (.iload_n 2, 1) := by decide +kernel
theorem dX9_field_12 : decode cX9_field 12 = .ok (.invokevirtual 127, 3) := by decide +kernel
theorem dX9_field_15 : decode cX9_field 15 = .ok (.ireturn, 1) := by decide +kernel
theorem dX9_field_16 : decode cX9_field 16 = .ok (.aload_n 0, 1) := by decide +kernel
theorem dX9_field_17 : decode cX9_field 17 = .ok (.aload_n 0, 1) := by decide +kernel
theorem dX9_field_18 : decode cX9_field 18 = .ok (.getfield 84, 3) := by decide +kernel
theorem dX9_field_21 : decode cX9_field 21 = .ok (.iconst 0, 1) := by decide +kernel
theorem dX9_field_22 : decode cX9_field 22 = .ok (.invokevirtual 217, 3) := by decide +kernel
theorem dX9_field_25 : decode cX9_field 25 = .ok (.aload_n 0, 1) := by decide +kernel
theorem dX9_field_26 : decode cX9_field 26 = .ok (.sipush 160, 3) := by decide +kernel
theorem dX9_field_29 : decode cX9_field 29 = .ok (.iload_n 1, 1) := by decide +kernel
theorem dX9_field_30 : decode cX9_field 30 = .ok (.imul, 1) := by decide +kernel
theorem dX9_field_31 : decode cX9_field 31 = .ok (.putfield 182, 3) := by decide +kernel
theorem dX9_field_34 : decode cX9_field 34 = .ok (.aload_n 0, 1) := by decide +kernel
theorem dX9_field_35 : decode cX9_field 35 = .ok (.iconst 0, 1) := by decide +kernel
theorem dX9_field_36 : decode cX9_field 36 = .ok (.putfield 176, 3) := by decide +kernel
theorem dX9_field_39 : decode cX9_field 39 = .ok (.aload_n 0, 1) := by decide +kernel
theorem dX9_field_40 : decode cX9_field 40 = .ok (.aload_n 0, 1) := by decide +kernel
theorem dX9_field_41 : decode cX9_field 41 = .ok (.getfield 62, 3) := by decide +kernel
theorem dX9_field_44 : decode cX9_field 44 = .ok (.iload_n 1, 1) := by decide +kernel
theorem dX9_field_45 : decode cX9_field 45 = .ok (.iaload, 1) := by decide +kernel
theorem dX9_field_46 : decode cX9_field 46 = .ok (.putfield 179, 3) := by decide +kernel
theorem dX9_field_49 : decode cX9_field 49 = .ok (.aload_n 0, 1) := by decide +kernel
theorem dX9_field_50 : decode cX9_field 50 = .ok (.iconst (-1), 1) := by decide +kernel
theorem dX9_field_51 : decode cX9_field 51 = .ok (.putfield 25, 3) := by decide +kernel
theorem dX9_field_54 : decode cX9_field 54 = .ok (.iconst 1, 1) := by decide +kernel
theorem dX9_field_55 : decode cX9_field 55 = .ok (.istore_n 3, 1) := by decide +kernel
theorem dX9_field_56 : decode cX9_field 56 = .ok (.aload_n 0, 1) := by decide +kernel
theorem dX9_field_57 : decode cX9_field 57 = .ok (.invokevirtual 221, 3) := by decide +kernel
theorem dX9_field_60 : decode cX9_field 60 = .ok (.istore 4, 2) := by decide +kernel
theorem dX9_field_62 : decode cX9_field 62 = .ok (.iload 4, 2) := by decide +kernel
theorem dX9_field_64 : decode cX9_field 64 = .ok (.ifCond .eq 69, 3) := by decide +kernel
theorem dX9_field_67 : decode cX9_field 67 = .ok (.aload_n 0, 1) := by decide +kernel
theorem dX9_field_68 : decode cX9_field 68 = .ok (.getfield 176, 3) := by decide +kernel
theorem dX9_field_71 : decode cX9_field 71 = .ok (.aload_n 0, 1) := by decide +kernel
theorem dX9_field_72 : decode cX9_field 72 = .ok (.getfield 179, 3) := by decide +kernel
theorem dX9_field_75 : decode cX9_field 75 = .ok (.if_icmp .ge 58, 3) := by decide +kernel
theorem dX9_field_78 : decode cX9_field 78 = .ok (.aload_n 0, 1) := by decide +kernel
theorem dX9_field_79 : decode cX9_field 79 = .ok (.getfield 68, 3) := by decide +kernel
theorem dX9_field_82 : decode cX9_field 82 = .ok (.aload_n 0, 1) := by decide +kernel
theorem dX9_field_83 : decode cX9_field 83 = .ok (.getfield 182, 3) := by decide +kernel
theorem dX9_field_86 : decode cX9_field 86 = .ok (.aload_n 0, 1) := by decide +kernel
theorem dX9_field_87 : decode cX9_field 87 = .ok (.getfield 176, 3) := by decide +kernel
theorem dX9_field_90 : decode cX9_field 90 = .ok (.iadd, 1) := by decide +kernel
theorem dX9_field_91 : decode cX9_field 91 = .ok (.laload, 1) := by decide +kernel
theorem dX9_field_92 : decode cX9_field 92 = .ok (.l2i, 1) := by decide +kernel
theorem dX9_field_93 : decode cX9_field 93 = .ok (.bipush 59, 2) := by decide +kernel
theorem dX9_field_95 : decode cX9_field 95 = .ok (.if_icmp .eq 16, 3) := by decide +kernel
theorem dX9_field_98 : decode cX9_field 98 = .ok (.aload_n 0, 1) := by decide +kernel
theorem dX9_field_99 : decode cX9_field 99 = .ok (.aload_n 0, 1) := by decide +kernel
theorem dX9_field_100 : decode cX9_field 100 = .ok (.getfield 176, 3) := by decide +kernel
theorem dX9_field_103 : decode cX9_field 103 = .ok (.invokevirtual 192, 3) := by decide +kernel
theorem dX9_field_106 : decode cX9_field 106 = .ok (.istore 4, 2) := by decide +kernel
theorem dX9_field_108 : decode cX9_field 108 = .ok (.goto (-46), 3) := by decide +kernel
theorem dX9_field_111 : decode cX9_field 111 = .ok (.aload_n 0, 1) := by decide +kernel
theorem dX9_field_112 : decode cX9_field 112 = .ok (.dup, 1) := by decide +kernel
theorem dX9_field_113 : decode cX9_field 113 = .ok (.getfield 176, 3) := by decide +kernel
theorem dX9_field_116 : decode cX9_field 116 = .ok (.iconst 1, 1) := by decide +kernel
theorem dX9_field_117 : decode cX9_field 117 = .ok (.iadd, 1) := by decide +kernel
theorem dX9_field_118 : decode cX9_field 118 = .ok (.putfield 176, 3) := by decide +kernel
theorem dX9_field_121 : decode cX9_field 121 = .ok (.iinc 3 1, 3) := by decide +kernel
theorem dX9_field_124 : decode cX9_field 124 = .ok (.aload_n 0, 1) := by decide +kernel
theorem dX9_field_125 : decode cX9_field 125 = .ok (.invokevirtual 221, 3) := by decide +kernel
theorem dX9_field_128 : decode cX9_field 128 = .ok (.istore 4, 2) := by decide +kernel
theorem dX9_field_130 : decode cX9_field 130 = .ok (.goto (-68), 3) := by decide +kernel
theorem dX9_field_133 : decode cX9_field 133 = .ok (.iload 4, 2) := by decide +kernel
theorem dX9_field_135 : decode cX9_field 135 = .ok (.ifCond .eq 5, 3) := by decide +kernel
theorem dX9_field_138 : decode cX9_field 138 = .ok (.iload_n 3, 1) := by decide +kernel
theorem dX9_field_139 : decode cX9_field 139 = .ok (.ireturn, 1) := by decide +kernel
theorem dX9_field_140 : decode cX9_field 140 = .ok (.aload_n 0, 1) := by decide +kernel
theorem dX9_field_141 : decode cX9_field 141 = .ok (.aload_n 0, 1) := by decide +kernel
theorem dX9_field_142 : decode cX9_field 142 = .ok (.getfield 84, 3) := by decide +kernel
theorem dX9_field_145 : decode cX9_field 145 = .ok (.iconst 1, 1) := by decide +kernel
theorem dX9_field_146 : decode cX9_field 146 = .ok (.invokevirtual 217, 3) := by decide +kernel
theorem dX9_field_149 : decode cX9_field 149 = .ok (.aload_n 0, 1) := by decide +kernel
theorem dX9_field_150 : decode cX9_field 150 = .ok (.aload_n 0, 1) := by decide +kernel
theorem dX9_field_151 : decode cX9_field 151 = .ok (.getfield 173, 3) := by decide +kernel
theorem dX9_field_154 : decode cX9_field 154 = .ok (.putfield 25, 3) := by decide +kernel
theorem dX9_field_157 : decode cX9_field 157 = .ok (.aload_n 0, 1) := by decide +kernel
theorem dX9_field_158 : decode cX9_field 158 = .ok (.bipush (-6), 2) := by decide +kernel
theorem dX9_field_160 : decode cX9_field 160 = .ok (.invokevirtual 127, 3) := by decide +kernel
theorem dX9_field_163 : decode cX9_field 163 = .ok (.ireturn, 1) := by decide +kernel
theorem dX9_fault_0 : decode cX9_fault 0 = .ok (.aload_n 0, 1) := by decide +kernel
theorem dX9_fault_1 : decode cX9_fault 1 = .ok (.getfield 25, 3) := by decide +kernel
theorem dX9_fault_4 : decode cX9_fault 4 = .ok (.ireturn, 1) := by decide +kernel
theorem dX9_puts_0 : decode cX9_puts 0 = .ok (.aload_n 0, 1) := by decide +kernel
theorem dX9_puts_1 : decode cX9_puts 1 = .ok (.aload_n 0, 1) := by decide +kernel
theorem dX9_puts_2 : decode cX9_puts 2 = .ok (.getfield 32, 3) := by decide +kernel
theorem dX9_puts_5 : decode cX9_puts 5 = .ok (.iload_n 1, 1) := by decide +kernel
theorem dX9_puts_6 : decode cX9_puts 6 = .ok (.iaload, 1) := by decide +kernel
theorem dX9_puts_7 : decode cX9_puts 7 = .ok (.putfield 224, 3) := by decide +kernel
theorem dX9_puts_10 : decode cX9_puts 10 = .ok (.aload_n 0, 1) := by decide +kernel
theorem dX9_puts_11 : decode cX9_puts 11 = .ok (.aload_n 0, 1) := by decide +kernel
theorem dX9_puts_12 : decode cX9_puts 12 = .ok (.getfield 35, 3) := by decide +kernel
theorem dX9_puts_15 : decode cX9_puts 15 = .ok (.iload_n 1, 1) := by decide +kernel
theorem dX9_puts_16 : decode cX9_puts 16 = .ok (.iaload, 1) := by decide +kernel
theorem dX9_puts_17 : decode cX9_puts 17 = .ok (.putfield 227, 3) := by decide +kernel
theorem dX9_puts_20 : decode cX9_puts 20 = .ok (.aload_n 0, 1) := by decide +kernel
theorem dX9_puts_21 : decode cX9_puts 21 = .ok (.aload_n 0, 1) := by decide +kernel
theorem dX9_puts_22 : decode cX9_puts 22 = .ok (.getfield 38, 3) := by decide +kernel
theorem dX9_puts_25 : decode cX9_puts 25 = .ok (.iload_n 1, 1) := by decide +kernel
theorem dX9_puts_26 : decode cX9_puts 26 = .ok (.iaload, 1) := by decide +kernel
theorem dX9_puts_27 : decode cX9_puts 27 = .ok (.putfield 230, 3) := by decide +kernel
theorem dX9_puts_30 : decode cX9_puts 30 = .ok (.aload_n 0, 1) := by decide +kernel
theorem dX9_puts_31 : decode cX9_puts 31 = .ok (.aload_n 0, 1) := by decide +kernel
theorem dX9_puts_32 : decode cX9_puts 32 = .ok (.getfield 44, 3) := by decide +kernel
theorem dX9_puts_35 : decode cX9_puts 35 = .ok (.iload_n 1, 1) := by decide +kernel
theorem dX9_puts_36 : decode cX9_puts 36 = .ok (.iaload, 1) := by decide +kernel
theorem dX9_puts_37 : decode cX9_puts 37 = .ok (.putfield 233, 3) := by decide +kernel
theorem dX9_puts_40 : decode cX9_puts 40 = .ok (.aload_n 0, 1) := by decide +kernel
theorem dX9_puts_41 : decode cX9_puts 41 = .ok (.aload_n 0, 1) := by decide +kernel
theorem dX9_puts_42 : decode cX9_puts 42 = .ok (.getfield 170, 3) := by decide +kernel
theorem dX9_puts_45 : decode cX9_puts 45 = .ok (.putfield 236, 3) := by decide +kernel
theorem dX9_puts_48 : decode cX9_puts 48 = .ok (.aload_n 0, 1) := by decide +kernel
theorem dX9_puts_49 : decode cX9_puts 49 = .ok (.aload_n 0, 1) := by decide +kernel
theorem dX9_puts_50 : decode cX9_puts 50 = .ok (.getfield 41, 3) := by decide +kernel
theorem dX9_puts_53 : decode cX9_puts 53 = .ok (.iload_n 1, 1) := by decide +kernel
theorem dX9_puts_54 : decode cX9_puts 54 = .ok (.iaload, 1) := by decide +kernel
theorem dX9_puts_55 : decode cX9_puts 55 = .ok (.invokevirtual 239, 3) := by decide +kernel
theorem dX9_puts_58 : decode cX9_puts 58 = .ok (.return_, 1) := by decide +kernel
theorem dX9_putsIn_0 : decode cX9_putsIn 0 = .ok (.aload_n 0, 1) := by decide +kernel
theorem dX9_putsIn_1 : decode cX9_putsIn 1 = .ok (.aload_n 0, 1) := by decide +kernel
theorem dX9_putsIn_2 : decode cX9_putsIn 2 = .ok (.getfield 120, 3) := by decide +kernel
theorem dX9_putsIn_5 : decode cX9_putsIn 5 = .ok (.ifCond .ne 7, 3) := by decide +kernel
theorem dX9_putsIn_8 : decode cX9_putsIn 8 = .ok (.iconst 0, 1) := by decide +kernel
theorem dX9_putsIn_9 : decode cX9_putsIn 9 = .ok (.goto 18, 3) := by decide +kernel
theorem dX9_putsIn_12 : decode cX9_putsIn 12 = .ok (.aload_n 0, 1) := by decide +kernel
theorem dX9_putsIn_13 : decode cX9_putsIn 13 = .ok (.aload_n 0, 1) := by decide +kernel
theorem dX9_putsIn_14 : decode cX9_putsIn 14 = .ok (.getfield 50, 3) := by decide +kernel
theorem dX9_putsIn_17 : decode cX9_putsIn 17 = .ok (.iload_n 1, 1) := by decide +kernel
theorem dX9_putsIn_18 : decode cX9_putsIn 18 = .ok (.iaload, 1) := by decide +kernel
theorem dX9_putsIn_19 : decode cX9_putsIn 19 = .ok (.aload_n 0, 1) := by decide +kernel
theorem dX9_putsIn_20 : decode cX9_putsIn 20 = .ok (.getfield 230, 3) := by decide +kernel
theorem dX9_putsIn_23 : decode cX9_putsIn 23 = .ok (.isub, 1) := by decide +kernel
theorem dX9_putsIn_24 : decode cX9_putsIn 24 = .ok (.invokevirtual 242, 3) := by decide +kernel
theorem dX9_putsIn_27 : decode cX9_putsIn 27 = .ok (.putfield 245, 3) := by decide +kernel
theorem dX9_putsIn_30 : decode cX9_putsIn 30 = .ok (.aload_n 0, 1) := by decide +kernel
theorem dX9_putsIn_31 : decode cX9_putsIn 31 = .ok (.aload_n 0, 1) := by decide +kernel
theorem dX9_putsIn_32 : decode cX9_putsIn 32 = .ok (.getfield 120, 3) := by decide +kernel
theorem dX9_putsIn_35 : decode cX9_putsIn 35 = .ok (.ifCond .ne 7, 3) := by decide +kernel
theorem dX9_putsIn_38 : decode cX9_putsIn 38 = .ok (.iconst 0, 1) := by decide +kernel
theorem dX9_putsIn_39 : decode cX9_putsIn 39 = .ok (.goto 9, 3) := by decide +kernel
theorem dX9_putsIn_42 : decode cX9_putsIn 42 = .ok (.aload_n 0, 1) := by decide +kernel
theorem dX9_putsIn_43 : decode cX9_putsIn 43 = .ok (.getfield 53, 3) := by decide +kernel
theorem dX9_putsIn_46 : decode cX9_putsIn 46 = .ok (.iload_n 1, 1) := by decide +kernel
theorem dX9_putsIn_47 : decode cX9_putsIn 47 = .ok (.iaload, 1) := by decide +kernel
theorem dX9_putsIn_48 : decode cX9_putsIn 48 = .ok (.putfield 248, 3) := by decide +kernel
theorem dX9_putsIn_51 : decode cX9_putsIn 51 = .ok (.return_, 1) := by decide +kernel
theorem dX9_one_0 : decode cX9_one 0 = .ok (.iload_n 1, 1) := by decide +kernel
theorem dX9_one_1 : decode cX9_one 1 = .ok (.iconst 1, 1) := by decide +kernel
theorem dX9_one_2 : decode cX9_one 2 = .ok (.if_icmp .ge 7, 3) := by decide +kernel
theorem dX9_one_5 : decode cX9_one 5 = .ok (.iconst 1, 1) := by decide +kernel
theorem dX9_one_6 : decode cX9_one 6 = .ok (.goto 4, 3) := by decide +kernel
theorem dX9_one_9 : decode cX9_one 9 = .ok (.iload_n 1, 1) := by decide +kernel
theorem dX9_one_10 : decode cX9_one 10 = .ok (.ireturn, 1) := by decide +kernel
theorem dX9_stride_0 : decode cX9_stride 0 = .ok (.aload_n 0, 1) := by decide +kernel
theorem dX9_stride_1 : decode cX9_stride 1 = .ok (.getfield 224, 3) := by decide +kernel
theorem dX9_stride_4 : decode cX9_stride 4 = .ok (.tableswitch 107 1 6 #[40, 51, 58, 67, 83, 93], 40) := by decide +kernel
theorem dX9_stride_44 : decode cX9_stride 44 = .ok (.aload_n 0, 1) := by decide +kernel
theorem dX9_stride_45 : decode cX9_stride 45 = .ok (.aload_n 0, 1) := by decide +kernel
theorem dX9_stride_46 : decode cX9_stride 46 = .ok (.getfield 230, 3) := by decide +kernel
theorem dX9_stride_49 : decode cX9_stride 49 = .ok (.iconst 1, 1) := by decide +kernel
theorem dX9_stride_50 : decode cX9_stride 50 = .ok (.isub, 1) := by decide +kernel
theorem dX9_stride_51 : decode cX9_stride 51 = .ok (.invokevirtual 251, 3) := by decide +kernel
theorem dX9_stride_54 : decode cX9_stride 54 = .ok (.ireturn, 1) := by decide +kernel
theorem dX9_stride_55 : decode cX9_stride 55 = .ok (.aload_n 0, 1) := by decide +kernel
theorem dX9_stride_56 : decode cX9_stride 56 = .ok (.getfield 230, 3) := by decide +kernel
theorem dX9_stride_59 : decode cX9_stride 59 = .ok (.iconst 2, 1) := by decide +kernel
theorem dX9_stride_60 : decode cX9_stride 60 = .ok (.iadd, 1) := by decide +kernel
theorem dX9_stride_61 : decode cX9_stride 61 = .ok (.ireturn, 1) := by decide +kernel
theorem dX9_stride_62 : decode cX9_stride 62 = .ok (.aload_n 0, 1) := by decide +kernel
theorem dX9_stride_63 : decode cX9_stride 63 = .ok (.getfield 230, 3) := by decide +kernel
theorem dX9_stride_66 : decode cX9_stride 66 = .ok (.iconst 1, 1) := by decide +kernel
theorem dX9_stride_67 : decode cX9_stride 67 = .ok (.iadd, 1) := by decide +kernel
theorem dX9_stride_68 : decode cX9_stride 68 = .ok (.iconst 2, 1) := by decide +kernel
theorem dX9_stride_69 : decode cX9_stride 69 = .ok (.idiv, 1) := by decide +kernel
theorem dX9_stride_70 : decode cX9_stride 70 = .ok (.ireturn, 1) := by decide +kernel
theorem dX9_stride_71 : decode cX9_stride 71 = .ok (.aload_n 0, 1) := by decide +kernel
theorem dX9_stride_72 : decode cX9_stride 72 = .ok (.aload_n 0, 1) := by decide +kernel
theorem dX9_stride_73 : decode cX9_stride 73 = .ok (.getfield 230, 3) := by decide +kernel
theorem dX9_stride_76 : decode cX9_stride 76 = .ok (.iconst 1, 1) := by decide +kernel
theorem dX9_stride_77 : decode cX9_stride 77 = .ok (.iadd, 1) := by decide +kernel
theorem dX9_stride_78 : decode cX9_stride 78 = .ok (.aload_n 0, 1) := by decide +kernel
theorem dX9_stride_79 : decode cX9_stride 79 = .ok (.getfield 245, 3) := by decide +kernel
theorem dX9_stride_82 : decode cX9_stride 82 = .ok (.isub, 1) := by decide +kernel
theorem dX9_stride_83 : decode cX9_stride 83 = .ok (.invokevirtual 251, 3) := by decide +kernel
theorem dX9_stride_86 : decode cX9_stride 86 = .ok (.ireturn, 1) := by decide +kernel
theorem dX9_stride_87 : decode cX9_stride 87 = .ok (.aload_n 0, 1) := by decide +kernel
theorem dX9_stride_88 : decode cX9_stride 88 = .ok (.getfield 230, 3) := by decide +kernel
theorem dX9_stride_91 : decode cX9_stride 91 = .ok (.aload_n 0, 1) := by decide +kernel
theorem dX9_stride_92 : decode cX9_stride 92 = .ok (.getfield 227, 3) := by decide +kernel
theorem dX9_stride_95 : decode cX9_stride 95 = .ok (.iadd, 1) := by decide +kernel
theorem dX9_stride_96 : decode cX9_stride 96 = .ok (.ireturn, 1) := by decide +kernel
theorem dX9_stride_97 : decode cX9_stride 97 = .ok (.aload_n 0, 1) := by decide +kernel
theorem dX9_stride_98 : decode cX9_stride 98 = .ok (.aload_n 0, 1) := by decide +kernel
theorem dX9_stride_99 : decode cX9_stride 99 = .ok (.getfield 230, 3) := by decide +kernel
theorem dX9_stride_102 : decode cX9_stride 102 = .ok (.aload_n 0, 1) := by decide +kernel
theorem dX9_stride_103 : decode cX9_stride 103 = .ok (.getfield 245, 3) := by decide +kernel
theorem dX9_stride_106 : decode cX9_stride 106 = .ok (.isub, 1) := by decide +kernel
theorem dX9_stride_107 : decode cX9_stride 107 = .ok (.invokevirtual 251, 3) := by decide +kernel
theorem dX9_stride_110 : decode cX9_stride 110 = .ok (.ireturn, 1) := by decide +kernel
theorem dX9_stride_111 : decode cX9_stride 111 = .ok (.aload_n 0, 1) := by decide +kernel
theorem dX9_stride_112 : decode cX9_stride 112 = .ok (.getfield 230, 3) := by decide +kernel
theorem dX9_stride_115 : decode cX9_stride 115 = .ok (.ireturn, 1) := by decide +kernel
theorem dX9_puff_0 : decode cX9_puff 0 = .ok (.aload_n 0, 1) := by decide +kernel
theorem dX9_puff_1 : decode cX9_puff 1 = .ok (.getfield 224, 3) := by decide +kernel
theorem dX9_puff_4 : decode cX9_puff 4 = .ok (.tableswitch 46 1 5 #[36, 38, 40, 42, 44], 36) := by decide +kernel
theorem dX9_puff_40 : decode cX9_puff 40 = .ok (.iconst 1, 1) := by decide +kernel
theorem dX9_puff_41 : decode cX9_puff 41 = .ok (.ireturn, 1) := by decide +kernel
theorem dX9_puff_42 : decode cX9_puff 42 = .ok (.iconst 4, 1) := by decide +kernel
theorem dX9_puff_43 : decode cX9_puff 43 = .ok (.ireturn, 1) := by decide +kernel
theorem dX9_puff_44 : decode cX9_puff 44 = .ok (.iconst 0, 1) := by decide +kernel
theorem dX9_puff_45 : decode cX9_puff 45 = .ok (.ireturn, 1) := by decide +kernel
theorem dX9_puff_46 : decode cX9_puff 46 = .ok (.iconst 3, 1) := by decide +kernel
theorem dX9_puff_47 : decode cX9_puff 47 = .ok (.ireturn, 1) := by decide +kernel
theorem dX9_puff_48 : decode cX9_puff 48 = .ok (.iconst 5, 1) := by decide +kernel
theorem dX9_puff_49 : decode cX9_puff 49 = .ok (.ireturn, 1) := by decide +kernel
theorem dX9_puff_50 : decode cX9_puff 50 = .ok (.iconst 2, 1) := by decide +kernel
theorem dX9_puff_51 : decode cX9_puff 51 = .ok (.ireturn, 1) := by decide +kernel
theorem dX9_risk_0 : decode cX9_risk 0 = .ok (.iconst 5, 1) := by decide +kernel
theorem dX9_risk_1 : decode cX9_risk 1 = .ok (.aload_n 0, 1) := by decide +kernel
theorem dX9_risk_2 : decode cX9_risk 2 = .ok (.getfield 245, 3) := by decide +kernel
theorem dX9_risk_5 : decode cX9_risk 5 = .ok (.imul, 1) := by decide +kernel
theorem dX9_risk_6 : decode cX9_risk 6 = .ok (.iconst 3, 1) := by decide +kernel
theorem dX9_risk_7 : decode cX9_risk 7 = .ok (.aload_n 0, 1) := by decide +kernel
theorem dX9_risk_8 : decode cX9_risk 8 = .ok (.getfield 248, 3) := by decide +kernel
theorem dX9_risk_11 : decode cX9_risk 11 = .ok (.imul, 1) := by decide +kernel
theorem dX9_risk_12 : decode cX9_risk 12 = .ok (.iadd, 1) := by decide +kernel
theorem dX9_risk_13 : decode cX9_risk 13 = .ok (.aload_n 0, 1) := by decide +kernel
theorem dX9_risk_14 : decode cX9_risk 14 = .ok (.invokevirtual 142, 3) := by decide +kernel
theorem dX9_risk_17 : decode cX9_risk 17 = .ok (.iadd, 1) := by decide +kernel
theorem dX9_risk_18 : decode cX9_risk 18 = .ok (.istore_n 1, 1) := by decide +kernel
theorem dX9_risk_19 : decode cX9_risk 19 = .ok (.aload_n 0, 1) := by decide +kernel
theorem dX9_risk_20 : decode cX9_risk 20 = .ok (.getfield 224, 3) := by decide +kernel
theorem dX9_risk_23 : decode cX9_risk 23 = .ok (.iconst 4, 1) := by decide +kernel
theorem dX9_risk_24 : decode cX9_risk 24 = .ok (.if_icmp .eq 12, 3) := by decide +kernel
theorem dX9_risk_27 : decode cX9_risk 27 = .ok (.aload_n 0, 1) := by decide +kernel
theorem dX9_risk_28 : decode cX9_risk 28 = .ok (.getfield 224, 3) := by decide +kernel
theorem dX9_risk_31 : decode cX9_risk 31 = .ok (.bipush 6, 2) := by decide +kernel
theorem dX9_risk_33 : decode cX9_risk 33 = .ok (.if_icmp .ne 9, 3) := by decide +kernel
theorem dX9_risk_36 : decode cX9_risk 36 = .ok (.iload_n 1, 1) := by decide +kernel
theorem dX9_risk_37 : decode cX9_risk 37 = .ok (.iconst 2, 1) := by decide +kernel
theorem dX9_risk_38 : decode cX9_risk 38 = .ok (.idiv, 1) := by decide +kernel
theorem dX9_risk_39 : decode cX9_risk 39 = .ok (.goto 4, 3) := by decide +kernel
theorem dX9_risk_42 : decode cX9_risk 42 = .ok (.iload_n 1, 1) := by decide +kernel
theorem dX9_risk_43 : decode cX9_risk 43 = .ok (.ireturn, 1) := by decide +kernel
theorem dX9_riskNow_0 : decode cX9_riskNow 0 = .ok (.aload_n 0, 1) := by decide +kernel
theorem dX9_riskNow_1 : decode cX9_riskNow 1 = .ok (.invokevirtual 145, 3) := by decide +kernel
theorem dX9_riskNow_4 : decode cX9_riskNow 4 = .ok (.aload_n 0, 1) := by decide +kernel
theorem dX9_riskNow_5 : decode cX9_riskNow 5 = .ok (.getfield 254, 3) := by decide +kernel
theorem dX9_riskNow_8 : decode cX9_riskNow 8 = .ok (.aload_n 0, 1) := by decide +kernel
theorem dX9_riskNow_9 : decode cX9_riskNow 9 = .ok (.invokevirtual 138, 3) := by decide +kernel
theorem dX9_riskNow_12 : decode cX9_riskNow 12 = .ok (.if_icmp .ge 8, 3) := by decide +kernel
theorem dX9_riskNow_15 : decode cX9_riskNow 15 = .ok (.bipush 20, 2) := by decide +kernel
theorem dX9_riskNow_17 : decode cX9_riskNow 17 = .ok (.goto 4, 3) := by decide +kernel
theorem dX9_riskNow_20 : decode cX9_riskNow 20 = .ok (.iconst 0, 1) := by decide +kernel
theorem dX9_riskNow_21 : decode cX9_riskNow 21 = .ok (.iadd, 1) := by decide +kernel
theorem dX9_riskNow_22 : decode cX9_riskNow 22 = .ok (.ireturn, 1) := by decide +kernel
theorem dX9_starts_0 : decode cX9_starts 0 = .ok (.aload_n 0, 1) := by decide +kernel
theorem dX9_starts_1 : decode cX9_starts 1 = .ok (.aload_n 0, 1) := by decide +kernel
theorem dX9_starts_2 : decode cX9_starts 2 = .ok (.getfield 233, 3) := by decide +kernel
theorem dX9_starts_5 : decode cX9_starts 5 = .ok (.putfield 257, 3) := by decide +kernel
theorem dX9_starts_8 : decode cX9_starts 8 = .ok (.aload_n 0, 1) := by decide +kernel
theorem dX9_starts_9 : decode cX9_starts 9 = .ok (.aload_n 0, 1) := by decide +kernel
theorem dX9_starts_10 : decode cX9_starts 10 = .ok (.getfield 19, 3) := by decide +kernel
theorem dX9_starts_13 : decode cX9_starts 13 = .ok (.putfield 254, 3) := by decide +kernel
theorem dX9_starts_16 : decode cX9_starts 16 = .ok (.aload_n 0, 1) := by decide +kernel
theorem dX9_starts_17 : decode cX9_starts 17 = .ok (.iconst 0, 1) := by decide +kernel
theorem dX9_starts_18 : decode cX9_starts 18 = .ok (.putfield 260, 3) := by decide +kernel
theorem dX9_starts_21 : decode cX9_starts 21 = .ok (.aload_n 0, 1) := by decide +kernel
theorem dX9_starts_22 : decode cX9_starts 22 = .ok (.iconst 0, 1) := by decide +kernel
theorem dX9_starts_23 : decode cX9_starts 23 = .ok (.putfield 263, 3) := by decide +kernel
theorem dX9_starts_26 : decode cX9_starts 26 = .ok (.aload_n 0, 1) := by decide +kernel
theorem dX9_starts_27 : decode cX9_starts 27 = .ok (.iconst 0, 1) := by decide +kernel
theorem dX9_starts_28 : decode cX9_starts 28 = .ok (.putfield 266, 3) := by decide +kernel
theorem dX9_starts_31 : decode cX9_starts 31 = .ok (.return_, 1) := by decide +kernel
theorem dX9_falls_0 : decode cX9_falls 0 = .ok (.aload_n 0, 1) := by decide +kernel
theorem dX9_falls_1 : decode cX9_falls 1 = .ok (.aload_n 0, 1) := by decide +kernel
theorem dX9_falls_2 : decode cX9_falls 2 = .ok (.getfield 13, 3) := by decide +kernel
theorem dX9_falls_5 : decode cX9_falls 5 = .ok (.putfield 263, 3) := by decide +kernel
theorem dX9_falls_8 : decode cX9_falls 8 = .ok (.aload_n 0, 1) := by decide +kernel
theorem dX9_falls_9 : decode cX9_falls 9 = .ok (.dup, 1) := by decide +kernel
theorem dX9_falls_10 : decode cX9_falls 10 = .ok (.getfield 266, 3) := by decide +kernel
theorem dX9_falls_13 : decode cX9_falls 13 = .ok (.iconst 1, 1) := by decide +kernel
theorem dX9_falls_14 : decode cX9_falls 14 = .ok (.iadd, 1) := by decide +kernel
theorem dX9_falls_15 : decode cX9_falls 15 = .ok (.putfield 266, 3) := by decide +kernel
theorem dX9_falls_18 : decode cX9_falls 18 = .ok (.return_, 1) := by decide +kernel
theorem dX9_rests_0 : decode cX9_rests 0 = .ok (.aload_n 0, 1) := by decide +kernel
theorem dX9_rests_1 : decode cX9_rests 1 = .ok (.dup, 1) := by decide +kernel
theorem dX9_rests_2 : decode cX9_rests 2 = .ok (.getfield 263, 3) := by decide +kernel
theorem dX9_rests_5 : decode cX9_rests 5 = .ok (.iconst 1, 1) := by decide +kernel
theorem dX9_rests_6 : decode cX9_rests 6 = .ok (.isub, 1) := by decide +kernel
theorem dX9_rests_7 : decode cX9_rests 7 = .ok (.putfield 263, 3) := by decide +kernel
theorem dX9_rests_10 : decode cX9_rests 10 = .ok (.aload_n 0, 1) := by decide +kernel
theorem dX9_rests_11 : decode cX9_rests 11 = .ok (.aload_n 0, 1) := by decide +kernel
theorem dX9_rests_12 : decode cX9_rests 12 = .ok (.getfield 254, 3) := by decide +kernel
theorem dX9_rests_15 : decode cX9_rests 15 = .ok (.iconst 2, 1) := by decide +kernel
theorem dX9_rests_16 : decode cX9_rests 16 = .ok (.iadd, 1) := by decide +kernel
theorem dX9_rests_17 : decode cX9_rests 17 = .ok (.bipush 60, 2) := by decide +kernel
theorem dX9_rests_19 : decode cX9_rests 19 = .ok (.if_icmp .le 8, 3) := by decide +kernel
theorem dX9_rests_22 : decode cX9_rests 22 = .ok (.bipush 60, 2) := by decide +kernel
theorem dX9_rests_24 : decode cX9_rests 24 = .ok (.goto 9, 3) := by decide +kernel
theorem dX9_rests_27 : decode cX9_rests 27 = .ok (.aload_n 0, 1) := by decide +kernel
theorem dX9_rests_28 : decode cX9_rests 28 = .ok (.getfield 254, 3) := by decide +kernel
theorem dX9_rests_31 : decode cX9_rests 31 = .ok (.iconst 2, 1) := by decide +kernel
theorem dX9_rests_32 : decode cX9_rests 32 = .ok (.iadd, 1) := by decide +kernel
theorem dX9_rests_33 : decode cX9_rests 33 = .ok (.putfield 254, 3) := by decide +kernel
theorem dX9_rests_36 : decode cX9_rests 36 = .ok (.aload_n 0, 1) := by decide +kernel
theorem dX9_rests_37 : decode cX9_rests 37 = .ok (.getfield 236, 3) := by decide +kernel
theorem dX9_rests_40 : decode cX9_rests 40 = .ok (.iconst 1, 1) := by decide +kernel
theorem dX9_rests_41 : decode cX9_rests 41 = .ok (.if_icmp .ne 13, 3) := by decide +kernel
theorem dX9_rests_44 : decode cX9_rests 44 = .ok (.aload_n 0, 1) := by decide +kernel
theorem dX9_rests_45 : decode cX9_rests 45 = .ok (.dup, 1) := by decide +kernel
theorem dX9_rests_46 : decode cX9_rests 46 = .ok (.getfield 257, 3) := by decide +kernel
theorem dX9_rests_49 : decode cX9_rests 49 = .ok (.iconst 1, 1) := by decide +kernel
theorem dX9_rests_50 : decode cX9_rests 50 = .ok (.iadd, 1) := by decide +kernel
theorem dX9_rests_51 : decode cX9_rests 51 = .ok (.putfield 257, 3) := by decide +kernel
theorem dX9_rests_54 : decode cX9_rests 54 = .ok (.return_, 1) := by decide +kernel
theorem dX9_puffs_0 : decode cX9_puffs 0 = .ok (.aload_n 0, 1) := by decide +kernel
theorem dX9_puffs_1 : decode cX9_puffs 1 = .ok (.aload_n 0, 1) := by decide +kernel
theorem dX9_puffs_2 : decode cX9_puffs 2 = .ok (.getfield 254, 3) := by decide +kernel
theorem dX9_puffs_5 : decode cX9_puffs 5 = .ok (.aload_n 0, 1) := by decide +kernel
theorem dX9_puffs_6 : decode cX9_puffs 6 = .ok (.invokevirtual 138, 3) := by decide +kernel
theorem dX9_puffs_9 : decode cX9_puffs 9 = .ok (.if_icmp .le 15, 3) := by decide +kernel
theorem dX9_puffs_12 : decode cX9_puffs 12 = .ok (.aload_n 0, 1) := by decide +kernel
theorem dX9_puffs_13 : decode cX9_puffs 13 = .ok (.getfield 254, 3) := by decide +kernel
theorem dX9_puffs_16 : decode cX9_puffs 16 = .ok (.aload_n 0, 1) := by decide +kernel
theorem dX9_puffs_17 : decode cX9_puffs 17 = .ok (.invokevirtual 138, 3) := by decide +kernel
theorem dX9_puffs_20 : decode cX9_puffs 20 = .ok (.isub, 1) := by decide +kernel
theorem dX9_puffs_21 : decode cX9_puffs 21 = .ok (.goto 4, 3) := by decide +kernel
theorem dX9_puffs_24 : decode cX9_puffs 24 = .ok (.iconst 0, 1) := by decide +kernel
theorem dX9_puffs_25 : decode cX9_puffs 25 = .ok (.iconst 1, 1) := by decide +kernel
theorem dX9_puffs_26 : decode cX9_puffs 26 = .ok (.iadd, 1) := by decide +kernel
theorem dX9_puffs_27 : decode cX9_puffs 27 = .ok (.putfield 254, 3) := by decide +kernel
theorem dX9_puffs_30 : decode cX9_puffs 30 = .ok (.aload_n 0, 1) := by decide +kernel
theorem dX9_puffs_31 : decode cX9_puffs 31 = .ok (.aload_n 0, 1) := by decide +kernel
theorem dX9_puffs_32 : decode cX9_puffs 32 = .ok (.getfield 254, 3) := by decide +kernel
theorem dX9_puffs_35 : decode cX9_puffs 35 = .ok (.bipush 60, 2) := by decide +kernel
theorem dX9_puffs_37 : decode cX9_puffs 37 = .ok (.if_icmp .le 8, 3) := by decide +kernel
theorem dX9_puffs_40 : decode cX9_puffs 40 = .ok (.bipush 60, 2) := by decide +kernel
theorem dX9_puffs_42 : decode cX9_puffs 42 = .ok (.goto 7, 3) := by decide +kernel
theorem dX9_puffs_45 : decode cX9_puffs 45 = .ok (.aload_n 0, 1) := by decide +kernel
theorem dX9_puffs_46 : decode cX9_puffs 46 = .ok (.getfield 254, 3) := by decide +kernel
theorem dX9_puffs_49 : decode cX9_puffs 49 = .ok (.putfield 254, 3) := by decide +kernel
theorem dX9_puffs_52 : decode cX9_puffs 52 = .ok (.return_, 1) := by decide +kernel
theorem dX9_second_0 : decode cX9_second 0 = .ok (.aload_n 0, 1) := by decide +kernel
theorem dX9_second_1 : decode cX9_second 1 = .ok (.getfield 263, 3) := by decide +kernel
theorem dX9_second_4 : decode cX9_second 4 = .ok (.ifCond .le 8, 3) := by decide +kernel
theorem dX9_second_7 : decode cX9_second 7 = .ok (.aload_n 0, 1) := by decide +kernel
theorem dX9_second_8 : decode cX9_second 8 = .ok (.invokevirtual 269, 3) := by decide +kernel
theorem dX9_second_11 : decode cX9_second 11 = .ok (.return_, 1) := by decide +kernel
theorem dX9_second_12 : decode cX9_second 12 = .ok (.aload_n 0, 1) := by decide +kernel
theorem dX9_second_13 : decode cX9_second 13 = .ok (.dup, 1) := by decide +kernel
theorem dX9_second_14 : decode cX9_second 14 = .ok (.getfield 260, 3) := by decide +kernel
theorem dX9_second_17 : decode cX9_second 17 = .ok (.aload_n 0, 1) := by decide +kernel
theorem dX9_second_18 : decode cX9_second 18 = .ok (.invokevirtual 272, 3) := by decide +kernel
theorem dX9_second_21 : decode cX9_second 21 = .ok (.iadd, 1) := by decide +kernel
theorem dX9_second_22 : decode cX9_second 22 = .ok (.putfield 260, 3) := by decide +kernel
theorem dX9_second_25 : decode cX9_second 25 = .ok (.aload_n 0, 1) := by decide +kernel
theorem dX9_second_26 : decode cX9_second 26 = .ok (.invokevirtual 275, 3) := by decide +kernel
theorem dX9_second_29 : decode cX9_second 29 = .ok (.aload_n 0, 1) := by decide +kernel
theorem dX9_second_30 : decode cX9_second 30 = .ok (.getfield 260, 3) := by decide +kernel
theorem dX9_second_33 : decode cX9_second 33 = .ok (.bipush 100, 2) := by decide +kernel
theorem dX9_second_35 : decode cX9_second 35 = .ok (.if_icmp .lt 21, 3) := by decide +kernel
theorem dX9_second_38 : decode cX9_second 38 = .ok (.aload_n 0, 1) := by decide +kernel
theorem dX9_second_39 : decode cX9_second 39 = .ok (.dup, 1) := by decide +kernel
theorem dX9_second_40 : decode cX9_second 40 = .ok (.getfield 260, 3) := by decide +kernel
theorem dX9_second_43 : decode cX9_second 43 = .ok (.bipush 100, 2) := by decide +kernel
theorem dX9_second_45 : decode cX9_second 45 = .ok (.isub, 1) := by decide +kernel
theorem dX9_second_46 : decode cX9_second 46 = .ok (.putfield 260, 3) := by decide +kernel
theorem dX9_second_49 : decode cX9_second 49 = .ok (.aload_n 0, 1) := by decide +kernel
theorem dX9_second_50 : decode cX9_second 50 = .ok (.invokevirtual 278, 3) := by decide +kernel
theorem dX9_second_53 : decode cX9_second 53 = .ok (.goto 16, 3) := by decide +kernel
theorem dX9_second_56 : decode cX9_second 56 = .ok (.aload_n 0, 1) := by decide +kernel
theorem dX9_second_57 : decode cX9_second 57 = .ok (.dup, 1) := by decide +kernel
theorem dX9_second_58 : decode cX9_second 58 = .ok (.getfield 257, 3) := by decide +kernel
theorem dX9_second_61 : decode cX9_second 61 = .ok (.aload_n 0, 1) := by decide +kernel
theorem dX9_second_62 : decode cX9_second 62 = .ok (.invokevirtual 142, 3) := by decide +kernel
theorem dX9_second_65 : decode cX9_second 65 = .ok (.iadd, 1) := by decide +kernel
theorem dX9_second_66 : decode cX9_second 66 = .ok (.putfield 257, 3) := by decide +kernel
theorem dX9_second_69 : decode cX9_second 69 = .ok (.return_, 1) := by decide +kernel
theorem dX9_withRope_0 : decode cX9_withRope 0 = .ok (.iload_n 1, 1) := by decide +kernel
theorem dX9_withRope_1 : decode cX9_withRope 1 = .ok (.aload_n 0, 1) := by decide +kernel
theorem dX9_withRope_2 : decode cX9_withRope 2 = .ok (.getfield 16, 3) := by decide +kernel
theorem dX9_withRope_5 : decode cX9_withRope 5 = .ok (.aload_n 0, 1) := by decide +kernel
theorem dX9_withRope_6 : decode cX9_withRope 6 = .ok (.getfield 230, 3) := by decide +kernel
theorem dX9_withRope_9 : decode cX9_withRope 9 = .ok (.if_icmp .le 15, 3) := by decide +kernel
theorem dX9_withRope_12 : decode cX9_withRope 12 = .ok (.aload_n 0, 1) := by decide +kernel
theorem dX9_withRope_13 : decode cX9_withRope 13 = .ok (.getfield 16, 3) := by decide +kernel
theorem dX9_withRope_16 : decode cX9_withRope 16 = .ok (.aload_n 0, 1) := by decide +kernel
theorem dX9_withRope_17 : decode cX9_withRope 17 = .ok (.getfield 230, 3) := by decide +kernel
theorem dX9_withRope_20 : decode cX9_withRope 20 = .ok (.isub, 1) := by decide +kernel
theorem dX9_withRope_21 : decode cX9_withRope 21 = .ok (.goto 4, 3) := by decide +kernel
theorem dX9_withRope_24 : decode cX9_withRope 24 = .ok (.iconst 0, 1) := by decide +kernel
theorem dX9_withRope_25 : decode cX9_withRope 25 = .ok (.iadd, 1) := by decide +kernel
theorem dX9_withRope_26 : decode cX9_withRope 26 = .ok (.istore_n 2, 1) := by decide +kernel
theorem dX9_withRope_27 : decode cX9_withRope 27 = .ok (.iload_n 2, 1) := by decide +kernel
theorem dX9_withRope_28 : decode cX9_withRope 28 = .ok (.sipush 999, 3) := by decide +kernel
theorem dX9_withRope_31 : decode cX9_withRope 31 = .ok (.if_icmp .le 9, 3) := by decide +kernel
theorem dX9_withRope_34 : decode cX9_withRope 34 = .ok (.sipush 999, 3) := by decide +kernel
theorem dX9_withRope_37 : decode cX9_withRope 37 = .ok (.goto 4, 3) := by decide +kernel
theorem dX9_withRope_40 : decode cX9_withRope 40 = .ok (.iload_n 2, 1) := by decide +kernel
theorem dX9_withRope_41 : decode cX9_withRope 41 = .ok (.ireturn, 1) := by decide +kernel
theorem dX9_in_0 : decode cX9_in 0 = .ok (.aload_n 0, 1) := by decide +kernel
theorem dX9_in_1 : decode cX9_in 1 = .ok (.invokevirtual 281, 3) := by decide +kernel
theorem dX9_in_4 : decode cX9_in 4 = .ok (.iconst 0, 1) := by decide +kernel
theorem dX9_in_5 : decode cX9_in 5 = .ok (.istore_n 1, 1) := by decide +kernel
theorem dX9_in_6 : decode cX9_in 6 = .ok (.aload_n 0, 1) := by decide +kernel
theorem dX9_in_7 : decode cX9_in 7 = .ok (.getfield 257, 3) := by decide +kernel
theorem dX9_in_10 : decode cX9_in 10 = .ok (.aload_n 0, 1) := by decide +kernel
theorem dX9_in_11 : decode cX9_in 11 = .ok (.getfield 7, 3) := by decide +kernel
theorem dX9_in_14 : decode cX9_in 14 = .ok (.if_icmp .ge 20, 3) := by decide +kernel
theorem dX9_in_17 : decode cX9_in 17 = .ok (.iload_n 1, 1) := by decide +kernel
theorem dX9_in_18 : decode cX9_in 18 = .ok (.sipush 999, 3) := by decide +kernel
theorem dX9_in_21 : decode cX9_in 21 = .ok (.if_icmp .ge 13, 3) := by decide +kernel
theorem dX9_in_24 : decode cX9_in 24 = .ok (.aload_n 0, 1) := by decide +kernel
theorem dX9_in_25 : decode cX9_in 25 = .ok (.invokevirtual 284, 3) := by decide +kernel
theorem dX9_in_28 : decode cX9_in 28 = .ok (.iinc 1 1, 3) := by decide +kernel
theorem dX9_in_31 : decode cX9_in 31 = .ok (.goto (-25), 3) := by decide +kernel
theorem dX9_in_34 : decode cX9_in 34 = .ok (.aload_n 0, 1) := by decide +kernel
theorem dX9_in_35 : decode cX9_in 35 = .ok (.getfield 257, 3) := by decide +kernel
theorem dX9_in_38 : decode cX9_in 38 = .ok (.aload_n 0, 1) := by decide +kernel
theorem dX9_in_39 : decode cX9_in 39 = .ok (.getfield 7, 3) := by decide +kernel
theorem dX9_in_42 : decode cX9_in 42 = .ok (.if_icmp .ge 9, 3) := by decide +kernel
theorem dX9_in_45 : decode cX9_in 45 = .ok (.sipush 999, 3) := by decide +kernel
theorem dX9_in_48 : decode cX9_in 48 = .ok (.goto 8, 3) := by decide +kernel
theorem dX9_in_51 : decode cX9_in 51 = .ok (.aload_n 0, 1) := by decide +kernel
theorem dX9_in_52 : decode cX9_in 52 = .ok (.iload_n 1, 1) := by decide +kernel
theorem dX9_in_53 : decode cX9_in 53 = .ok (.invokevirtual 287, 3) := by decide +kernel
theorem dX9_in_56 : decode cX9_in 56 = .ok (.ireturn, 1) := by decide +kernel
theorem dX9_inOf_0 : decode cX9_inOf 0 = .ok (.aload_n 0, 1) := by decide +kernel
theorem dX9_inOf_1 : decode cX9_inOf 1 = .ok (.iload_n 1, 1) := by decide +kernel
theorem dX9_inOf_2 : decode cX9_inOf 2 = .ok (.invokevirtual 134, 3) := by decide +kernel
theorem dX9_inOf_5 : decode cX9_inOf 5 = .ok (.aload_n 0, 1) := by decide +kernel
theorem dX9_inOf_6 : decode cX9_inOf 6 = .ok (.invokevirtual 290, 3) := by decide +kernel
theorem dX9_inOf_9 : decode cX9_inOf 9 = .ok (.ireturn, 1) := by decide +kernel
theorem dX9_inWith_0 : decode cX9_inWith 0 = .ok (.aload_n 0, 1) := by decide +kernel
theorem dX9_inWith_1 : decode cX9_inWith 1 = .ok (.iload_n 1, 1) := by decide +kernel
theorem dX9_inWith_2 : decode cX9_inWith 2 = .ok (.invokevirtual 134, 3) := by decide +kernel
theorem dX9_inWith_5 : decode cX9_inWith 5 = .ok (.aload_n 0, 1) := by decide +kernel
theorem dX9_inWith_6 : decode cX9_inWith 6 = .ok (.iload_n 2, 1) := by decide +kernel
theorem dX9_inWith_7 : decode cX9_inWith 7 = .ok (.invokevirtual 239, 3) := by decide +kernel
theorem dX9_inWith_10 : decode cX9_inWith 10 = .ok (.aload_n 0, 1) := by decide +kernel
theorem dX9_inWith_11 : decode cX9_inWith 11 = .ok (.invokevirtual 290, 3) := by decide +kernel
theorem dX9_inWith_14 : decode cX9_inWith 14 = .ok (.ireturn, 1) := by decide +kernel
theorem dX9_inAs_0 : decode cX9_inAs 0 = .ok (.aload_n 0, 1) := by decide +kernel
theorem dX9_inAs_1 : decode cX9_inAs 1 = .ok (.iload_n 1, 1) := by decide +kernel
theorem dX9_inAs_2 : decode cX9_inAs 2 = .ok (.invokevirtual 134, 3) := by decide +kernel
theorem dX9_inAs_5 : decode cX9_inAs 5 = .ok (.aload_n 0, 1) := by decide +kernel
theorem dX9_inAs_6 : decode cX9_inAs 6 = .ok (.iload_n 2, 1) := by decide +kernel
theorem dX9_inAs_7 : decode cX9_inAs 7 = .ok (.putfield 224, 3) := by decide +kernel
theorem dX9_inAs_10 : decode cX9_inAs 10 = .ok (.aload_n 0, 1) := by decide +kernel
theorem dX9_inAs_11 : decode cX9_inAs 11 = .ok (.invokevirtual 290, 3) := by decide +kernel
theorem dX9_inAs_14 : decode cX9_inAs 14 = .ok (.ireturn, 1) := by decide +kernel
theorem dX9_inFrom_0 : decode cX9_inFrom 0 = .ok (.aload_n 0, 1) := by decide +kernel
theorem dX9_inFrom_1 : decode cX9_inFrom 1 = .ok (.iload_n 1, 1) := by decide +kernel
theorem dX9_inFrom_2 : decode cX9_inFrom 2 = .ok (.invokevirtual 134, 3) := by decide +kernel
theorem dX9_inFrom_5 : decode cX9_inFrom 5 = .ok (.aload_n 0, 1) := by decide +kernel
theorem dX9_inFrom_6 : decode cX9_inFrom 6 = .ok (.iload_n 2, 1) := by decide +kernel
theorem dX9_inFrom_7 : decode cX9_inFrom 7 = .ok (.putfield 233, 3) := by decide +kernel
theorem dX9_inFrom_10 : decode cX9_inFrom 10 = .ok (.aload_n 0, 1) := by decide +kernel
theorem dX9_inFrom_11 : decode cX9_inFrom 11 = .ok (.invokevirtual 290, 3) := by decide +kernel
theorem dX9_inFrom_14 : decode cX9_inFrom 14 = .ok (.ireturn, 1) := by decide +kernel
theorem dX9_inRolling_0 : decode cX9_inRolling 0 = .ok (.aload_n 0, 1) := by decide +kernel
theorem dX9_inRolling_1 : decode cX9_inRolling 1 = .ok (.iload_n 1, 1) := by decide +kernel
theorem dX9_inRolling_2 : decode cX9_inRolling 2 = .ok (.invokevirtual 134, 3) := by decide +kernel
theorem dX9_inRolling_5 : decode cX9_inRolling 5 = .ok (.aload_n 0, 1) := by decide +kernel
theorem dX9_inRolling_6 : decode cX9_inRolling 6 = .ok (.iload_n 2, 1) := by decide +kernel
theorem dX9_inRolling_7 : decode cX9_inRolling 7 = .ok (.putfield 236, 3) := by decide +kernel
theorem dX9_inRolling_10 : decode cX9_inRolling 10 = .ok (.aload_n 0, 1) := by decide +kernel
theorem dX9_inRolling_11 : decode cX9_inRolling 11 = .ok (.invokevirtual 290, 3) := by decide +kernel
theorem dX9_inRolling_14 : decode cX9_inRolling 14 = .ok (.ireturn, 1) := by decide +kernel
theorem dX9_behind_0 : decode cX9_behind 0 = .ok (.aload_n 0, 1) := by decide +kernel
theorem dX9_behind_1 : decode cX9_behind 1 = .ok (.iload_n 1, 1) := by decide +kernel
theorem dX9_behind_2 : decode cX9_behind 2 = .ok (.invokevirtual 131, 3) := by decide +kernel
theorem dX9_behind_5 : decode cX9_behind 5 = .ok (.ifCond .ne 9, 3) := by decide +kernel
theorem dX9_behind_8 : decode cX9_behind 8 = .ok (.aload_n 0, 1) := by decide +kernel
theorem dX9_behind_9 : decode cX9_behind 9 = .ok (.iconst (-1), 1) := by decide +kernel
theorem dX9_behind_10 : decode cX9_behind 10 = .ok (.invokevirtual 127, 3) := by decide +kernel
theorem dX9_behind_13 : decode cX9_behind 13 = .ok (.ireturn, 1) := by decide +kernel
theorem dX9_behind_14 : decode cX9_behind 14 = .ok (.iload_n 3, 1) := by decide +kernel
theorem dX9_behind_15 : decode cX9_behind 15 = .ok (.ifCond .lt 8, 3) := by decide +kernel
theorem dX9_behind_18 : decode cX9_behind 18 = .ok (.iload_n 3, 1) := by decide +kernel
theorem dX9_behind_19 : decode cX9_behind 19 = .ok (.iconst 4, 1) := by decide +kernel
theorem dX9_behind_20 : decode cX9_behind 20 = .ok (.if_icmp .le 10, 3) := by decide +kernel
theorem dX9_behind_23 : decode cX9_behind 23 = .ok (.aload_n 0, 1) := by decide +kernel
theorem dX9_behind_24 : decode cX9_behind 24 = .ok (.bipush (-5), 2) := by decide +kernel
theorem dX9_behind_26 : decode cX9_behind 26 = .ok (.invokevirtual 127, 3) := by decide +kernel
theorem dX9_behind_29 : decode cX9_behind 29 = .ok (.ireturn, 1) := by decide +kernel
theorem dX9_behind_30 : decode cX9_behind 30 = .ok (.iload_n 2, 1) := by decide +kernel
theorem dX9_behind_31 : decode cX9_behind 31 = .ok (.ifCond .lt 10, 3) := by decide +kernel
theorem dX9_behind_34 : decode cX9_behind 34 = .ok (.iload_n 2, 1) := by decide +kernel
theorem dX9_behind_35 : decode cX9_behind 35 = .ok (.sipush 999, 3) := by decide +kernel
theorem dX9_behind_38 : decode cX9_behind 38 = .ok (.if_icmp .le 10, 3) := by decide +kernel
theorem dX9_behind_41 : decode cX9_behind 41 = .ok (.aload_n 0, 1) := by decide +kernel
theorem dX9_behind_42 : decode cX9_behind 42 = .ok (.bipush (-6), 2) := by decide +kernel
theorem dX9_behind_44 : decode cX9_behind 44 = .ok (.invokevirtual 127, 3) := by decide +kernel
theorem dX9_behind_47 : decode cX9_behind 47 = .ok (.ireturn, 1) := by decide +kernel
theorem dX9_behind_48 : decode cX9_behind 48 = .ok (.aload_n 0, 1) := by decide +kernel
theorem dX9_behind_49 : decode cX9_behind 49 = .ok (.iload_n 1, 1) := by decide +kernel
theorem dX9_behind_50 : decode cX9_behind 50 = .ok (.invokevirtual 134, 3) := by decide +kernel
theorem dX9_behind_53 : decode cX9_behind 53 = .ok (.aload_n 0, 1) := by decide +kernel
theorem dX9_behind_54 : decode cX9_behind 54 = .ok (.invokevirtual 281, 3) := by decide +kernel
theorem dX9_behind_57 : decode cX9_behind 57 = .ok (.iconst 0, 1) := by decide +kernel
theorem dX9_behind_58 : decode cX9_behind 58 = .ok (.istore 4, 2) := by decide +kernel
theorem dX9_behind_60 : decode cX9_behind 60 = .ok (.iload 4, 2) := by decide +kernel
theorem dX9_behind_62 : decode cX9_behind 62 = .ok (.iload_n 2, 1) := by decide +kernel
theorem dX9_behind_63 : decode cX9_behind 63 = .ok (.if_icmp .ge 24, 3) := by decide +kernel
theorem dX9_behind_66 : decode cX9_behind 66 = .ok (.aload_n 0, 1) := by decide +kernel
theorem dX9_behind_67 : decode cX9_behind 67 = .ok (.getfield 257, 3) := by decide +kernel
theorem dX9_behind_70 : decode cX9_behind 70 = .ok (.aload_n 0, 1) := by decide +kernel
theorem dX9_behind_71 : decode cX9_behind 71 = .ok (.getfield 7, 3) := by decide +kernel
theorem dX9_behind_74 : decode cX9_behind 74 = .ok (.if_icmp .ge 13, 3) := by decide +kernel
theorem dX9_behind_77 : decode cX9_behind 77 = .ok (.aload_n 0, 1) := by decide +kernel
theorem dX9_behind_78 : decode cX9_behind 78 = .ok (.invokevirtual 284, 3) := by decide +kernel
theorem dX9_behind_81 : decode cX9_behind 81 = .ok (.iinc 4 1, 3) := by decide +kernel
theorem dX9_behind_84 : decode cX9_behind 84 = .ok (.goto (-24), 3) := by decide +kernel
theorem dX9_behind_87 : decode cX9_behind 87 = .ok (.iload_n 3, 1) := by decide +kernel
theorem dX9_behind_88 : decode cX9_behind 88 = .ok (.ifCond .ne 10, 3) := by decide +kernel
theorem dX9_behind_91 : decode cX9_behind 91 = .ok (.aload_n 0, 1) := by decide +kernel
theorem dX9_behind_92 : decode cX9_behind 92 = .ok (.getfield 257, 3) := by decide +kernel
theorem dX9_behind_95 : decode cX9_behind 95 = .ok (.goto 43, 3) := by decide +kernel
theorem dX9_behind_98 : decode cX9_behind 98 = .ok (.iload_n 3, 1) := by decide +kernel
theorem dX9_behind_99 : decode cX9_behind 99 = .ok (.iconst 1, 1) := by decide +kernel
theorem dX9_behind_100 : decode cX9_behind 100 = .ok (.if_icmp .ne 10, 3) := by decide +kernel
theorem dX9_behind_103 : decode cX9_behind 103 = .ok (.aload_n 0, 1) := by decide +kernel
theorem dX9_behind_104 : decode cX9_behind 104 = .ok (.getfield 254, 3) := by decide +kernel
theorem dX9_behind_107 : decode cX9_behind 107 = .ok (.goto 31, 3) := by decide +kernel
theorem dX9_behind_110 : decode cX9_behind 110 = .ok (.iload_n 3, 1) := by decide +kernel
theorem dX9_behind_111 : decode cX9_behind 111 = .ok (.iconst 2, 1) := by decide +kernel
theorem dX9_behind_112 : decode cX9_behind 112 = .ok (.if_icmp .ne 10, 3) := by decide +kernel
theorem dX9_behind_115 : decode cX9_behind 115 = .ok (.aload_n 0, 1) := by decide +kernel
theorem dX9_behind_116 : decode cX9_behind 116 = .ok (.getfield 260, 3) := by decide +kernel
theorem dX9_behind_119 : decode cX9_behind 119 = .ok (.goto 19, 3) := by decide +kernel
theorem dX9_behind_122 : decode cX9_behind 122 = .ok (.iload_n 3, 1) := by decide +kernel
theorem dX9_behind_123 : decode cX9_behind 123 = .ok (.iconst 3, 1) := by decide +kernel
theorem dX9_behind_124 : decode cX9_behind 124 = .ok (.if_icmp .ne 10, 3) := by decide +kernel
theorem dX9_behind_127 : decode cX9_behind 127 = .ok (.aload_n 0, 1) := by decide +kernel
theorem dX9_behind_128 : decode cX9_behind 128 = .ok (.getfield 263, 3) := by decide +kernel
theorem dX9_behind_131 : decode cX9_behind 131 = .ok (.goto 7, 3) := by decide +kernel
theorem dX9_behind_134 : decode cX9_behind 134 = .ok (.aload_n 0, 1) := by decide +kernel
theorem dX9_behind_135 : decode cX9_behind 135 = .ok (.getfield 266, 3) := by decide +kernel
theorem dX9_behind_138 : decode cX9_behind 138 = .ok (.ireturn, 1) := by decide +kernel
theorem dX9_comesIn_0 : decode cX9_comesIn 0 = .ok (.aload_n 0, 1) := by decide +kernel
theorem dX9_comesIn_1 : decode cX9_comesIn 1 = .ok (.iload_n 1, 1) := by decide +kernel
theorem dX9_comesIn_2 : decode cX9_comesIn 2 = .ok (.invokevirtual 131, 3) := by decide +kernel
theorem dX9_comesIn_5 : decode cX9_comesIn 5 = .ok (.ifCond .eq 11, 3) := by decide +kernel
theorem dX9_comesIn_8 : decode cX9_comesIn 8 = .ok (.aload_n 0, 1) := by decide +kernel
theorem dX9_comesIn_9 : decode cX9_comesIn 9 = .ok (.iload_n 1, 1) := by decide +kernel
theorem dX9_comesIn_10 : decode cX9_comesIn 10 = .ok (.invokevirtual 293, 3) := by decide +kernel
theorem dX9_comesIn_13 : decode cX9_comesIn 13 = .ok (.goto 8, 3) := by decide +kernel
theorem dX9_comesIn_16 : decode cX9_comesIn 16 = .ok (.aload_n 0, 1) := by decide +kernel
theorem dX9_comesIn_17 : decode cX9_comesIn 17 = .ok (.iconst (-1), 1) := by decide +kernel
theorem dX9_comesIn_18 : decode cX9_comesIn 18 = .ok (.invokevirtual 127, 3) := by decide +kernel
theorem dX9_comesIn_21 : decode cX9_comesIn 21 = .ok (.ireturn, 1) := by decide +kernel
theorem dX9_firstIn_0 : decode cX9_firstIn 0 = .ok (.iconst 0, 1) := by decide +kernel
theorem dX9_firstIn_1 : decode cX9_firstIn 1 = .ok (.istore_n 1, 1) := by decide +kernel
theorem dX9_firstIn_2 : decode cX9_firstIn 2 = .ok (.iconst 1, 1) := by decide +kernel
theorem dX9_firstIn_3 : decode cX9_firstIn 3 = .ok (.istore_n 2, 1) := by decide +kernel
theorem dX9_firstIn_4 : decode cX9_firstIn 4 = .ok (.iload_n 2, 1) := by decide +kernel
theorem dX9_firstIn_5 : decode cX9_firstIn 5 = .ok (.aload_n 0, 1) := by decide +kernel
theorem dX9_firstIn_6 : decode cX9_firstIn 6 = .ok (.getfield 117, 3) := by decide +kernel
theorem dX9_firstIn_9 : decode cX9_firstIn 9 = .ok (.if_icmp .ge 24, 3) := by decide +kernel
theorem dX9_firstIn_12 : decode cX9_firstIn 12 = .ok (.aload_n 0, 1) := by decide +kernel
theorem dX9_firstIn_13 : decode cX9_firstIn 13 = .ok (.iload_n 2, 1) := by decide +kernel
theorem dX9_firstIn_14 : decode cX9_firstIn 14 = .ok (.invokevirtual 293, 3) := by decide +kernel
theorem dX9_firstIn_17 : decode cX9_firstIn 17 = .ok (.aload_n 0, 1) := by decide +kernel
theorem dX9_firstIn_18 : decode cX9_firstIn 18 = .ok (.iload_n 1, 1) := by decide +kernel
theorem dX9_firstIn_19 : decode cX9_firstIn 19 = .ok (.invokevirtual 293, 3) := by decide +kernel
theorem dX9_firstIn_22 : decode cX9_firstIn 22 = .ok (.if_icmp .ge 5, 3) := by decide +kernel
