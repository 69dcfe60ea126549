theorem dX8_status_121 : decode cX8_status 121 = .ok (.ireturn, 1) := by decide +kernel
theorem dX8_status_122 : decode cX8_status 122 = .ok (.aload_n 0, 1) := by decide +kernel
theorem dX8_status_123 : decode cX8_status 123 = .ok (.getfield 10, 3) := by decide +kernel
theorem dX8_status_126 : decode cX8_status 126 = .ok (.getfield 227, 3) := by decide +kernel
theorem dX8_status_129 : decode cX8_status 129 = .ok (.iconst 3, 1) := by decide +kernel
theorem dX8_status_130 : decode cX8_status 130 = .ok (.iaload, 1) := by decide +kernel
theorem dX8_status_131 : decode cX8_status 131 = .ok (.ireturn, 1) := by decide +kernel
theorem dX8_status_132 : decode cX8_status 132 = .ok (.aload_n 0, 1) := by decide +kernel
theorem dX8_status_133 : decode cX8_status 133 = .ok (.getfield 10, 3) := by decide +kernel
theorem dX8_status_136 : decode cX8_status 136 = .ok (.getfield 233, 3) := by decide +kernel
theorem dX8_status_139 : decode cX8_status 139 = .ok (.invokestatic 237, 3) := by decide +kernel
theorem dX8_status_142 : decode cX8_status 142 = .ok (.ireturn, 1) := by decide +kernel
theorem dX8_status_143 : decode cX8_status 143 = .ok (.aload_n 0, 1) := by decide +kernel
theorem dX8_status_144 : decode cX8_status 144 = .ok (.getfield 10, 3) := by decide +kernel
theorem dX8_status_147 : decode cX8_status 147 = .ok (.getfield 356, 3) := by decide +kernel
theorem dX8_status_150 : decode cX8_status 150 = .ok (.ireturn, 1) := by decide +kernel
theorem dX8_status_151 : decode cX8_status 151 = .ok (.aload_n 0, 1) := by decide +kernel
theorem dX8_status_152 : decode cX8_status 152 = .ok (.getfield 10, 3) := by decide +kernel
theorem dX8_status_155 : decode cX8_status 155 = .ok (.getfield 340, 3) := by decide +kernel
theorem dX8_status_158 : decode cX8_status 158 = .ok (.ireturn, 1) := by decide +kernel
theorem dX8_status_159 : decode cX8_status 159 = .ok (.aload_n 0, 1) := by decide +kernel
theorem dX8_status_160 : decode cX8_status 160 = .ok (.getfield 56, 3) := by decide +kernel
theorem dX8_status_163 : decode cX8_status 163 = .ok (.getfield 359, 3) := by decide +kernel
theorem dX8_status_166 : decode cX8_status 166 = .ok (.ireturn, 1) := by decide +kernel
theorem dX8_status_167 : decode cX8_status 167 = .ok (.iconst (-1), 1) := by decide +kernel
theorem dX8_status_168 : decode cX8_status 168 = .ok (.ireturn, 1) := by decide +kernel
theorem dX8_refuse_0 : decode cX8_refuse 0 = .ok (.iload_n 1, 1) := by decide +kernel
theorem dX8_refuse_1 : decode cX8_refuse 1 = .ok (.bipush (-10), 2) := by decide +kernel
theorem dX8_refuse_3 : decode cX8_refuse 3 = .ok (.if_icmp .gt 10, 3) := by decide +kernel
theorem dX8_refuse_6 : decode cX8_refuse 6 = .ok (.bipush (-10), 2) := by decide +kernel
theorem dX8_refuse_8 : decode cX8_refuse 8 = .ok (.iload_n 1, 1) := by decide +kernel
theorem dX8_refuse_9 : decode cX8_refuse 9 = .ok (.isub, 1) := by decide +kernel
theorem dX8_refuse_10 : decode cX8_refuse 10 = .ok (.goto 5, 3) := by decide +kernel
theorem dX8_refuse_13 : decode cX8_refuse 13 = .ok (.iload_n 1, 1) := by decide +kernel
theorem dX8_refuse_14 : decode cX8_refuse 14 = .ok (.ineg, 1) := by decide +kernel
theorem dX8_refuse_15 : decode cX8_refuse 15 = .ok (.istore_n 2, 1) := by decide +kernel
theorem dX8_refuse_16 : decode cX8_refuse 16 = .ok (.iload_n 2, 1) := by decide +kernel
theorem dX8_refuse_17 : decode cX8_refuse 17 = .ok (.ifCond .le 19, 3) := by decide +kernel
theorem dX8_refuse_20 : decode cX8_refuse 20 = .ok (.iload_n 2, 1) := by decide +kernel
theorem dX8_refuse_21 : decode cX8_refuse 21 = .ok (.bipush 7, 2) := by decide +kernel
theorem dX8_refuse_23 : decode cX8_refuse 23 = .ok (.if_icmp .gt 13, 3) := by decide +kernel
theorem dX8_refuse_26 : decode cX8_refuse 26 = .ok (.aload_n 0, 1) := by decide +kernel
theorem dX8_refuse_27 : decode cX8_refuse 27 = .ok (.getfield 67, 3) := by decide +kernel
theorem dX8_refuse_30 : decode cX8_refuse 30 = .ok (.iload_n 2, 1) := by decide +kernel
theorem dX8_refuse_31 : decode cX8_refuse 31 = .ok (.dup2, 1) := by decide +kernel
theorem dX8_refuse_32 : decode cX8_refuse 32 = .ok (.iaload, 1) := by decide +kernel
theorem dX8_refuse_33 : decode cX8_refuse 33 = .ok (.iconst 1, 1) := by decide +kernel
theorem dX8_refuse_34 : decode cX8_refuse 34 = .ok (.iadd, 1) := by decide +kernel
theorem dX8_refuse_35 : decode cX8_refuse 35 = .ok (.iastore, 1) := by decide +kernel
theorem dX8_refuse_36 : decode cX8_refuse 36 = .ok (.iload_n 1, 1) := by decide +kernel
theorem dX8_refuse_37 : decode cX8_refuse 37 = .ok (.ireturn, 1) := by decide +kernel
theorem dX8_isShelf_0 : decode cX8_isShelf 0 = .ok (.iload_n 0, 1) := by decide +kernel
theorem dX8_isShelf_1 : decode cX8_isShelf 1 = .ok (.ifCond .lt 13, 3) := by decide +kernel
theorem dX8_isShelf_4 : decode cX8_isShelf 4 = .ok (.iload_n 0, 1) := by decide +kernel
theorem dX8_isShelf_5 : decode cX8_isShelf 5 = .ok (.bipush 8, 2) := by decide +kernel
theorem dX8_isShelf_7 : decode cX8_isShelf 7 = .ok (.if_icmp .ge 7, 3) := by decide +kernel
theorem dX8_isShelf_10 : decode cX8_isShelf 10 = .ok (.iconst 1, 1) := by decide +kernel
theorem dX8_isShelf_11 : decode cX8_isShelf 11 = .ok (.goto 4, 3) := by decide +kernel
theorem dX8_isShelf_14 : decode cX8_isShelf 14 = .ok (.iconst 0, 1) := by decide +kernel
theorem dX8_isShelf_15 : decode cX8_isShelf 15 = .ok (.ireturn, 1) := by decide +kernel
theorem dX8_isKind_0 : decode cX8_isKind 0 = .ok (.iload_n 0, 1) := by decide +kernel
theorem dX8_isKind_1 : decode cX8_isKind 1 = .ok (.ifCond .lt 13, 3) := by decide +kernel
theorem dX8_isKind_4 : decode cX8_isKind 4 = .ok (.iload_n 0, 1) := by decide +kernel
theorem dX8_isKind_5 : decode cX8_isKind 5 = .ok (.bipush 7, 2) := by decide +kernel
theorem dX8_isKind_7 : decode cX8_isKind 7 = .ok (.if_icmp .ge 7, 3) := by decide +kernel
theorem dX8_isKind_10 : decode cX8_isKind 10 = .ok (.iconst 1, 1) := by decide +kernel
theorem dX8_isKind_11 : decode cX8_isKind 11 = .ok (.goto 4, 3) := by decide +kernel
theorem dX8_isKind_14 : decode cX8_isKind 14 = .ok (.iconst 0, 1) := by decide +kernel
theorem dX8_isKind_15 : decode cX8_isKind 15 = .ok (.ireturn, 1) := by decide +kernel
theorem dX8_isTerm_0 : decode cX8_isTerm 0 = .ok (.iload_n 0, 1) := by decide +kernel
theorem dX8_isTerm_1 : decode cX8_isTerm 1 = .ok (.ifCond .lt 12, 3) := by decide +kernel
theorem dX8_isTerm_4 : decode cX8_isTerm 4 = .ok (.iload_n 0, 1) := by decide +kernel
theorem dX8_isTerm_5 : decode cX8_isTerm 5 = .ok (.iconst 4, 1) := by decide +kernel
theorem dX8_isTerm_6 : decode cX8_isTerm 6 = .ok (.if_icmp .ge 7, 3) := by decide +kernel
theorem dX8_isTerm_9 : decode cX8_isTerm 9 = .ok (.iconst 1, 1) := by decide +kernel
theorem dX8_isTerm_10 : decode cX8_isTerm 10 = .ok (.goto 4, 3) := by decide +kernel
theorem dX8_isTerm_13 : decode cX8_isTerm 13 = .ok (.iconst 0, 1) := by decide +kernel
theorem dX8_isTerm_14 : decode cX8_isTerm 14 = .ok (.ireturn, 1) := by decide +kernel
theorem dX8_isUnder_0 : decode cX8_isUnder 0 = .ok (.iload_n 0, 1) := by decide +kernel
theorem dX8_isUnder_1 : decode cX8_isUnder 1 = .ok (.istore_n 2, 1) := by decide +kernel
theorem dX8_isUnder_2 : decode cX8_isUnder 2 = .ok (.iconst 0, 1) := by decide +kernel
theorem dX8_isUnder_3 : decode cX8_isUnder 3 = .ok (.istore_n 3, 1) := by decide +kernel
theorem dX8_isUnder_4 : decode cX8_isUnder 4 = .ok (.iload_n 3, 1) := by decide +kernel
theorem dX8_isUnder_5 : decode cX8_isUnder 5 = .ok (.bipush 7, 2) := by decide +kernel
theorem dX8_isUnder_7 : decode cX8_isUnder 7 = .ok (.if_icmp .ge 29, 3) := by decide +kernel
theorem dX8_isUnder_10 : decode cX8_isUnder 10 = .ok (.iload_n 2, 1) := by decide +kernel
theorem dX8_isUnder_11 : decode cX8_isUnder 11 = .ok (.invokestatic 135, 3) := by decide +kernel
theorem dX8_isUnder_14 : decode cX8_isUnder 14 = .ok (.ifCond .eq 22, 3) := by decide +kernel
theorem dX8_isUnder_17 : decode cX8_isUnder 17 = .ok (.iload_n 2, 1) := by decide +kernel
theorem dX8_isUnder_18 : decode cX8_isUnder 18 = .ok (.iload_n 1, 1) := by decide +kernel
theorem dX8_isUnder_19 : decode cX8_isUnder 19 = .ok (.if_icmp .ne 5, 3) := by decide +kernel
theorem dX8_isUnder_22 : decode cX8_isUnder 22 = .ok (.iconst 1, 1) := by decide +kernel
theorem dX8_isUnder_23 : decode cX8_isUnder 23 = .ok (.ireturn, 1) := by decide +kernel
theorem dX8_isUnder_24 : decode cX8_isUnder 24 = .ok (.getstatic 362, 3) := by decide +kernel
theorem dX8_isUnder_27 : decode cX8_isUnder 27 = .ok (.iload_n 2, 1) := by decide +kernel
theorem dX8_isUnder_28 : decode cX8_isUnder 28 = .ok (.iaload, 1) := by decide +kernel
theorem dX8_isUnder_29 : decode cX8_isUnder 29 = .ok (.istore_n 2, 1) := by decide +kernel
theorem dX8_isUnder_30 : decode cX8_isUnder 30 = .ok (.iinc 3 1, 3) := by decide +kernel
theorem dX8_isUnder_33 : decode cX8_isUnder 33 = .ok (.goto (-29), 3) := by decide +kernel
theorem dX8_isUnder_36 : decode cX8_isUnder 36 = .ok (.iconst 0, 1) := by decide +kernel
theorem dX8_isUnder_37 : decode cX8_isUnder 37 = .ok (.ireturn, 1) := by decide +kernel
theorem dX8_bit_0 : decode cX8_bit 0 = .ok (.iload_n 0, 1) := by decide +kernel
theorem dX8_bit_1 : decode cX8_bit 1 = .ok (.ifCond .eq 7, 3) := by decide +kernel
theorem dX8_bit_4 : decode cX8_bit 4 = .ok (.iconst 1, 1) := by decide +kernel
theorem dX8_bit_5 : decode cX8_bit 5 = .ok (.goto 4, 3) := by decide +kernel
theorem dX8_bit_8 : decode cX8_bit 8 = .ok (.iconst 0, 1) := by decide +kernel
theorem dX8_bit_9 : decode cX8_bit 9 = .ok (.ireturn, 1) := by decide +kernel
theorem dX8_areTwoSorts_0 : decode cX8_areTwoSorts 0 = .ok (.aload_n 0, 1) := by decide +kernel
theorem dX8_areTwoSorts_1 : decode cX8_areTwoSorts 1 = .ok (.invokevirtual 105, 3) := by decide +kernel
theorem dX8_areTwoSorts_4 : decode cX8_areTwoSorts 4 = .ok (.ifCond .eq 25, 3) := by decide +kernel
theorem dX8_areTwoSorts_7 : decode cX8_areTwoSorts 7 = .ok (.aload_n 1, 1) := by decide +kernel
theorem dX8_areTwoSorts_8 : decode cX8_areTwoSorts 8 = .ok (.invokevirtual 105, 3) := by decide +kernel
theorem dX8_areTwoSorts_11 : decode cX8_areTwoSorts 11 = .ok (.ifCond .eq 18, 3) := by decide +kernel
theorem dX8_areTwoSorts_14 : decode cX8_areTwoSorts 14 = .ok (.aload_n 0, 1) := by decide +kernel
theorem dX8_areTwoSorts_15 : decode cX8_areTwoSorts 15 = .ok (.getfield 132, 3) := by decide +kernel
theorem dX8_areTwoSorts_18 : decode cX8_areTwoSorts 18 = .ok (.aload_n 1, 1) := by decide +kernel
theorem dX8_areTwoSorts_19 : decode cX8_areTwoSorts 19 = .ok (.getfield 132, 3) := by decide +kernel
theorem dX8_areTwoSorts_22 : decode cX8_areTwoSorts 22 = .ok (.if_icmp .eq 7, 3) := by decide +kernel
theorem dX8_areTwoSorts_25 : decode cX8_areTwoSorts 25 = .ok (.iconst 1, 1) := by decide +kernel
theorem dX8_areTwoSorts_26 : decode cX8_areTwoSorts 26 = .ok (.goto 4, 3) := by decide +kernel
theorem dX8_areTwoSorts_29 : decode cX8_areTwoSorts 29 = .ok (.iconst 0, 1) := by decide +kernel
theorem dX8_areTwoSorts_30 : decode cX8_areTwoSorts 30 = .ok (.ireturn, 1) := by decide +kernel
theorem dX8_whyNoRow_0 : decode cX8_whyNoRow 0 = .ok (.iload_n 1, 1) := by decide +kernel
theorem dX8_whyNoRow_1 : decode cX8_whyNoRow 1 = .ok (.invokestatic 75, 3) := by decide +kernel
theorem dX8_whyNoRow_4 : decode cX8_whyNoRow 4 = .ok (.ifCond .ne 5, 3) := by decide +kernel
theorem dX8_whyNoRow_7 : decode cX8_whyNoRow 7 = .ok (.iconst (-1), 1) := by decide +kernel
theorem dX8_whyNoRow_8 : decode cX8_whyNoRow 8 = .ok (.ireturn, 1) := by decide +kernel
theorem dX8_whyNoRow_9 : decode cX8_whyNoRow 9 = .ok (.aload_n 0, 1) := by decide +kernel
theorem dX8_whyNoRow_10 : decode cX8_whyNoRow 10 = .ok (.getfield 24, 3) := by decide +kernel
theorem dX8_whyNoRow_13 : decode cX8_whyNoRow 13 = .ok (.iload_n 1, 1) := by decide +kernel
theorem dX8_whyNoRow_14 : decode cX8_whyNoRow 14 = .ok (.aaload, 1) := by decide +kernel
theorem dX8_whyNoRow_15 : decode cX8_whyNoRow 15 = .ok (.invokevirtual 97, 3) := by decide +kernel
theorem dX8_whyNoRow_18 : decode cX8_whyNoRow 18 = .ok (.ifCond .eq 6, 3) := by decide +kernel
theorem dX8_whyNoRow_21 : decode cX8_whyNoRow 21 = .ok (.bipush (-2), 2) := by decide +kernel
theorem dX8_whyNoRow_23 : decode cX8_whyNoRow 23 = .ok (.ireturn, 1) := by decide +kernel
theorem dX8_whyNoRow_24 : decode cX8_whyNoRow 24 = .ok (.aload_n 0, 1) := by decide +kernel
theorem dX8_whyNoRow_25 : decode cX8_whyNoRow 25 = .ok (.getfield 24, 3) := by decide +kernel
theorem dX8_whyNoRow_28 : decode cX8_whyNoRow 28 = .ok (.iload_n 1, 1) := by decide +kernel
theorem dX8_whyNoRow_29 : decode cX8_whyNoRow 29 = .ok (.aaload, 1) := by decide +kernel
theorem dX8_whyNoRow_30 : decode cX8_whyNoRow 30 = .ok (.invokevirtual 105, 3) := by decide +kernel
theorem dX8_whyNoRow_33 : decode cX8_whyNoRow 33 = .ok (.ifCond .eq 7, 3) := by decide +kernel
theorem dX8_whyNoRow_36 : decode cX8_whyNoRow 36 = .ok (.iconst 0, 1) := by decide +kernel
theorem dX8_whyNoRow_37 : decode cX8_whyNoRow 37 = .ok (.goto 5, 3) := by decide +kernel
theorem dX8_whyNoRow_40 : decode cX8_whyNoRow 40 = .ok (.bipush (-3), 2) := by decide +kernel
theorem dX8_whyNoRow_42 : decode cX8_whyNoRow 42 = .ok (.ireturn, 1) := by decide +kernel
theorem dX8_saysAs_0 : decode cX8_saysAs 0 = .ok (.aload_n 0, 1) := by decide +kernel
theorem dX8_saysAs_1 : decode cX8_saysAs 1 = .ok (.getfield 31, 3) := by decide +kernel
theorem dX8_saysAs_4 : decode cX8_saysAs 4 = .ok (.aload_n 0, 1) := by decide +kernel
theorem dX8_saysAs_5 : decode cX8_saysAs 5 = .ok (.getfield 10, 3) := by decide +kernel
theorem dX8_saysAs_8 : decode cX8_saysAs 8 = .ok (.iload_n 1, 1) := by decide +kernel
theorem dX8_saysAs_9 : decode cX8_saysAs 9 = .ok (.invokevirtual 167, 3) := by decide +kernel
theorem dX8_saysAs_12 : decode cX8_saysAs 12 = .ok (.aload_n 0, 1) := by decide +kernel
theorem dX8_saysAs_13 : decode cX8_saysAs 13 = .ok (.getfield 31, 3) := by decide +kernel
theorem dX8_saysAs_16 : decode cX8_saysAs 16 = .ok (.aload_n 0, 1) := by decide +kernel
theorem dX8_saysAs_17 : decode cX8_saysAs 17 = .ok (.getfield 10, 3) := by decide +kernel
theorem dX8_saysAs_20 : decode cX8_saysAs 20 = .ok (.invokevirtual 171, 3) := by decide +kernel
theorem dX8_saysAs_23 : decode cX8_saysAs 23 = .ok (.iload_n 2, 1) := by decide +kernel
theorem dX8_saysAs_24 : decode cX8_saysAs 24 = .ok (.tableswitch 67 0 5 #[40, 51, 59, 51, 67, 59], 40) := by decide +kernel
theorem dX8_saysAs_64 : decode cX8_saysAs 64 = .ok (.aload_n 0, 1) := by decide +kernel
theorem dX8_saysAs_65 : decode cX8_saysAs 65 = .ok (.getfield 31, 3) := by decide +kernel
theorem dX8_saysAs_68 : decode cX8_saysAs 68 = .ok (.getfield 175, 3) := by decide +kernel
theorem dX8_saysAs_71 : decode cX8_saysAs 71 = .ok (.getfield 182, 3) := by decide +kernel
theorem dX8_saysAs_74 : decode cX8_saysAs 74 = .ok (.ireturn, 1) := by decide +kernel
theorem dX8_saysAs_75 : decode cX8_saysAs 75 = .ok (.aload_n 0, 1) := by decide +kernel
theorem dX8_saysAs_76 : decode cX8_saysAs 76 = .ok (.getfield 31, 3) := by decide +kernel
theorem dX8_saysAs_79 : decode cX8_saysAs 79 = .ok (.getfield 194, 3) := by decide +kernel
theorem dX8_saysAs_82 : decode cX8_saysAs 82 = .ok (.ireturn, 1) := by decide +kernel
theorem dX8_saysAs_83 : decode cX8_saysAs 83 = .ok (.aload_n 0, 1) := by decide +kernel
theorem dX8_saysAs_84 : decode cX8_saysAs 84 = .ok (.getfield 31, 3) := by decide +kernel
theorem dX8_saysAs_87 : decode cX8_saysAs 87 = .ok (.getfield 191, 3) := by decide +kernel
theorem dX8_saysAs_90 : decode cX8_saysAs 90 = .ok (.ireturn, 1) := by decide +kernel
theorem dX8_saysAs_91 : decode cX8_saysAs 91 = .ok (.aload_n 0, 1) := by decide +kernel
theorem dX8_saysAs_92 : decode cX8_saysAs 92 = .ok (.getfield 31, 3) := by decide +kernel
theorem dX8_saysAs_95 : decode cX8_saysAs 95 = .ok (.getfield 197, 3) := by decide +kernel
theorem dX8_saysAs_98 : decode cX8_saysAs 98 = .ok (.ireturn, 1) := by decide +kernel
theorem dX8_timeOf_0 : decode cX8_timeOf 0 = .ok (.aload_n 0, 1) := by decide +kernel
theorem dX8_timeOf_1 : decode cX8_timeOf 1 = .ok (.getfield 31, 3) := by decide +kernel
theorem dX8_timeOf_4 : decode cX8_timeOf 4 = .ok (.aload_n 0, 1) := by decide +kernel
theorem dX8_timeOf_5 : decode cX8_timeOf 5 = .ok (.getfield 10, 3) := by decide +kernel
theorem dX8_timeOf_8 : decode cX8_timeOf 8 = .ok (.iload_n 1, 1) := by decide +kernel
theorem dX8_timeOf_9 : decode cX8_timeOf 9 = .ok (.invokevirtual 167, 3) := by decide +kernel
theorem dX8_timeOf_12 : decode cX8_timeOf 12 = .ok (.aload_n 0, 1) := by decide +kernel
theorem dX8_timeOf_13 : decode cX8_timeOf 13 = .ok (.getfield 31, 3) := by decide +kernel
theorem dX8_timeOf_16 : decode cX8_timeOf 16 = .ok (.aload_n 0, 1) := by decide +kernel
theorem dX8_timeOf_17 : decode cX8_timeOf 17 = .ok (.getfield 10, 3) := by decide +kernel
theorem dX8_timeOf_20 : decode cX8_timeOf 20 = .ok (.invokevirtual 319, 3) := by decide +kernel
theorem dX8_timeOf_23 : decode cX8_timeOf 23 = .ok (.ireturn, 1) := by decide +kernel
theorem dX8_timeAs_0 : decode cX8_timeAs 0 = .ok (.aload_n 0, 1) := by decide +kernel
theorem dX8_timeAs_1 : decode cX8_timeAs 1 = .ok (.getfield 31, 3) := by decide +kernel
theorem dX8_timeAs_4 : decode cX8_timeAs 4 = .ok (.aload_n 0, 1) := by decide +kernel
theorem dX8_timeAs_5 : decode cX8_timeAs 5 = .ok (.getfield 10, 3) := by decide +kernel
theorem dX8_timeAs_8 : decode cX8_timeAs 8 = .ok (.iload_n 1, 1) := by decide +kernel
theorem dX8_timeAs_9 : decode cX8_timeAs 9 = .ok (.invokevirtual 167, 3) := by decide +kernel
theorem dX8_timeAs_12 : decode cX8_timeAs 12 = .ok (.aload_n 0, 1) := by decide +kernel
theorem dX8_timeAs_13 : decode cX8_timeAs 13 = .ok (.getfield 31, 3) := by decide +kernel
theorem dX8_timeAs_16 : decode cX8_timeAs 16 = .ok (.getfield 175, 3) := by decide +kernel
theorem dX8_timeAs_19 : decode cX8_timeAs 19 = .ok (.iload_n 2, 1) := by decide +kernel
theorem dX8_timeAs_20 : decode cX8_timeAs 20 = .ok (.putfield 142, 3) := by decide +kernel
theorem dX8_timeAs_23 : decode cX8_timeAs 23 = .ok (.aload_n 0, 1) := by decide +kernel
theorem dX8_timeAs_24 : decode cX8_timeAs 24 = .ok (.getfield 31, 3) := by decide +kernel
theorem dX8_timeAs_27 : decode cX8_timeAs 27 = .ok (.aload_n 0, 1) := by decide +kernel
theorem dX8_timeAs_28 : decode cX8_timeAs 28 = .ok (.getfield 10, 3) := by decide +kernel
theorem dX8_timeAs_31 : decode cX8_timeAs 31 = .ok (.invokevirtual 319, 3) := by decide +kernel
theorem dX8_timeAs_34 : decode cX8_timeAs 34 = .ok (.ireturn, 1) := by decide +kernel
theorem dX8_timeIn_0 : decode cX8_timeIn 0 = .ok (.aload_n 0, 1) := by decide +kernel
theorem dX8_timeIn_1 : decode cX8_timeIn 1 = .ok (.getfield 31, 3) := by decide +kernel
theorem dX8_timeIn_4 : decode cX8_timeIn 4 = .ok (.aload_n 0, 1) := by decide +kernel
theorem dX8_timeIn_5 : decode cX8_timeIn 5 = .ok (.getfield 10, 3) := by decide +kernel
theorem dX8_timeIn_8 : decode cX8_timeIn 8 = .ok (.iload_n 1, 1) := by decide +kernel
theorem dX8_timeIn_9 : decode cX8_timeIn 9 = .ok (.invokevirtual 167, 3) := by decide +kernel
theorem dX8_timeIn_12 : decode cX8_timeIn 12 = .ok (.aload_n 0, 1) := by decide +kernel
theorem dX8_timeIn_13 : decode cX8_timeIn 13 = .ok (.getfield 31, 3) := by decide +kernel
theorem dX8_timeIn_16 : decode cX8_timeIn 16 = .ok (.getfield 175, 3) := by decide +kernel
theorem dX8_timeIn_19 : decode cX8_timeIn 19 = .ok (.iload_n 2, 1) := by decide +kernel
theorem dX8_timeIn_20 : decode cX8_timeIn 20 = .ok (.putfield 185, 3) := by decide +kernel
theorem dX8_timeIn_23 : decode cX8_timeIn 23 = .ok (.aload_n 0, 1) := by decide +kernel
theorem dX8_timeIn_24 : decode cX8_timeIn 24 = .ok (.getfield 31, 3) := by decide +kernel
theorem dX8_timeIn_27 : decode cX8_timeIn 27 = .ok (.aload_n 0, 1) := by decide +kernel
theorem dX8_timeIn_28 : decode cX8_timeIn 28 = .ok (.getfield 10, 3) := by decide +kernel
theorem dX8_timeIn_31 : decode cX8_timeIn 31 = .ok (.invokevirtual 319, 3) := by decide +kernel
theorem dX8_timeIn_34 : decode cX8_timeIn 34 = .ok (.ireturn, 1) := by decide +kernel
theorem dX8_timeRolling_0 : decode cX8_timeRolling 0 = .ok (.aload_n 0, 1) := by decide +kernel
theorem dX8_timeRolling_1 : decode cX8_timeRolling 1 = .ok (.getfield 31, 3) := by decide +kernel
theorem dX8_timeRolling_4 : decode cX8_timeRolling 4 = .ok (.aload_n 0, 1) := by decide +kernel
theorem dX8_timeRolling_5 : decode cX8_timeRolling 5 = .ok (.getfield 10, 3) := by decide +kernel
theorem dX8_timeRolling_8 : decode cX8_timeRolling 8 = .ok (.iload_n 1, 1) := by decide +kernel
theorem dX8_timeRolling_9 : decode cX8_timeRolling 9 = .ok (.invokevirtual 167, 3) := by decide +kernel
theorem dX8_timeRolling_12 : decode cX8_timeRolling 12 = .ok (.aload_n 0, 1) := by decide +kernel
theorem dX8_timeRolling_13 : decode cX8_timeRolling 13 = .ok (.getfield 31, 3) := by decide +kernel
theorem dX8_timeRolling_16 : decode cX8_timeRolling 16 = .ok (.iload_n 2, 1) := by decide +kernel
theorem dX8_timeRolling_17 : decode cX8_timeRolling 17 = .ok (.putfield 365, 3) := by decide +kernel
theorem dX8_timeRolling_20 : decode cX8_timeRolling 20 = .ok (.aload_n 0, 1) := by decide +kernel
theorem dX8_timeRolling_21 : decode cX8_timeRolling 21 = .ok (.getfield 31, 3) := by decide +kernel
theorem dX8_timeRolling_24 : decode cX8_timeRolling 24 = .ok (.aload_n 0, 1) := by decide +kernel
theorem dX8_timeRolling_25 : decode cX8_timeRolling 25 = .ok (.getfield 10, 3) := by decide +kernel
theorem dX8_timeRolling_28 : decode cX8_timeRolling 28 = .ok (.invokevirtual 319, 3) := by decide +kernel
theorem dX8_timeRolling_31 : decode cX8_timeRolling 31 = .ok (.ireturn, 1) := by decide +kernel
theorem dX8_timeOfTwo_0 : decode cX8_timeOfTwo 0 = .ok (.aload_n 0, 1) := by decide +kernel
theorem dX8_timeOfTwo_1 : decode cX8_timeOfTwo 1 = .ok (.getfield 10, 3) := by decide +kernel
theorem dX8_timeOfTwo_4 : decode cX8_timeOfTwo 4 = .ok (.getfield 138, 3) := by decide +kernel
theorem dX8_timeOfTwo_7 : decode cX8_timeOfTwo 7 = .ok (.iload_n 1, 1) := by decide +kernel
theorem dX8_timeOfTwo_8 : decode cX8_timeOfTwo 8 = .ok (.aaload, 1) := by decide +kernel
theorem dX8_timeOfTwo_9 : decode cX8_timeOfTwo 9 = .ok (.getfield 182, 3) := by decide +kernel
theorem dX8_timeOfTwo_12 : decode cX8_timeOfTwo 12 = .ok (.istore 4, 2) := by decide +kernel
theorem dX8_timeOfTwo_14 : decode cX8_timeOfTwo 14 = .ok (.aload_n 0, 1) := by decide +kernel
theorem dX8_timeOfTwo_15 : decode cX8_timeOfTwo 15 = .ok (.getfield 10, 3) := by decide +kernel
theorem dX8_timeOfTwo_18 : decode cX8_timeOfTwo 18 = .ok (.getfield 138, 3) := by decide +kernel
theorem dX8_timeOfTwo_21 : decode cX8_timeOfTwo 21 = .ok (.iload_n 2, 1) := by decide +kernel
theorem dX8_timeOfTwo_22 : decode cX8_timeOfTwo 22 = .ok (.aaload, 1) := by decide +kernel
theorem dX8_timeOfTwo_23 : decode cX8_timeOfTwo 23 = .ok (.getfield 182, 3) := by decide +kernel
theorem dX8_timeOfTwo_26 : decode cX8_timeOfTwo 26 = .ok (.istore 5, 2) := by decide +kernel
theorem dX8_timeOfTwo_28 : decode cX8_timeOfTwo 28 = .ok (.aload_n 0, 1) := by decide +kernel
theorem dX8_timeOfTwo_29 : decode cX8_timeOfTwo 29 = .ok (.getfield 31, 3) := by decide +kernel
theorem dX8_timeOfTwo_32 : decode cX8_timeOfTwo 32 = .ok (.aload_n 0, 1) := by decide +kernel
theorem dX8_timeOfTwo_33 : decode cX8_timeOfTwo 33 = .ok (.getfield 10, 3) := by decide +kernel
theorem dX8_timeOfTwo_36 : decode cX8_timeOfTwo 36 = .ok (.iload_n 1, 1) := by decide +kernel
theorem dX8_timeOfTwo_37 : decode cX8_timeOfTwo 37 = .ok (.invokevirtual 167, 3) := by decide +kernel
theorem dX8_timeOfTwo_40 : decode cX8_timeOfTwo 40 = .ok (.aload_n 0, 1) := by decide +kernel
theorem dX8_timeOfTwo_41 : decode cX8_timeOfTwo 41 = .ok (.getfield 31, 3) := by decide +kernel
theorem dX8_timeOfTwo_44 : decode cX8_timeOfTwo 44 = .ok (.getfield 175, 3) := by decide +kernel
theorem dX8_timeOfTwo_47 : decode cX8_timeOfTwo 47 = .ok (.iload 4, 2) := by decide +kernel
theorem dX8_timeOfTwo_49 : decode cX8_timeOfTwo 49 = .ok (.iload 5, 2) := by decide +kernel
theorem dX8_timeOfTwo_51 : decode cX8_timeOfTwo 51 = .ok (.invokestatic 366, 3) := by decide +kernel
theorem dX8_timeOfTwo_54 : decode cX8_timeOfTwo 54 = .ok (.putfield 182, 3) := by decide +kernel
theorem dX8_timeOfTwo_57 : decode cX8_timeOfTwo 57 = .ok (.aload_n 0, 1) := by decide +kernel
theorem dX8_timeOfTwo_58 : decode cX8_timeOfTwo 58 = .ok (.getfield 31, 3) := by decide +kernel
theorem dX8_timeOfTwo_61 : decode cX8_timeOfTwo 61 = .ok (.getfield 175, 3) := by decide +kernel
theorem dX8_timeOfTwo_64 : decode cX8_timeOfTwo 64 = .ok (.iload_n 3, 1) := by decide +kernel
theorem dX8_timeOfTwo_65 : decode cX8_timeOfTwo 65 = .ok (.putfield 185, 3) := by decide +kernel
theorem dX8_timeOfTwo_68 : decode cX8_timeOfTwo 68 = .ok (.aload_n 0, 1) := by decide +kernel
theorem dX8_timeOfTwo_69 : decode cX8_timeOfTwo 69 = .ok (.getfield 31, 3) := by decide +kernel
theorem dX8_timeOfTwo_72 : decode cX8_timeOfTwo 72 = .ok (.iload 4, 2) := by decide +kernel
theorem dX8_timeOfTwo_74 : decode cX8_timeOfTwo 74 = .ok (.iload 5, 2) := by decide +kernel
theorem dX8_timeOfTwo_76 : decode cX8_timeOfTwo 76 = .ok (.isub, 1) := by decide +kernel
theorem dX8_timeOfTwo_77 : decode cX8_timeOfTwo 77 = .ok (.invokestatic 371, 3) := by decide +kernel
theorem dX8_timeOfTwo_80 : decode cX8_timeOfTwo 80 = .ok (.putfield 374, 3) := by decide +kernel
theorem dX8_timeOfTwo_83 : decode cX8_timeOfTwo 83 = .ok (.aload_n 0, 1) := by decide +kernel
theorem dX8_timeOfTwo_84 : decode cX8_timeOfTwo 84 = .ok (.getfield 31, 3) := by decide +kernel
theorem dX8_timeOfTwo_87 : decode cX8_timeOfTwo 87 = .ok (.aload_n 0, 1) := by decide +kernel
theorem dX8_timeOfTwo_88 : decode cX8_timeOfTwo 88 = .ok (.getfield 10, 3) := by decide +kernel
theorem dX8_timeOfTwo_91 : decode cX8_timeOfTwo 91 = .ok (.invokevirtual 319, 3) := by decide +kernel
theorem dX8_timeOfTwo_94 : decode cX8_timeOfTwo 94 = .ok (.ireturn, 1) := by decide +kernel
theorem dX8_timeAll_0 : decode cX8_timeAll 0 = .ok (.iconst 0, 1) := by decide +kernel
theorem dX8_timeAll_1 : decode cX8_timeAll 1 = .ok (.istore_n 1, 1) := by decide +kernel
theorem dX8_timeAll_2 : decode cX8_timeAll 2 = .ok (.iload_n 1, 1) := by decide +kernel
theorem dX8_timeAll_3 : decode cX8_timeAll 3 = .ok (.aload_n 0, 1) := by decide +kernel
theorem dX8_timeAll_4 : decode cX8_timeAll 4 = .ok (.getfield 10, 3) := by decide +kernel
theorem dX8_timeAll_7 : decode cX8_timeAll 7 = .ok (.getfield 154, 3) := by decide +kernel
theorem dX8_timeAll_10 : decode cX8_timeAll 10 = .ok (.if_icmp .ge 20, 3) := by decide +kernel
theorem dX8_timeAll_13 : decode cX8_timeAll 13 = .ok (.aload_n 0, 1) := by decide +kernel
theorem dX8_timeAll_14 : decode cX8_timeAll 14 = .ok (.getfield 60, 3) := by decide +kernel
theorem dX8_timeAll_17 : decode cX8_timeAll 17 = .ok (.iload_n 1, 1) := by decide +kernel
theorem dX8_timeAll_18 : decode cX8_timeAll 18 = .ok (.aload_n 0, 1) := by decide +kernel
theorem dX8_timeAll_19 : decode cX8_timeAll 19 = .ok (.iload_n 1, 1) := by decide +kernel
theorem dX8_timeAll_20 : decode cX8_timeAll 20 = .ok (.invokevirtual 268, 3) := by decide +kernel
theorem dX8_timeAll_23 : decode cX8_timeAll 23 = .ok (.iastore, 1) := by decide +kernel
theorem dX8_timeAll_24 : decode cX8_timeAll 24 = .ok (.iinc 1 1, 3) := by decide +kernel
theorem dX8_timeAll_27 : decode cX8_timeAll 27 = .ok (.goto (-25), 3) := by decide +kernel
theorem dX8_timeAll_30 : decode cX8_timeAll 30 = .ok (.return_, 1) := by decide +kernel
theorem dX8_winner_0 : decode cX8_winner 0 = .ok (.iconst 0, 1) := by decide +kernel
theorem dX8_winner_1 : decode cX8_winner 1 = .ok (.istore_n 1, 1) := by decide +kernel
theorem dX8_winner_2 : decode cX8_winner 2 = .ok (.iconst 1, 1) := by decide +kernel
theorem dX8_winner_3 : decode cX8_winner 3 = .ok (.istore_n 2, 1) := by decide +kernel
theorem dX8_winner_4 : decode cX8_winner 4 = .ok (.iload_n 2, 1) := by decide +kernel
theorem dX8_winner_5 : decode cX8_winner 5 = .ok (.aload_n 0, 1) := by decide +kernel
theorem dX8_winner_6 : decode cX8_winner 6 = .ok (.getfield 10, 3) := by decide +kernel
theorem dX8_winner_9 : decode cX8_winner 9 = .ok (.getfield 154, 3) := by decide +kernel
theorem dX8_winner_12 : decode cX8_winner 12 = .ok (.if_icmp .ge 26, 3) := by decide +kernel
theorem dX8_winner_15 : decode cX8_winner 15 = .ok (.aload_n 0, 1) := by decide +kernel
theorem dX8_winner_16 : decode cX8_winner 16 = .ok (.getfield 60, 3) := by decide +kernel
theorem dX8_winner_19 : decode cX8_winner 19 = .ok (.iload_n 2, 1) := by decide +kernel
theorem dX8_winner_20 : decode cX8_winner 20 = .ok (.iaload, 1) := by decide +kernel
theorem dX8_winner_21 : decode cX8_winner 21 = .ok (.aload_n 0, 1) := by decide +kernel
theorem dX8_winner_22 : decode cX8_winner 22 = .ok (.getfield 60, 3) := by decide +kernel
theorem dX8_winner_25 : decode cX8_winner 25 = .ok (.iload_n 1, 1) := by decide +kernel
theorem dX8_winner_26 : decode cX8_winner 26 = .ok (.iaload, 1) := by decide +kernel
theorem dX8_winner_27 : decode cX8_winner 27 = .ok (.if_icmp .ge 5, 3) := by decide +kernel
theorem dX8_winner_30 : decode cX8_winner 30 = .ok (.iload_n 2, 1) := by decide +kernel
theorem dX8_winner_31 : decode cX8_winner 31 = .ok (.istore_n 1, 1) := by decide +kernel
theorem dX8_winner_32 : decode cX8_winner 32 = .ok (.iinc 2 1, 3) := by decide +kernel
theorem dX8_winner_35 : decode cX8_winner 35 = .ok (.goto (-31), 3) := by decide +kernel
theorem dX8_winner_38 : decode cX8_winner 38 = .ok (.iload_n 1, 1) := by decide +kernel
theorem dX8_winner_39 : decode cX8_winner 39 = .ok (.ireturn, 1) := by decide +kernel
theorem dX8_leadOf_0 : decode cX8_leadOf 0 = .ok (.sipush 1000, 3) := by decide +kernel
theorem dX8_leadOf_3 : decode cX8_leadOf 3 = .ok (.istore_n 2, 1) := by decide +kernel
theorem dX8_leadOf_4 : decode cX8_leadOf 4 = .ok (.iconst 0, 1) := by decide +kernel
theorem dX8_leadOf_5 : decode cX8_leadOf 5 = .ok (.istore_n 3, 1) := by decide +kernel
theorem dX8_leadOf_6 : decode cX8_leadOf 6 = .ok (.iload_n 3, 1) := by decide +kernel
theorem dX8_leadOf_7 : decode cX8_leadOf 7 = .ok (.aload_n 0, 1) := by decide +kernel
theorem dX8_leadOf_8 : decode cX8_leadOf 8 = .ok (.getfield 10, 3) := by decide +kernel
theorem dX8_leadOf_11 : decode cX8_leadOf 11 = .ok (.getfield 154, 3) := by decide +kernel
theorem dX8_leadOf_14 : decode cX8_leadOf 14 = .ok (.if_icmp .ge 25, 3) := by decide +kernel
theorem dX8_leadOf_17 : decode cX8_leadOf 17 = .ok (.iload_n 3, 1) := by decide +kernel
theorem dX8_leadOf_18 : decode cX8_leadOf 18 = .ok (.iload_n 1, 1) := by decide +kernel
theorem dX8_leadOf_19 : decode cX8_leadOf 19 = .ok (.if_icmp .eq 14, 3) := by decide +kernel
theorem dX8_leadOf_22 : decode cX8_leadOf 22 = .ok (.iload_n 2, 1) := by decide +kernel
theorem dX8_leadOf_23 : decode cX8_leadOf 23 = .ok (.aload_n 0, 1) := by decide +kernel
theorem dX8_leadOf_24 : decode cX8_leadOf 24 = .ok (.getfield 60, 3) := by decide +kernel
theorem dX8_leadOf_27 : decode cX8_leadOf 27 = .ok (.iload_n 3, 1) := by decide +kernel
theorem dX8_leadOf_28 : decode cX8_leadOf 28 = .ok (.iaload, 1) := by decide +kernel
theorem dX8_leadOf_29 : decode cX8_leadOf 29 = .ok (.invokestatic 366, 3) := by decide +kernel
theorem dX8_leadOf_32 : decode cX8_leadOf 32 = .ok (.istore_n 2, 1) := by decide +kernel
theorem dX8_leadOf_33 : decode cX8_leadOf 33 = .ok (.iinc 3 1, 3) := by decide +kernel
theorem dX8_leadOf_36 : decode cX8_leadOf 36 = .ok (.goto (-30), 3) := by decide +kernel
theorem dX8_leadOf_39 : decode cX8_leadOf 39 = .ok (.iload_n 2, 1) := by decide +kernel
theorem dX8_leadOf_40 : decode cX8_leadOf 40 = .ok (.sipush 999, 3) := by decide +kernel
theorem dX8_leadOf_43 : decode cX8_leadOf 43 = .ok (.if_icmp .le 7, 3) := by decide +kernel
theorem dX8_leadOf_46 : decode cX8_leadOf 46 = .ok (.iconst 0, 1) := by decide +kernel
theorem dX8_leadOf_47 : decode cX8_leadOf 47 = .ok (.goto 11, 3) := by decide +kernel
theorem dX8_leadOf_50 : decode cX8_leadOf 50 = .ok (.iload_n 2, 1) := by decide +kernel
theorem dX8_leadOf_51 : decode cX8_leadOf 51 = .ok (.aload_n 0, 1) := by decide +kernel
theorem dX8_leadOf_52 : decode cX8_leadOf 52 = .ok (.getfield 60, 3) := by decide +kernel
theorem dX8_leadOf_55 : decode cX8_leadOf 55 = .ok (.iload_n 1, 1) := by decide +kernel
theorem dX8_leadOf_56 : decode cX8_leadOf 56 = .ok (.iaload, 1) := by decide +kernel
theorem dX8_leadOf_57 : decode cX8_leadOf 57 = .ok (.isub, 1) := by decide +kernel
theorem dX8_leadOf_58 : decode cX8_leadOf 58 = .ok (.ireturn, 1) := by decide +kernel
theorem dX8_bestKind_0 : decode cX8_bestKind 0 = .ok (.iconst (-1), 1) := by decide +kernel
theorem dX8_bestKind_1 : decode cX8_bestKind 1 = .ok (.istore_n 2, 1) := by decide +kernel
theorem dX8_bestKind_2 : decode cX8_bestKind 2 = .ok (.sipush 1000, 3) := by decide +kernel
theorem dX8_bestKind_5 : decode cX8_bestKind 5 = .ok (.istore_n 3, 1) := by decide +kernel
theorem dX8_bestKind_6 : decode cX8_bestKind 6 = .ok (.iconst 0, 1) := by decide +kernel
theorem dX8_bestKind_7 : decode cX8_bestKind 7 = .ok (.istore 4, 2) := by decide +kernel
theorem dX8_bestKind_9 : decode cX8_bestKind 9 = .ok (.iload 4, 2) := by decide +kernel
theorem dX8_bestKind_11 : decode cX8_bestKind 11 = .ok (.bipush 7, 2) := by decide +kernel
theorem dX8_bestKind_13 : decode cX8_bestKind 13 = .ok (.if_icmp .ge 30, 3) := by decide +kernel
theorem dX8_bestKind_16 : decode cX8_bestKind 16 = .ok (.aload_n 0, 1) := by decide +kernel
theorem dX8_bestKind_17 : decode cX8_bestKind 17 = .ok (.iload_n 1, 1) := by decide +kernel
theorem dX8_bestKind_18 : decode cX8_bestKind 18 = .ok (.iload 4, 2) := by decide +kernel
theorem dX8_bestKind_20 : decode cX8_bestKind 20 = .ok (.invokevirtual 284, 3) := by decide +kernel
theorem dX8_bestKind_23 : decode cX8_bestKind 23 = .ok (.istore 5, 2) := by decide +kernel
theorem dX8_bestKind_25 : decode cX8_bestKind 25 = .ok (.iload 5, 2) := by decide +kernel
theorem dX8_bestKind_27 : decode cX8_bestKind 27 = .ok (.iload_n 3, 1) := by decide +kernel
theorem dX8_bestKind_28 : decode cX8_bestKind 28 = .ok (.if_icmp .ge 9, 3) := by decide +kernel
theorem dX8_bestKind_31 : decode cX8_bestKind 31 = .ok (.iload 5, 2) := by decide +kernel
theorem dX8_bestKind_33 : decode cX8_bestKind 33 = .ok (.istore_n 3, 1) := by decide +kernel
theorem dX8_bestKind_34 : decode cX8_bestKind 34 = .ok (.iload 4, 2) := by decide +kernel
theorem dX8_bestKind_36 : decode cX8_bestKind 36 = .ok (.istore_n 2, 1) := by decide +kernel
theorem dX8_bestKind_37 : decode cX8_bestKind 37 = .ok (.iinc 4 1, 3) := by decide +kernel
theorem dX8_bestKind_40 : decode cX8_bestKind 40 = .ok (.goto (-31), 3) := by decide +kernel
theorem dX8_bestKind_43 : decode cX8_bestKind 43 = .ok (.iload_n 2, 1) := by decide +kernel
theorem dX8_bestKind_44 : decode cX8_bestKind 44 = .ok (.ireturn, 1) := by decide +kernel
theorem dX8_bestSack_0 : decode cX8_bestSack 0 = .ok (.iconst (-1), 1) := by decide +kernel
theorem dX8_bestSack_1 : decode cX8_bestSack 1 = .ok (.istore_n 2, 1) := by decide +kernel
theorem dX8_bestSack_2 : decode cX8_bestSack 2 = .ok (.sipush 1000, 3) := by decide +kernel
theorem dX8_bestSack_5 : decode cX8_bestSack 5 = .ok (.istore_n 3, 1) := by decide +kernel
theorem dX8_bestSack_6 : decode cX8_bestSack 6 = .ok (.iconst 0, 1) := by decide +kernel
theorem dX8_bestSack_7 : decode cX8_bestSack 7 = .ok (.istore 4, 2) := by decide +kernel
theorem dX8_bestSack_9 : decode cX8_bestSack 9 = .ok (.iload 4, 2) := by decide +kernel
theorem dX8_bestSack_11 : decode cX8_bestSack 11 = .ok (.aload_n 0, 1) := by decide +kernel
theorem dX8_bestSack_12 : decode cX8_bestSack 12 = .ok (.getfield 10, 3) := by decide +kernel
theorem dX8_bestSack_15 : decode cX8_bestSack 15 = .ok (.getfield 161, 3) := by decide +kernel
theorem dX8_bestSack_18 : decode cX8_bestSack 18 = .ok (.if_icmp .ge 30, 3) := by decide +kernel
theorem dX8_bestSack_21 : decode cX8_bestSack 21 = .ok (.aload_n 0, 1) := by decide +kernel
theorem dX8_bestSack_22 : decode cX8_bestSack 22 = .ok (.iload_n 1, 1) := by decide +kernel
theorem dX8_bestSack_23 : decode cX8_bestSack 23 = .ok (.iload 4, 2) := by decide +kernel
theorem dX8_bestSack_25 : decode cX8_bestSack 25 = .ok (.invokevirtual 294, 3) := by decide +kernel
theorem dX8_bestSack_28 : decode cX8_bestSack 28 = .ok (.istore 5, 2) := by decide +kernel
theorem dX8_bestSack_30 : decode cX8_bestSack 30 = .ok (.iload 5, 2) := by decide +kernel
theorem dX8_bestSack_32 : decode cX8_bestSack 32 = .ok (.iload_n 3, 1) := by decide +kernel
theorem dX8_bestSack_33 : decode cX8_bestSack 33 = .ok (.if_icmp .ge 9, 3) := by decide +kernel
theorem dX8_bestSack_36 : decode cX8_bestSack 36 = .ok (.iload 5, 2) := by decide +kernel
theorem dX8_bestSack_38 : decode cX8_bestSack 38 = .ok (.istore_n 3, 1) := by decide +kernel
theorem dX8_bestSack_39 : decode cX8_bestSack 39 = .ok (.iload 4, 2) := by decide +kernel
theorem dX8_bestSack_41 : decode cX8_bestSack 41 = .ok (.istore_n 2, 1) := by decide +kernel
theorem dX8_bestSack_42 : decode cX8_bestSack 42 = .ok (.iinc 4 1, 3) := by decide +kernel
theorem dX8_bestSack_45 : decode cX8_bestSack 45 = .ok (.goto (-36), 3) := by decide +kernel
theorem dX8_bestSack_48 : decode cX8_bestSack 48 = .ok (.iload_n 2, 1) := by decide +kernel
theorem dX8_bestSack_49 : decode cX8_bestSack 49 = .ok (.ireturn, 1) := by decide +kernel
theorem dX8_leastAhead_0 : decode cX8_leastAhead 0 = .ok (.aload_n 0, 1) := by decide +kernel
theorem dX8_leastAhead_1 : decode cX8_leastAhead 1 = .ok (.getfield 31, 3) := by decide +kernel
theorem dX8_leastAhead_4 : decode cX8_leastAhead 4 = .ok (.aload_n 0, 1) := by decide +kernel
theorem dX8_leastAhead_5 : decode cX8_leastAhead 5 = .ok (.getfield 10, 3) := by decide +kernel
theorem dX8_leastAhead_8 : decode cX8_leastAhead 8 = .ok (.iload_n 1, 1) := by decide +kernel
theorem dX8_leastAhead_9 : decode cX8_leastAhead 9 = .ok (.invokevirtual 167, 3) := by decide +kernel
theorem dX8_leastAhead_12 : decode cX8_leastAhead 12 = .ok (.aload_n 0, 1) := by decide +kernel
theorem dX8_leastAhead_13 : decode cX8_leastAhead 13 = .ok (.getfield 31, 3) := by decide +kernel
theorem dX8_leastAhead_16 : decode cX8_leastAhead 16 = .ok (.aload_n 0, 1) := by decide +kernel
theorem dX8_leastAhead_17 : decode cX8_leastAhead 17 = .ok (.getfield 10, 3) := by decide +kernel
theorem dX8_leastAhead_20 : decode cX8_leastAhead 20 = .ok (.iload_n 2, 1) := by decide +kernel
theorem dX8_leastAhead_21 : decode cX8_leastAhead 21 = .ok (.invokevirtual 377, 3) := by decide +kernel
theorem dX8_leastAhead_24 : decode cX8_leastAhead 24 = .ok (.ireturn, 1) := by decide +kernel
theorem dX8_heatsOfRound_0 : decode cX8_heatsOfRound 0 = .ok (.iconst 0, 1) := by decide +kernel
theorem dX8_heatsOfRound_1 : decode cX8_heatsOfRound 1 = .ok (.istore_n 3, 1) := by decide +kernel
theorem dX8_heatsOfRound_2 : decode cX8_heatsOfRound 2 = .ok (.iconst 0, 1) := by decide +kernel
theorem dX8_heatsOfRound_3 : decode cX8_heatsOfRound 3 = .ok (.istore 4, 2) := by decide +kernel
theorem dX8_heatsOfRound_5 : decode cX8_heatsOfRound 5 = .ok (.iconst 0, 1) := by decide +kernel
theorem dX8_heatsOfRound_6 : decode cX8_heatsOfRound 6 = .ok (.istore 5, 2) := by decide +kernel
theorem dX8_heatsOfRound_8 : decode cX8_heatsOfRound 8 = .ok (.iload 5, 2) := by decide +kernel
theorem dX8_heatsOfRound_10 : decode cX8_heatsOfRound 10 = .ok (.iload_n 1, 1) := by decide +kernel
theorem dX8_heatsOfRound_11 : decode cX8_heatsOfRound 11 = .ok (.if_icmp .ge 67, 3) := by decide +kernel
theorem dX8_heatsOfRound_14 : decode cX8_heatsOfRound 14 = .ok (.aload_n 0, 1) := by decide +kernel
theorem dX8_heatsOfRound_15 : decode cX8_heatsOfRound 15 = .ok (.getfield 64, 3) := by decide +kernel
theorem dX8_heatsOfRound_18 : decode cX8_heatsOfRound 18 = .ok (.iload 5, 2) := by decide +kernel
theorem dX8_heatsOfRound_20 : decode cX8_heatsOfRound 20 = .ok (.iaload, 1) := by decide +kernel
theorem dX8_heatsOfRound_21 : decode cX8_heatsOfRound 21 = .ok (.istore 6, 2) := by decide +kernel
theorem dX8_heatsOfRound_23 : decode cX8_heatsOfRound 23 = .ok (.iload 5, 2) := by decide +kernel
theorem dX8_heatsOfRound_25 : decode cX8_heatsOfRound 25 = .ok (.iload_n 3, 1) := by decide +kernel
theorem dX8_heatsOfRound_26 : decode cX8_heatsOfRound 26 = .ok (.iload_n 2, 1) := by decide +kernel
theorem dX8_heatsOfRound_27 : decode cX8_heatsOfRound 27 = .ok (.imul, 1) := by decide +kernel
theorem dX8_heatsOfRound_28 : decode cX8_heatsOfRound 28 = .ok (.if_icmp .ne 13, 3) := by decide +kernel
theorem dX8_heatsOfRound_31 : decode cX8_heatsOfRound 31 = .ok (.iinc 3 1, 3) := by decide +kernel
theorem dX8_heatsOfRound_34 : decode cX8_heatsOfRound 34 = .ok (.iload 6, 2) := by decide +kernel
theorem dX8_heatsOfRound_36 : decode cX8_heatsOfRound 36 = .ok (.istore 4, 2) := by decide +kernel
theorem dX8_heatsOfRound_38 : decode cX8_heatsOfRound 38 = .ok (.goto 24, 3) := by decide +kernel
theorem dX8_heatsOfRound_41 : decode cX8_heatsOfRound 41 = .ok (.aload_n 0, 1) := by decide +kernel
theorem dX8_heatsOfRound_42 : decode cX8_heatsOfRound 42 = .ok (.getfield 60, 3) := by decide +kernel
theorem dX8_heatsOfRound_45 : decode cX8_heatsOfRound 45 = .ok (.iload 6, 2) := by decide +kernel
theorem dX8_heatsOfRound_47 : decode cX8_heatsOfRound 47 = .ok (.iaload, 1) := by decide +kernel
theorem dX8_heatsOfRound_48 : decode cX8_heatsOfRound 48 = .ok (.aload_n 0, 1) := by decide +kernel
theorem dX8_heatsOfRound_49 : decode cX8_heatsOfRound 49 = .ok (.getfield 60, 3) := by decide +kernel
theorem dX8_heatsOfRound_52 : decode cX8_heatsOfRound 52 = .ok (.iload 4, 2) := by decide +kernel
theorem dX8_heatsOfRound_54 : decode cX8_heatsOfRound 54 = .ok (.iaload, 1) := by decide +kernel
theorem dX8_heatsOfRound_55 : decode cX8_heatsOfRound 55 = .ok (.if_icmp .ge 7, 3) := by decide +kernel
theorem dX8_heatsOfRound_58 : decode cX8_heatsOfRound 58 = .ok (.iload 6, 2) := by decide +kernel
theorem dX8_heatsOfRound_60 : decode cX8_heatsOfRound 60 = .ok (.istore 4, 2) := by decide +kernel
theorem dX8_heatsOfRound_62 : decode cX8_heatsOfRound 62 = .ok (.aload_n 0, 1) := by decide +kernel
theorem dX8_heatsOfRound_63 : decode cX8_heatsOfRound 63 = .ok (.getfield 64, 3) := by decide +kernel
theorem dX8_heatsOfRound_66 : decode cX8_heatsOfRound 66 = .ok (.iload_n 3, 1) := by decide +kernel
theorem dX8_heatsOfRound_67 : decode cX8_heatsOfRound 67 = .ok (.iconst 1, 1) := by decide +kernel
theorem dX8_heatsOfRound_68 : decode cX8_heatsOfRound 68 = .ok (.isub, 1) := by decide +kernel
theorem dX8_heatsOfRound_69 : decode cX8_heatsOfRound 69 = .ok (.iload 4, 2) := by decide +kernel
theorem dX8_heatsOfRound_71 : decode cX8_heatsOfRound 71 = .ok (.iastore, 1) := by decide +kernel
theorem dX8_heatsOfRound_72 : decode cX8_heatsOfRound 72 = .ok (.iinc 5 1, 3) := by decide +kernel
theorem dX8_heatsOfRound_75 : decode cX8_heatsOfRound 75 = .ok (.goto (-67), 3) := by decide +kernel
theorem dX8_heatsOfRound_78 : decode cX8_heatsOfRound 78 = .ok (.iload_n 3, 1) := by decide +kernel
theorem dX8_heatsOfRound_79 : decode cX8_heatsOfRound 79 = .ok (.ireturn, 1) := by decide +kernel
theorem dX8_wrongIn_0 : decode cX8_wrongIn 0 = .ok (.iconst 0, 1) := by decide +kernel
theorem dX8_wrongIn_1 : decode cX8_wrongIn 1 = .ok (.istore_n 3, 1) := by decide +kernel
theorem dX8_wrongIn_2 : decode cX8_wrongIn 2 = .ok (.iconst 0, 1) := by decide +kernel
theorem dX8_wrongIn_3 : decode cX8_wrongIn 3 = .ok (.istore 4, 2) := by decide +kernel
theorem dX8_wrongIn_5 : decode cX8_wrongIn 5 = .ok (.iconst 0, 1) := by decide +kernel
theorem dX8_wrongIn_6 : decode cX8_wrongIn 6 = .ok (.istore 5, 2) := by decide +kernel
theorem dX8_wrongIn_8 : decode cX8_wrongIn 8 = .ok (.iload 5, 2) := by decide +kernel
theorem dX8_wrongIn_10 : decode cX8_wrongIn 10 = .ok (.iload_n 2, 1) := by decide +kernel
theorem dX8_wrongIn_11 : decode cX8_wrongIn 11 = .ok (.if_icmp .ge 71, 3) := by decide +kernel
theorem dX8_wrongIn_14 : decode cX8_wrongIn 14 = .ok (.aload_n 1, 1) := by decide +kernel
theorem dX8_wrongIn_15 : decode cX8_wrongIn 15 = .ok (.iload 5, 2) := by decide +kernel
theorem dX8_wrongIn_17 : decode cX8_wrongIn 17 = .ok (.invokevirtual 381, 3) := by decide +kernel
theorem dX8_wrongIn_20 : decode cX8_wrongIn 20 = .ok (.istore 6, 2) := by decide +kernel
theorem dX8_wrongIn_22 : decode cX8_wrongIn 22 = .ok (.aload_n 0, 1) := by decide +kernel
theorem dX8_wrongIn_23 : decode cX8_wrongIn 23 = .ok (.getfield 10, 3) := by decide +kernel
theorem dX8_wrongIn_26 : decode cX8_wrongIn 26 = .ok (.iload 6, 2) := by decide +kernel
theorem dX8_wrongIn_28 : decode cX8_wrongIn 28 = .ok (.invokevirtual 126, 3) := by decide +kernel
theorem dX8_wrongIn_31 : decode cX8_wrongIn 31 = .ok (.ifCond .eq 13, 3) := by decide +kernel
theorem dX8_wrongIn_34 : decode cX8_wrongIn 34 = .ok (.iload_n 3, 1) := by decide +kernel
theorem dX8_wrongIn_35 : decode cX8_wrongIn 35 = .ok (.iload 6, 2) := by decide +kernel
theorem dX8_wrongIn_37 : decode cX8_wrongIn 37 = .ok (.ishr, 1) := by decide +kernel
theorem dX8_wrongIn_38 : decode cX8_wrongIn 38 = .ok (.iconst 1, 1) := by decide +kernel
theorem dX8_wrongIn_39 : decode cX8_wrongIn 39 = .ok (.iand, 1) := by decide +kernel
theorem dX8_wrongIn_40 : decode cX8_wrongIn 40 = .ok (.iconst 1, 1) := by decide +kernel
theorem dX8_wrongIn_41 : decode cX8_wrongIn 41 = .ok (.if_icmp .ne 6, 3) := by decide +kernel
theorem dX8_wrongIn_44 : decode cX8_wrongIn 44 = .ok (.iload 5, 2) := by decide +kernel
theorem dX8_wrongIn_46 : decode cX8_wrongIn 46 = .ok (.ireturn, 1) := by decide +kernel
theorem dX8_wrongIn_47 : decode cX8_wrongIn 47 = .ok (.aload_n 0, 1) := by decide +kernel
theorem dX8_wrongIn_48 : decode cX8_wrongIn 48 = .ok (.iload 6, 2) := by decide +kernel
theorem dX8_wrongIn_50 : decode cX8_wrongIn 50 = .ok (.invokevirtual 268, 3) := by decide +kernel
theorem dX8_wrongIn_53 : decode cX8_wrongIn 53 = .ok (.istore 7, 2) := by decide +kernel
theorem dX8_wrongIn_55 : decode cX8_wrongIn 55 = .ok (.iload 7, 2) := by decide +kernel
theorem dX8_wrongIn_57 : decode cX8_wrongIn 57 = .ok (.iload 4, 2) := by decide +kernel
theorem dX8_wrongIn_59 : decode cX8_wrongIn 59 = .ok (.if_icmp .ge 6, 3) := by decide +kernel
theorem dX8_wrongIn_62 : decode cX8_wrongIn 62 = .ok (.iload 5, 2) := by decide +kernel
theorem dX8_wrongIn_64 : decode cX8_wrongIn 64 = .ok (.ireturn, 1) := by decide +kernel
theorem dX8_wrongIn_65 : decode cX8_wrongIn 65 = .ok (.iload_n 3, 1) := by decide +kernel
theorem dX8_wrongIn_66 : decode cX8_wrongIn 66 = .ok (.iconst 1, 1) := by decide +kernel
theorem dX8_wrongIn_67 : decode cX8_wrongIn 67 = .ok (.iload 6, 2) := by decide +kernel
theorem dX8_wrongIn_69 : decode cX8_wrongIn 69 = .ok (.ishl, 1) := by decide +kernel
theorem dX8_wrongIn_70 : decode cX8_wrongIn 70 = .ok (.ior, 1) := by decide +kernel
theorem dX8_wrongIn_71 : decode cX8_wrongIn 71 = .ok (.istore_n 3, 1) := by decide +kernel
theorem dX8_wrongIn_72 : decode cX8_wrongIn 72 = .ok (.iload 7, 2) := by decide +kernel
theorem dX8_wrongIn_74 : decode cX8_wrongIn 74 = .ok (.istore 4, 2) := by decide +kernel
theorem dX8_wrongIn_76 : decode cX8_wrongIn 76 = .ok (.iinc 5 1, 3) := by decide +kernel
theorem dX8_wrongIn_79 : decode cX8_wrongIn 79 = .ok (.goto (-71), 3) := by decide +kernel
theorem dX8_wrongIn_82 : decode cX8_wrongIn 82 = .ok (.iconst (-1), 1) := by decide +kernel
theorem dX8_wrongIn_83 : decode cX8_wrongIn 83 = .ok (.ireturn, 1) := by decide +kernel
theorem dX8_allAsTold_0 : decode cX8_allAsTold 0 = .ok (.iconst 0, 1) := by decide +kernel
theorem dX8_allAsTold_1 : decode cX8_allAsTold 1 = .ok (.istore_n 3, 1) := by decide +kernel
theorem dX8_allAsTold_2 : decode cX8_allAsTold 2 = .ok (.iload_n 3, 1) := by decide +kernel
theorem dX8_allAsTold_3 : decode cX8_allAsTold 3 = .ok (.aload_n 0, 1) := by decide +kernel
theorem dX8_allAsTold_4 : decode cX8_allAsTold 4 = .ok (.getfield 10, 3) := by decide +kernel
theorem dX8_allAsTold_7 : decode cX8_allAsTold 7 = .ok (.getfield 154, 3) := by decide +kernel
theorem dX8_allAsTold_10 : decode cX8_allAsTold 10 = .ok (.if_icmp .ge 25, 3) := by decide +kernel
theorem dX8_allAsTold_13 : decode cX8_allAsTold 13 = .ok (.aload_n 0, 1) := by decide +kernel
theorem dX8_allAsTold_14 : decode cX8_allAsTold 14 = .ok (.iload_n 3, 1) := by decide +kernel
theorem dX8_allAsTold_15 : decode cX8_allAsTold 15 = .ok (.iload_n 2, 1) := by decide +kernel
theorem dX8_allAsTold_16 : decode cX8_allAsTold 16 = .ok (.invokevirtual 284, 3) := by decide +kernel
theorem dX8_allAsTold_19 : decode cX8_allAsTold 19 = .ok (.aload_n 1, 1) := by decide +kernel
theorem dX8_allAsTold_20 : decode cX8_allAsTold 20 = .ok (.iload_n 3, 1) := by decide +kernel
theorem dX8_allAsTold_21 : decode cX8_allAsTold 21 = .ok (.invokevirtual 381, 3) := by decide +kernel
theorem dX8_allAsTold_24 : decode cX8_allAsTold 24 = .ok (.if_icmp .eq 5, 3) := by decide +kernel
theorem dX8_allAsTold_27 : decode cX8_allAsTold 27 = .ok (.iconst 0, 1) := by decide +kernel
theorem dX8_allAsTold_28 : decode cX8_allAsTold 28 = .ok (.ireturn, 1) := by decide +kernel
theorem dX8_allAsTold_29 : decode cX8_allAsTold 29 = .ok (.iinc 3 1, 3) := by decide +kernel
theorem dX8_allAsTold_32 : decode cX8_allAsTold 32 = .ok (.goto (-30), 3) := by decide +kernel
theorem dX8_allAsTold_35 : decode cX8_allAsTold 35 = .ok (.iconst 1, 1) := by decide +kernel
theorem dX8_allAsTold_36 : decode cX8_allAsTold 36 = .ok (.ireturn, 1) := by decide +kernel
theorem dX8_raceInTruth_0 : decode cX8_raceInTruth 0 = .ok (.iconst 0, 1) := by decide +kernel
theorem dX8_raceInTruth_1 : decode cX8_raceInTruth 1 = .ok (.istore_n 1, 1) := by decide +kernel
theorem dX8_raceInTruth_2 : decode cX8_raceInTruth 2 = .ok (.iload_n 1, 1) := by decide +kernel
theorem dX8_raceInTruth_3 : decode cX8_raceInTruth 3 = .ok (.aload_n 0, 1) := by decide +kernel
theorem dX8_raceInTruth_4 : decode cX8_raceInTruth 4 = .ok (.getfield 10, 3) := by decide +kernel
theorem dX8_raceInTruth_7 : decode cX8_raceInTruth 7 = .ok (.getfield 154, 3) := by decide +kernel
theorem dX8_raceInTruth_10 : decode cX8_raceInTruth 10 = .ok (.if_icmp .ge 36, 3) := by decide +kernel
theorem dX8_raceInTruth_13 : decode cX8_raceInTruth 13 = .ok (.aload_n 0, 1) := by decide +kernel
theorem dX8_raceInTruth_14 : decode cX8_raceInTruth 14 = .ok (.getfield 35, 3) := by decide +kernel
theorem dX8_raceInTruth_17 : decode cX8_raceInTruth 17 = .ok (.iload_n 1, 1) := by decide +kernel
theorem dX8_raceInTruth_18 : decode cX8_raceInTruth 18 = .ok (.aaload, 1) := by decide +kernel
theorem dX8_raceInTruth_19 : decode cX8_raceInTruth 19 = .ok (.aload_n 0, 1) := by decide +kernel
theorem dX8_raceInTruth_20 : decode cX8_raceInTruth 20 = .ok (.getfield 10, 3) := by decide +kernel
theorem dX8_raceInTruth_23 : decode cX8_raceInTruth 23 = .ok (.iload_n 1, 1) := by decide +kernel
theorem dX8_raceInTruth_24 : decode cX8_raceInTruth 24 = .ok (.invokevirtual 167, 3) := by decide +kernel
theorem dX8_raceInTruth_27 : decode cX8_raceInTruth 27 = .ok (.aload_n 0, 1) := by decide +kernel
theorem dX8_raceInTruth_28 : decode cX8_raceInTruth 28 = .ok (.getfield 35, 3) := by decide +kernel
theorem dX8_raceInTruth_31 : decode cX8_raceInTruth 31 = .ok (.iload_n 1, 1) := by decide +kernel
theorem dX8_raceInTruth_32 : decode cX8_raceInTruth 32 = .ok (.aaload, 1) := by decide +kernel
theorem dX8_raceInTruth_33 : decode cX8_raceInTruth 33 = .ok (.aload_n 0, 1) := by decide +kernel
theorem dX8_raceInTruth_34 : decode cX8_raceInTruth 34 = .ok (.getfield 10, 3) := by decide +kernel
theorem dX8_raceInTruth_37 : decode cX8_raceInTruth 37 = .ok (.invokevirtual 171, 3) := by decide +kernel
theorem dX8_raceInTruth_40 : decode cX8_raceInTruth 40 = .ok (.iinc 1 1, 3) := by decide +kernel
theorem dX8_raceInTruth_43 : decode cX8_raceInTruth 43 = .ok (.goto (-41), 3) := by decide +kernel
theorem dX8_raceInTruth_46 : decode cX8_raceInTruth 46 = .ok (.aload_n 0, 1) := by decide +kernel
theorem dX8_raceInTruth_47 : decode cX8_raceInTruth 47 = .ok (.getfield 10, 3) := by decide +kernel
theorem dX8_raceInTruth_50 : decode cX8_raceInTruth 50 = .ok (.getfield 154, 3) := by decide +kernel
theorem dX8_raceInTruth_53 : decode cX8_raceInTruth 53 = .ok (.istore_n 1, 1) := by decide +kernel
theorem dX8_raceInTruth_54 : decode cX8_raceInTruth 54 = .ok (.iconst 0, 1) := by decide +kernel
theorem dX8_raceInTruth_55 : decode cX8_raceInTruth 55 = .ok (.istore_n 2, 1) := by decide +kernel
theorem dX8_raceInTruth_56 : decode cX8_raceInTruth 56 = .ok (.iload_n 2, 1) := by decide +kernel
theorem dX8_raceInTruth_57 : decode cX8_raceInTruth 57 = .ok (.sipush 999, 3) := by decide +kernel
theorem dX8_raceInTruth_60 : decode cX8_raceInTruth 60 = .ok (.if_icmp .ge 18, 3) := by decide +kernel
theorem dX8_raceInTruth_63 : decode cX8_raceInTruth 63 = .ok (.iload_n 1, 1) := by decide +kernel
theorem dX8_raceInTruth_64 : decode cX8_raceInTruth 64 = .ok (.ifCond .le 14, 3) := by decide +kernel
theorem dX8_raceInTruth_67 : decode cX8_raceInTruth 67 = .ok (.aload_n 0, 1) := by decide +kernel
theorem dX8_raceInTruth_68 : decode cX8_raceInTruth 68 = .ok (.invokevirtual 384, 3) := by decide +kernel
theorem dX8_raceInTruth_71 : decode cX8_raceInTruth 71 = .ok (.istore_n 1, 1) := by decide +kernel
theorem dX8_raceInTruth_72 : decode cX8_raceInTruth 72 = .ok (.iinc 2 1, 3) := by decide +kernel
theorem dX8_raceInTruth_75 : decode cX8_raceInTruth 75 = .ok (.goto (-19), 3) := by decide +kernel
theorem dX8_raceInTruth_78 : decode cX8_raceInTruth 78 = .ok (.aload_n 0, 1) := by decide +kernel
theorem dX8_raceInTruth_79 : decode cX8_raceInTruth 79 = .ok (.getfield 10, 3) := by decide +kernel
theorem dX8_raceInTruth_82 : decode cX8_raceInTruth 82 = .ok (.dup, 1) := by decide +kernel
theorem dX8_raceInTruth_83 : decode cX8_raceInTruth 83 = .ok (.getfield 356, 3) := by decide +kernel
theorem dX8_raceInTruth_86 : decode cX8_raceInTruth 86 = .ok (.iconst 1, 1) := by decide +kernel
theorem dX8_raceInTruth_87 : decode cX8_raceInTruth 87 = .ok (.iadd, 1) := by decide +kernel
theorem dX8_raceInTruth_88 : decode cX8_raceInTruth 88 = .ok (.putfield 356, 3) := by decide +kernel
theorem dX8_raceInTruth_91 : decode cX8_raceInTruth 91 = .ok (.aload_n 0, 1) := by decide +kernel
theorem dX8_raceInTruth_92 : decode cX8_raceInTruth 92 = .ok (.invokevirtual 387, 3) := by decide +kernel
theorem dX8_raceInTruth_95 : decode cX8_raceInTruth 95 = .ok (.istore_n 2, 1) := by decide +kernel
theorem dX8_raceInTruth_96 : decode cX8_raceInTruth 96 = .ok (.iload_n 2, 1) := by decide +kernel
theorem dX8_raceInTruth_97 : decode cX8_raceInTruth 97 = .ok (.iconst (-1), 1) := by decide +kernel
theorem dX8_raceInTruth_98 : decode cX8_raceInTruth 98 = .ok (.if_icmp .eq 21, 3) := by decide +kernel
theorem dX8_raceInTruth_101 : decode cX8_raceInTruth 101 = .ok (.aload_n 0, 1) := by decide +kernel
theorem dX8_raceInTruth_102 : decode cX8_raceInTruth 102 = .ok (.getfield 10, 3) := by decide +kernel
theorem dX8_raceInTruth_105 : decode cX8_raceInTruth 105 = .ok (.getfield 138, 3) := by decide +kernel
theorem dX8_raceInTruth_108 : decode cX8_raceInTruth 108 = .ok (.iload_n 2, 1) := by decide +kernel
theorem dX8_raceInTruth_109 : decode cX8_raceInTruth 109 = .ok (.aaload, 1) := by decide +kernel
theorem dX8_raceInTruth_110 : decode cX8_raceInTruth 110 = .ok (.dup, 1) := by decide +kernel
theorem dX8_raceInTruth_111 : decode cX8_raceInTruth 111 = .ok (.getfield 200, 3) := by decide +kernel
theorem dX8_raceInTruth_114 : decode cX8_raceInTruth 114 = .ok (.iconst 1, 1) := by decide +kernel
theorem dX8_raceInTruth_115 : decode cX8_raceInTruth 115 = .ok (.iadd, 1) := by decide +kernel
theorem dX8_raceInTruth_116 : decode cX8_raceInTruth 116 = .ok (.putfield 200, 3) := by decide +kernel
theorem dX8_raceInTruth_119 : decode cX8_raceInTruth 119 = .ok (.iload_n 2, 1) := by decide +kernel
theorem dX8_raceInTruth_120 : decode cX8_raceInTruth 120 = .ok (.ireturn, 1) := by decide +kernel
theorem dX8_secondInTruth_0 : decode cX8_secondInTruth 0 = .ok (.iconst 0, 1) := by decide +kernel
theorem dX8_secondInTruth_1 : decode cX8_secondInTruth 1 = .ok (.istore_n 1, 1) := by decide +kernel
theorem dX8_secondInTruth_2 : decode cX8_secondInTruth 2 = .ok (.iconst 0, 1) := by decide +kernel
theorem dX8_secondInTruth_3 : decode cX8_secondInTruth 3 = .ok (.istore_n 2, 1) := by decide +kernel
theorem dX8_secondInTruth_4 : decode cX8_secondInTruth 4 = .ok (.iload_n 2, 1) := by decide +kernel
theorem dX8_secondInTruth_5 : decode cX8_secondInTruth 5 = .ok (.aload_n 0, 1) := by decide +kernel
theorem dX8_secondInTruth_6 : decode cX8_secondInTruth 6 = .ok (.getfield 10, 3) := by decide +kernel
theorem dX8_secondInTruth_9 : decode cX8_secondInTruth 9 = .ok (.getfield 154, 3) := by decide +kernel
theorem dX8_secondInTruth_12 : decode cX8_secondInTruth 12 = .ok (.if_icmp .ge 69, 3) := by decide +kernel
theorem dX8_secondInTruth_15 : decode cX8_secondInTruth 15 = .ok (.aload_n 0, 1) := by decide +kernel
theorem dX8_secondInTruth_16 : decode cX8_secondInTruth 16 = .ok (.getfield 35, 3) := by decide +kernel
theorem dX8_secondInTruth_19 : decode cX8_secondInTruth 19 = .ok (.iload_n 2, 1) := by decide +kernel
theorem dX8_secondInTruth_20 : decode cX8_secondInTruth 20 = .ok (.aaload, 1) := by decide +kernel
theorem dX8_secondInTruth_21 : decode cX8_secondInTruth 21 = .ok (.astore_n 3, 1) := by decide +kernel
theorem dX8_secondInTruth_22 : decode cX8_secondInTruth 22 = .ok (.aload_n 3, 1) := by decide +kernel
theorem dX8_secondInTruth_23 : decode cX8_secondInTruth 23 = .ok (.getfield 254, 3) := by decide +kernel
theorem dX8_secondInTruth_26 : decode cX8_secondInTruth 26 = .ok (.aload_n 3, 1) := by decide +kernel
theorem dX8_secondInTruth_27 : decode cX8_secondInTruth 27 = .ok (.getfield 390, 3) := by decide +kernel
theorem dX8_secondInTruth_30 : decode cX8_secondInTruth 30 = .ok (.if_icmp .ge 45, 3) := by decide +kernel
theorem dX8_secondInTruth_33 : decode cX8_secondInTruth 33 = .ok (.iinc 1 1, 3) := by decide +kernel
theorem dX8_secondInTruth_36 : decode cX8_secondInTruth 36 = .ok (.aload_n 3, 1) := by decide +kernel
theorem dX8_secondInTruth_37 : decode cX8_secondInTruth 37 = .ok (.getfield 262, 3) := by decide +kernel
theorem dX8_secondInTruth_40 : decode cX8_secondInTruth 40 = .ok (.ifCond .le 10, 3) := by decide +kernel
theorem dX8_secondInTruth_43 : decode cX8_secondInTruth 43 = .ok (.aload_n 3, 1) := by decide +kernel
theorem dX8_secondInTruth_44 : decode cX8_secondInTruth 44 = .ok (.invokevirtual 393, 3) := by decide +kernel
theorem dX8_secondInTruth_47 : decode cX8_secondInTruth 47 = .ok (.goto 28, 3) := by decide +kernel
theorem dX8_secondInTruth_50 : decode cX8_secondInTruth 50 = .ok (.aload_n 3, 1) := by decide +kernel
theorem dX8_secondInTruth_51 : decode cX8_secondInTruth 51 = .ok (.aload_n 0, 1) := by decide +kernel
theorem dX8_secondInTruth_52 : decode cX8_secondInTruth 52 = .ok (.getfield 10, 3) := by decide +kernel
theorem dX8_secondInTruth_55 : decode cX8_secondInTruth 55 = .ok (.bipush 100, 2) := by decide +kernel
theorem dX8_secondInTruth_57 : decode cX8_secondInTruth 57 = .ok (.invokevirtual 396, 3) := by decide +kernel
theorem dX8_secondInTruth_60 : decode cX8_secondInTruth 60 = .ok (.aload_n 3, 1) := by decide +kernel
theorem dX8_secondInTruth_61 : decode cX8_secondInTruth 61 = .ok (.invokevirtual 399, 3) := by decide +kernel
theorem dX8_secondInTruth_64 : decode cX8_secondInTruth 64 = .ok (.if_icmp .ge 7, 3) := by decide +kernel
theorem dX8_secondInTruth_67 : decode cX8_secondInTruth 67 = .ok (.iconst 1, 1) := by decide +kernel
theorem dX8_secondInTruth_68 : decode cX8_secondInTruth 68 = .ok (.goto 4, 3) := by decide +kernel
theorem dX8_secondInTruth_71 : decode cX8_secondInTruth 71 = .ok (.iconst 0, 1) := by decide +kernel
theorem dX8_secondInTruth_72 : decode cX8_secondInTruth 72 = .ok (.invokevirtual 402, 3) := by decide +kernel
theorem dX8_secondInTruth_75 : decode cX8_secondInTruth 75 = .ok (.iinc 2 1, 3) := by decide +kernel
theorem dX8_secondInTruth_78 : decode cX8_secondInTruth 78 = .ok (.goto (-74), 3) := by decide +kernel
theorem dX8_secondInTruth_81 : decode cX8_secondInTruth 81 = .ok (.iload_n 1, 1) := by decide +kernel
theorem dX8_secondInTruth_82 : decode cX8_secondInTruth 82 = .ok (.ireturn, 1) := by decide +kernel
theorem dX8_firstInTruth_0 : decode cX8_firstInTruth 0 = .ok (.iconst (-1), 1) := by decide +kernel
theorem dX8_firstInTruth_1 : decode cX8_firstInTruth 1 = .ok (.istore_n 1, 1) := by decide +kernel
theorem dX8_firstInTruth_2 : decode cX8_firstInTruth 2 = .ok (.sipush 999, 3) := by decide +kernel
theorem dX8_firstInTruth_5 : decode cX8_firstInTruth 5 = .ok (.istore_n 2, 1) := by decide +kernel
theorem dX8_firstInTruth_6 : decode cX8_firstInTruth 6 = .ok (.iconst 0, 1) := by decide +kernel
theorem dX8_firstInTruth_7 : decode cX8_firstInTruth 7 = .ok (.istore_n 3, 1) := by decide +kernel
theorem dX8_firstInTruth_8 : decode cX8_firstInTruth 8 = .ok (.iload_n 3, 1) := by decide +kernel
theorem dX8_firstInTruth_9 : decode cX8_firstInTruth 9 = .ok (.aload_n 0, 1) := by decide +kernel
theorem dX8_firstInTruth_10 : decode cX8_firstInTruth 10 = .ok (.getfield 10, 3) := by decide +kernel
theorem dX8_firstInTruth_13 : decode cX8_firstInTruth 13 = .ok (.getfield 154, 3) := by decide +kernel
theorem dX8_firstInTruth_16 : decode cX8_firstInTruth 16 = .ok (.if_icmp .ge 31, 3) := by decide +kernel
theorem dX8_firstInTruth_19 : decode cX8_firstInTruth 19 = .ok (.aload_n 0, 1) := by decide +kernel
theorem dX8_firstInTruth_20 : decode cX8_firstInTruth 20 = .ok (.getfield 35, 3) := by decide +kernel
theorem dX8_firstInTruth_23 : decode cX8_firstInTruth 23 = .ok (.iload_n 3, 1) := by decide +kernel
theorem dX8_firstInTruth_24 : decode cX8_firstInTruth 24 = .ok (.aaload, 1) := by decide +kernel
theorem dX8_firstInTruth_25 : decode cX8_firstInTruth 25 = .ok (.invokevirtual 406, 3) := by decide +kernel
theorem dX8_firstInTruth_28 : decode cX8_firstInTruth 28 = .ok (.istore 4, 2) := by decide +kernel
theorem dX8_firstInTruth_30 : decode cX8_firstInTruth 30 = .ok (.iload 4, 2) := by decide +kernel
theorem dX8_firstInTruth_32 : decode cX8_firstInTruth 32 = .ok (.iload_n 2, 1) := by decide +kernel
theorem dX8_firstInTruth_33 : decode cX8_firstInTruth 33 = .ok (.if_icmp .ge 8, 3) := by decide +kernel
theorem dX8_firstInTruth_36 : decode cX8_firstInTruth 36 = .ok (.iload 4, 2) := by decide +kernel
theorem dX8_firstInTruth_38 : decode cX8_firstInTruth 38 = .ok (.istore_n 2, 1) := by decide +kernel
theorem dX8_firstInTruth_39 : decode cX8_firstInTruth 39 = .ok (.iload_n 3, 1) := by decide +kernel
theorem dX8_firstInTruth_40 : decode cX8_firstInTruth 40 = .ok (.istore_n 1, 1) := by decide +kernel
theorem dX8_firstInTruth_41 : decode cX8_firstInTruth 41 = .ok (.iinc 3 1, 3) := by decide +kernel
theorem dX8_firstInTruth_44 : decode cX8_firstInTruth 44 = .ok (.goto (-36), 3) := by decide +kernel
theorem dX8_firstInTruth_47 : decode cX8_firstInTruth 47 = .ok (.iload_n 1, 1) := by decide +kernel
theorem dX8_firstInTruth_48 : decode cX8_firstInTruth 48 = .ok (.ireturn, 1) := by decide +kernel
theorem dX9_init_0 : decode cX9_init 0 = .ok (.aload_n 0, 1) := by decide +kernel
theorem dX9_init_1 : decode cX9_init 1 = .ok (.invokespecial 1, 3) := by decide +kernel
theorem dX9_init_4 : decode cX9_init 4 = .ok (.aload_n 0, 1) := by decide +kernel
theorem dX9_init_5 : decode cX9_init 5 = .ok (.bipush 40, 2) := by decide +kernel
theorem dX9_init_7 : decode cX9_init 7 = .ok (.putfield 7, 3) := by decide +kernel
theorem dX9_init_10 : decode cX9_init 10 = .ok (.aload_n 0, 1) := by decide +kernel
theorem dX9_init_11 : decode cX9_init 11 = .ok (.iconst 5, 1) := by decide +kernel
theorem dX9_init_12 : decode cX9_init 12 = .ok (.putfield 13, 3) := by decide +kernel
theorem dX9_init_15 : decode cX9_init 15 = .ok (.aload_n 0, 1) := by decide +kernel
theorem dX9_init_16 : decode cX9_init 16 = .ok (.iconst 3, 1) := by decide +kernel
theorem dX9_init_17 : decode cX9_init 17 = .ok (.putfield 16, 3) := by decide +kernel
theorem dX9_init_20 : decode cX9_init 20 = .ok (.aload_n 0, 1) := by decide +kernel
theorem dX9_init_21 : decode cX9_init 21 = .ok (.bipush 20, 2) := by decide +kernel
theorem dX9_init_23 : decode cX9_init 23 = .ok (.putfield 19, 3) := by decide +kernel
theorem dX9_init_26 : decode cX9_init 26 = .ok (.aload_n 0, 1) := by decide +kernel
theorem dX9_init_27 : decode cX9_init 27 = .ok (.iconst 1, 1) := by decide +kernel
theorem dX9_init_28 : decode cX9_init 28 = .ok (.putfield 22, 3) := by decide +kernel
theorem dX9_init_31 : decode cX9_init 31 = .ok (.aload_n 0, 1) := by decide +kernel
theorem dX9_init_32 : decode cX9_init 32 = .ok (.iconst (-1), 1) := by decide +kernel
theorem dX9_init_33 : decode cX9_init 33 = .ok (.putfield 25, 3) := by decide +kernel
theorem dX9_init_36 : decode cX9_init 36 = .ok (.aload_n 0, 1) := by decide +kernel
theorem dX9_init_37 : decode cX9_init 37 = .ok (.bipush 8, 2) := by decide +kernel
theorem dX9_init_39 : decode cX9_init 39 = .ok (.newarray .int, 2) := by decide +kernel
theorem dX9_init_41 : decode cX9_init 41 = .ok (.putfield 28, 3) := by decide +kernel
theorem dX9_init_44 : decode cX9_init 44 = .ok (.aload_n 0, 1) := by decide +kernel
theorem dX9_init_45 : decode cX9_init 45 = .ok (.bipush 8, 2) := by decide +kernel
theorem dX9_init_47 : decode cX9_init 47 = .ok (.newarray .int, 2) := by decide +kernel
theorem dX9_init_49 : decode cX9_init 49 = .ok (.putfield 32, 3) := by decide +kernel
theorem dX9_init_52 : decode cX9_init 52 = .ok (.aload_n 0, 1) := by decide +kernel
theorem dX9_init_53 : decode cX9_init 53 = .ok (.bipush 8, 2) := by decide +kernel
theorem dX9_init_55 : decode cX9_init 55 = .ok (.newarray .int, 2) := by decide +kernel
theorem dX9_init_57 : decode cX9_init 57 = .ok (.putfield 35, 3) := by decide +kernel
theorem dX9_init_60 : decode cX9_init 60 = .ok (.aload_n 0, 1) := by decide +kernel
theorem dX9_init_61 : decode cX9_init 61 = .ok (.bipush 8, 2) := by decide +kernel
theorem dX9_init_63 : decode cX9_init 63 = .ok (.newarray .int, 2) := by decide +kernel
theorem dX9_init_65 : decode cX9_init 65 = .ok (.putfield 38, 3) := by decide +kernel
theorem dX9_init_68 : decode cX9_init 68 = .ok (.aload_n 0, 1) := by decide +kernel
theorem dX9_init_69 : decode cX9_init 69 = .ok (.bipush 8, 2) := by decide +kernel
theorem dX9_init_71 : decode cX9_init 71 = .ok (.newarray .int, 2) := by decide +kernel
theorem dX9_init_73 : decode cX9_init 73 = .ok (.putfield 41, 3) := by decide +kernel
theorem dX9_init_76 : decode cX9_init 76 = .ok (.aload_n 0, 1) := by decide +kernel
theorem dX9_init_77 : decode cX9_init 77 = .ok (.bipush 8, 2) := by decide +kernel
theorem dX9_init_79 : decode cX9_init 79 = .ok (.newarray .int, 2) := by decide +kernel
theorem dX9_init_81 : decode cX9_init 81 = .ok (.putfield 44, 3) := by decide +kernel
theorem dX9_init_84 : decode cX9_init 84 = .ok (.aload_n 0, 1) := by decide +kernel
theorem dX9_init_85 : decode cX9_init 85 = .ok (.bipush 8, 2) := by decide +kernel
theorem dX9_init_87 : decode cX9_init 87 = .ok (.newarray .int, 2) := by decide +kernel
theorem dX9_init_89 : decode cX9_init 89 = .ok (.putfield 47, 3) := by decide +kernel
theorem dX9_init_92 : decode cX9_init 92 = .ok (.aload_n 0, 1) := by decide +kernel
theorem dX9_init_93 : decode cX9_init 93 = .ok (.bipush 8, 2) := by decide +kernel
theorem dX9_init_95 : decode cX9_init 95 = .ok (.newarray .int, 2) := by decide +kernel
theorem dX9_init_97 : decode cX9_init 97 = .ok (.putfield 50, 3) := by decide +kernel
theorem dX9_init_100 : decode cX9_init 100 = .ok (.aload_n 0, 1) := by decide +kernel
theorem dX9_init_101 : decode cX9_init 101 = .ok (.bipush 8, 2) := by decide +kernel
theorem dX9_init_103 : decode cX9_init 103 = .ok (.newarray .int, 2) := by decide +kernel
theorem dX9_init_105 : decode cX9_init 105 = .ok (.putfield 53, 3) := by decide +kernel
theorem dX9_init_108 : decode cX9_init 108 = .ok (.aload_n 0, 1) := by decide +kernel
theorem dX9_init_109 : decode cX9_init 109 = .ok (.bipush 8, 2) := by decide +kernel
theorem dX9_init_111 : decode cX9_init 111 = .ok (.newarray .int, 2) := by decide +kernel
theorem dX9_init_113 : decode cX9_init 113 = .ok (.putfield 56, 3) := by decide +kernel
theorem dX9_init_116 : decode cX9_init 116 = .ok (.aload_n 0, 1) := by decide +kernel
theorem dX9_init_117 : decode cX9_init 117 = .ok (.bipush 8, 2) := by decide +kernel
theorem dX9_init_119 : decode cX9_init 119 = .ok (.newarray .int, 2) := by decide +kernel
theorem dX9_init_121 : decode cX9_init 121 = .ok (.putfield 59, 3) := by decide +kernel
theorem dX9_init_124 : decode cX9_init 124 = .ok (.aload_n 0, 1) := by decide +kernel
theorem dX9_init_125 : decode cX9_init 125 = .ok (.bipush 8, 2) := by decide +kernel
theorem dX9_init_127 : decode cX9_init 127 = .ok (.newarray .int, 2) := by decide +kernel
theorem dX9_init_129 : decode cX9_init 129 = .ok (.putfield 62, 3) := by decide +kernel
theorem dX9_init_132 : decode cX9_init 132 = .ok (.aload_n 0, 1) := by decide +kernel
theorem dX9_init_133 : decode cX9_init 133 = .ok (.bipush 8, 2) := by decide +kernel
theorem dX9_init_135 : decode cX9_init 135 = .ok (.newarray .int, 2) := by decide +kernel
theorem dX9_init_137 : decode cX9_init 137 = .ok (.putfield 65, 3) := by decide +kernel
theorem dX9_init_140 : decode cX9_init 140 = .ok (.aload_n 0, 1) := by decide +kernel
theorem dX9_init_141 : decode cX9_init 141 = .ok (.sipush 1280, 3) := by decide +kernel
theorem dX9_init_144 : decode cX9_init 144 = .ok (.newarray .long, 2) := by decide +kernel
theorem dX9_init_146 : decode cX9_init 146 = .ok (.putfield 68, 3) := by decide +kernel
theorem dX9_init_149 : decode cX9_init 149 = .ok (.aload_n 0, 1) := by decide +kernel
theorem dX9_init_150 : decode cX9_init 150 = .ok (.sipush 160, 3) := by decide +kernel
theorem dX9_init_153 : decode cX9_init 153 = .ok (.newarray .long, 2) := by decide +kernel
theorem dX9_init_155 : decode cX9_init 155 = .ok (.putfield 72, 3) := by decide +kernel
theorem dX9_init_158 : decode cX9_init 158 = .ok (.aload_n 0, 1) := by decide +kernel
theorem dX9_init_159 : decode cX9_init 159 = .ok (.bipush 48, 2) := by decide +kernel
theorem dX9_init_161 : decode cX9_init 161 = .ok (.newarray .int, 2) := by decide +kernel
theorem dX9_init_163 : decode cX9_init 163 = .ok (.dup, 1) := by decide +kernel
theorem dX9_init_164 : decode cX9_init 164 = .ok (.iconst 0, 1) := by decide +kernel
theorem dX9_init_165 : decode cX9_init 165 = .ok (.bipush 99, 2) := by decide +kernel
theorem dX9_init_167 : decode cX9_init 167 = .ok (.iastore, 1) := by decide +kernel
theorem dX9_init_168 : decode cX9_init 168 = .ok (.dup, 1) := by decide +kernel
theorem dX9_init_169 : decode cX9_init 169 = .ok (.iconst 1, 1) := by decide +kernel
theorem dX9_init_170 : decode cX9_init 170 = .ok (.bipush 104, 2) := by decide +kernel
theorem dX9_init_172 : decode cX9_init 172 = .ok (.iastore, 1) := by decide +kernel
theorem dX9_init_173 : decode cX9_init 173 = .ok (.dup, 1) := by decide +kernel
theorem dX9_init_174 : decode cX9_init 174 = .ok (.iconst 2, 1) := by decide +kernel
theorem dX9_init_175 : decode cX9_init 175 = .ok (.bipush 105, 2) := by decide +kernel
theorem dX9_init_177 : decode cX9_init 177 = .ok (.iastore, 1) := by decide +kernel
theorem dX9_init_178 : decode cX9_init 178 = .ok (.dup, 1) := by decide +kernel
theorem dX9_init_179 : decode cX9_init 179 = .ok (.iconst 3, 1) := by decide +kernel
theorem dX9_init_180 : decode cX9_init 180 = .ok (.bipush 108, 2) := by decide +kernel
theorem dX9_init_182 : decode cX9_init 182 = .ok (.iastore, 1) := by decide +kernel
theorem dX9_init_183 : decode cX9_init 183 = .ok (.dup, 1) := by decide +kernel
theorem dX9_init_184 : decode cX9_init 184 = .ok (.iconst 4, 1) := by decide +kernel
theorem dX9_init_185 : decode cX9_init 185 = .ok (.bipush 100, 2) := by decide +kernel
theorem dX9_init_187 : decode cX9_init 187 = .ok (.iastore, 1) := by decide +kernel
theorem dX9_init_188 : decode cX9_init 188 = .ok (.dup, 1) := by decide +kernel
theorem dX9_init_189 : decode cX9_init 189 = .ok (.iconst 5, 1) := by decide +kernel
theorem dX9_init_190 : decode cX9_init 190 = .ok (.bipush 32, 2) := by decide +kernel
theorem dX9_init_192 : decode cX9_init 192 = .ok (.iastore, 1) := by decide +kernel
theorem dX9_init_193 : decode cX9_init 193 = .ok (.dup, 1) := by decide +kernel
theorem dX9_init_194 : decode cX9_init 194 = .ok (.bipush 6, 2) := by decide +kernel
theorem dX9_init_196 : decode cX9_init 196 = .ok (.iconst 0, 1) := by decide +kernel
theorem dX9_init_197 : decode cX9_init 197 = .ok (.iastore, 1) := by decide +kernel
theorem dX9_init_198 : decode cX9_init 198 = .ok (.dup, 1) := by decide +kernel
theorem dX9_init_199 : decode cX9_init 199 = .ok (.bipush 7, 2) := by decide +kernel
theorem dX9_init_201 : decode cX9_init 201 = .ok (.bipush 115, 2) := by decide +kernel
theorem dX9_init_203 : decode cX9_init 203 = .ok (.iastore, 1) := by decide +kernel
theorem dX9_init_204 : decode cX9_init 204 = .ok (.dup, 1) := by decide +kernel
theorem dX9_init_205 : decode cX9_init 205 = .ok (.bipush 8, 2) := by decide +kernel
theorem dX9_init_207 : decode cX9_init 207 = .ok (.bipush 97, 2) := by decide +kernel
theorem dX9_init_209 : decode cX9_init 209 = .ok (.iastore, 1) := by decide +kernel
theorem dX9_init_210 : decode cX9_init 210 = .ok (.dup, 1) := by decide +kernel
theorem dX9_init_211 : decode cX9_init 211 = .ok (.bipush 9, 2) := by decide +kernel
theorem dX9_init_213 : decode cX9_init 213 = .ok (.bipush 99, 2) := by decide +kernel
theorem dX9_init_215 : decode cX9_init 215 = .ok (.iastore, 1) := by decide +kernel
theorem dX9_init_216 : decode cX9_init 216 = .ok (.dup, 1) := by decide +kernel
theorem dX9_init_217 : decode cX9_init 217 = .ok (.bipush 10, 2) := by decide +kernel
theorem dX9_init_219 : decode cX9_init 219 = .ok (.bipush 107, 2) := by decide +kernel
theorem dX9_init_221 : decode cX9_init 221 = .ok (.iastore, 1) := by decide +kernel
theorem dX9_init_222 : decode cX9_init 222 = .ok (.dup, 1) := by decide +kernel
theorem dX9_init_223 : decode cX9_init 223 = .ok (.bipush 11, 2) := by decide +kernel
theorem dX9_init_225 : decode cX9_init 225 = .ok (.bipush 32, 2) := by decide +kernel
theorem dX9_init_227 : decode cX9_init 227 = .ok (.iastore, 1) := by decide +kernel
theorem dX9_init_228 : decode cX9_init 228 = .ok (.dup, 1) := by decide +kernel
theorem dX9_init_229 : decode cX9_init 229 = .ok (.bipush 12, 2) := by decide +kernel
theorem dX9_init_231 : decode cX9_init 231 = .ok (.iconst 0, 1) := by decide +kernel
theorem dX9_init_232 : decode cX9_init 232 = .ok (.iastore, 1) := by decide +kernel
theorem dX9_init_233 : decode cX9_init 233 = .ok (.dup, 1) := by decide +kernel
theorem dX9_init_234 : decode cX9_init 234 = .ok (.bipush 13, 2) := by decide +kernel
theorem dX9_init_236 : decode cX9_init 236 = .ok (.bipush 119, 2) := by decide +kernel
theorem dX9_init_238 : decode cX9_init 238 = .ok (.iastore, 1) := by decide +kernel
theorem dX9_init_239 : decode cX9_init 239 = .ok (.dup, 1) := by decide +kernel
theorem dX9_init_240 : decode cX9_init 240 = .ok (.bipush 14, 2) := by decide +kernel
theorem dX9_init_242 : decode cX9_init 242 = .ok (.bipush 101, 2) := by decide +kernel
theorem dX9_init_244 : decode cX9_init 244 = .ok (.iastore, 1) := by decide +kernel
theorem dX9_init_245 : decode cX9_init 245 = .ok (.dup, 1) := by decide +kernel
theorem dX9_init_246 : decode cX9_init 246 = .ok (.bipush 15, 2) := by decide +kernel
theorem dX9_init_248 : decode cX9_init 248 = .ok (.bipush 97, 2) := by decide +kernel
theorem dX9_init_250 : decode cX9_init 250 = .ok (.iastore, 1) := by decide +kernel
theorem dX9_init_251 : decode cX9_init 251 = .ok (.dup, 1) := by decide +kernel
theorem dX9_init_252 : decode cX9_init 252 = .ok (.bipush 16, 2) := by decide +kernel
theorem dX9_init_254 : decode cX9_init 254 = .ok (.bipush 114, 2) := by decide +kernel
theorem dX9_init_256 : decode cX9_init 256 = .ok (.iastore, 1) := by decide +kernel
theorem dX9_init_257 : decode cX9_init 257 = .ok (.dup, 1) := by decide +kernel
theorem dX9_init_258 : decode cX9_init 258 = .ok (.bipush 17, 2) := by decide +kernel
theorem dX9_init_260 : decode cX9_init 260 = .ok (.bipush 115, 2) := by decide +kernel
theorem dX9_init_262 : decode cX9_init 262 = .ok (.iastore, 1) := by decide +kernel
theorem dX9_init_263 : decode cX9_init 263 = .ok (.dup, 1) := by decide +kernel
theorem dX9_init_264 : decode cX9_init 264 = .ok (.bipush 18, 2) := by decide +kernel
theorem dX9_init_266 : decode cX9_init 266 = .ok (.bipush 32, 2) := by decide +kernel
theorem dX9_init_268 : decode cX9_init 268 = .ok (.iastore, 1) := by decide +kernel
theorem dX9_init_269 : decode cX9_init 269 = .ok (.dup, 1) := by decide +kernel
theorem dX9_init_270 : decode cX9_init 270 = .ok (.bipush 19, 2) := by decide +kernel
theorem dX9_init_272 : decode cX9_init 272 = .ok (.iconst 0, 1) := by decide +kernel
theorem dX9_init_273 : decode cX9_init 273 = .ok (.iastore, 1) := by decide +kernel
theorem dX9_init_274 : decode cX9_init 274 = .ok (.dup, 1) := by decide +kernel
theorem dX9_init_275 : decode cX9_init 275 = .ok (.bipush 20, 2) := by decide +kernel
theorem dX9_init_277 : decode cX9_init 277 = .ok (.bipush 97, 2) := by decide +kernel
theorem dX9_init_279 : decode cX9_init 279 = .ok (.iastore, 1) := by decide +kernel
theorem dX9_init_280 : decode cX9_init 280 = .ok (.dup, 1) := by decide +kernel
theorem dX9_init_281 : decode cX9_init 281 = .ok (.bipush 21, 2) := by decide +kernel
theorem dX9_init_283 : decode cX9_init 283 = .ok (.bipush 104, 2) := by decide +kernel
theorem dX9_init_285 : decode cX9_init 285 = .ok (.iastore, 1) := by decide +kernel
theorem dX9_init_286 : decode cX9_init 286 = .ok (.dup, 1) := by decide +kernel
theorem dX9_init_287 : decode cX9_init 287 = .ok (.bipush 22, 2) := by decide +kernel
theorem dX9_init_289 : decode cX9_init 289 = .ok (.bipush 101, 2) := by decide +kernel
theorem dX9_init_291 : decode cX9_init 291 = .ok (.iastore, 1) := by decide +kernel
theorem dX9_init_292 : decode cX9_init 292 = .ok (.dup, 1) := by decide +kernel
theorem dX9_init_293 : decode cX9_init 293 = .ok (.bipush 23, 2) := by decide +kernel
theorem dX9_init_295 : decode cX9_init 295 = .ok (.bipush 97, 2) := by decide +kernel
theorem dX9_init_297 : decode cX9_init 297 = .ok (.iastore, 1) := by decide +kernel
theorem dX9_init_298 : decode cX9_init 298 = .ok (.dup, 1) := by decide +kernel
theorem dX9_init_299 : decode cX9_init 299 = .ok (.bipush 24, 2) := by decide +kernel
theorem dX9_init_301 : decode cX9_init 301 = .ok (.bipush 100, 2) := by decide +kernel
theorem dX9_init_303 : decode cX9_init 303 = .ok (.iastore, 1) := by decide +kernel
theorem dX9_init_304 : decode cX9_init 304 = .ok (.dup, 1) := by decide +kernel
theorem dX9_init_305 : decode cX9_init 305 = .ok (.bipush 25, 2) := by decide +kernel
theorem dX9_init_307 : decode cX9_init 307 = .ok (.bipush 32, 2) := by decide +kernel
theorem dX9_init_309 : decode cX9_init 309 = .ok (.iastore, 1) := by decide +kernel
theorem dX9_init_310 : decode cX9_init 310 = .ok (.dup, 1) := by decide +kernel
theorem dX9_init_311 : decode cX9_init 311 = .ok (.bipush 26, 2) := by decide +kernel
theorem dX9_init_313 : decode cX9_init 313 = .ok (.iconst 0, 1) := by decide +kernel
theorem dX9_init_314 : decode cX9_init 314 = .ok (.iastore, 1) := by decide +kernel
theorem dX9_init_315 : decode cX9_init 315 = .ok (.dup, 1) := by decide +kernel
theorem dX9_init_316 : decode cX9_init 316 = .ok (.bipush 27, 2) := by decide +kernel
theorem dX9_init_318 : decode cX9_init 318 = .ok (.bipush 119, 2) := by decide +kernel
theorem dX9_init_320 : decode cX9_init 320 = .ok (.iastore, 1) := by decide +kernel
theorem dX9_init_321 : decode cX9_init 321 = .ok (.dup, 1) := by decide +kernel
theorem dX9_init_322 : decode cX9_init 322 = .ok (.bipush 28, 2) := by decide +kernel
theorem dX9_init_324 : decode cX9_init 324 = .ok (.bipush 97, 2) := by decide +kernel
theorem dX9_init_326 : decode cX9_init 326 = .ok (.iastore, 1) := by decide +kernel
theorem dX9_init_327 : decode cX9_init 327 = .ok (.dup, 1) := by decide +kernel
theorem dX9_init_328 : decode cX9_init 328 = .ok (.bipush 29, 2) := by decide +kernel
theorem dX9_init_330 : decode cX9_init 330 = .ok (.bipush 121, 2) := by decide +kernel
theorem dX9_init_332 : decode cX9_init 332 = .ok (.iastore, 1) := by decide +kernel
theorem dX9_init_333 : decode cX9_init 333 = .ok (.dup, 1) := by decide +kernel
theorem dX9_init_334 : decode cX9_init 334 = .ok (.bipush 30, 2) := by decide +kernel
theorem dX9_init_336 : decode cX9_init 336 = .ok (.bipush 32, 2) := by decide +kernel
theorem dX9_init_338 : decode cX9_init 338 = .ok (.iastore, 1) := by decide +kernel
theorem dX9_init_339 : decode cX9_init 339 = .ok (.dup, 1) := by decide +kernel
theorem dX9_init_340 : decode cX9_init 340 = .ok (.bipush 31, 2) := by decide +kernel
theorem dX9_init_342 : decode cX9_init 342 = .ok (.iconst 0, 1) := by decide +kernel
theorem dX9_init_343 : decode cX9_init 343 = .ok (.iastore, 1) := by decide +kernel
theorem dX9_init_344 : decode cX9_init 344 = .ok (.dup, 1) := by decide +kernel
theorem dX9_init_345 : decode cX9_init 345 = .ok (.bipush 32, 2) := by decide +kernel
theorem dX9_init_347 : decode cX9_init 347 = .ok (.bipush 117, 2) := by decide +kernel
theorem dX9_init_349 : decode cX9_init 349 = .ok (.iastore, 1) := by decide +kernel
theorem dX9_init_350 : decode cX9_init 350 = .ok (.dup, 1) := by decide +kernel
theorem dX9_init_351 : decode cX9_init 351 = .ok (.bipush 33, 2) := by decide +kernel
theorem dX9_init_353 : decode cX9_init 353 = .ok (.bipush 112, 2) := by decide +kernel
theorem dX9_init_355 : decode cX9_init 355 = .ok (.iastore, 1) := by decide +kernel
theorem dX9_init_356 : decode cX9_init 356 = .ok (.dup, 1) := by decide +kernel
theorem dX9_init_357 : decode cX9_init 357 = .ok (.bipush 34, 2) := by decide +kernel
theorem dX9_init_359 : decode cX9_init 359 = .ok (.bipush 32, 2) := by decide +kernel
theorem dX9_init_361 : decode cX9_init 361 = .ok (.iastore, 1) := by decide +kernel
theorem dX9_init_362 : decode cX9_init 362 = .ok (.dup, 1) := by decide +kernel
theorem dX9_init_363 : decode cX9_init 363 = .ok (.bipush 35, 2) := by decide +kernel
theorem dX9_init_365 : decode cX9_init 365 = .ok (.iconst 0, 1) := by decide +kernel
theorem dX9_init_366 : decode cX9_init 366 = .ok (.iastore, 1) := by decide +kernel
theorem dX9_init_367 : decode cX9_init 367 = .ok (.dup, 1) := by decide +kernel
theorem dX9_init_368 : decode cX9_init 368 = .ok (.bipush 36, 2) := by decide +kernel
theorem dX9_init_370 : decode cX9_init 370 = .ok (.bipush 114, 2) := by decide +kernel
theorem dX9_init_372 : decode cX9_init 372 = .ok (.iastore, 1) := by decide +kernel
theorem dX9_init_373 : decode cX9_init 373 = .ok (.dup, 1) := by decide +kernel
theorem dX9_init_374 : decode cX9_init 374 = .ok (.bipush 37, 2) := by decide +kernel
theorem dX9_init_376 : decode cX9_init 376 = .ok (.bipush 111, 2) := by decide +kernel
theorem dX9_init_378 : decode cX9_init 378 = .ok (.iastore, 1) := by decide +kernel
theorem dX9_init_379 : decode cX9_init 379 = .ok (.dup, 1) := by decide +kernel
theorem dX9_init_380 : decode cX9_init 380 = .ok (.bipush 38, 2) := by decide +kernel
theorem dX9_init_382 : decode cX9_init 382 = .ok (.bipush 112, 2) := by decide +kernel
theorem dX9_init_384 : decode cX9_init 384 = .ok (.iastore, 1) := by decide +kernel
theorem dX9_init_385 : decode cX9_init 385 = .ok (.dup, 1) := by decide +kernel
theorem dX9_init_386 : decode cX9_init 386 = .ok (.bipush 39, 2) := by decide +kernel
theorem dX9_init_388 : decode cX9_init 388 = .ok (.bipush 101, 2) := by decide +kernel
theorem dX9_init_390 : decode cX9_init 390 = .ok (.iastore, 1) := by decide +kernel
theorem dX9_init_391 : decode cX9_init 391 = .ok (.dup, 1) := by decide +kernel
theorem dX9_init_392 : decode cX9_init 392 = .ok (.bipush 40, 2) := by decide +kernel
theorem dX9_init_394 : decode cX9_init 394 = .ok (.bipush 32, 2) := by decide +kernel
theorem dX9_init_396 : decode cX9_init 396 = .ok (.iastore, 1) := by decide +kernel
theorem dX9_init_397 : decode cX9_init 397 = .ok (.dup, 1) := by decide +kernel
theorem dX9_init_398 : decode cX9_init 398 = .ok (.bipush 41, 2) := by decide +kernel
theorem dX9_init_400 : decode cX9_init 400 = .ok (.iconst 0, 1) := by decide +kernel
theorem dX9_init_401 : decode cX9_init 401 = .ok (.iastore, 1) := by decide +kernel
theorem dX9_init_402 : decode cX9_init 402 = .ok (.dup, 1) := by decide +kernel
theorem dX9_init_403 : decode cX9_init 403 = .ok (.bipush 42, 2) := by decide +kernel
theorem dX9_init_405 : decode cX9_init 405 = .ok (.bipush 119, 2) := by decide +kernel
theorem dX9_init_407 : decode cX9_init 407 = .ok (.iastore, 1) := by decide +kernel
theorem dX9_init_408 : decode cX9_init 408 = .ok (.dup, 1) := by decide +kernel
theorem dX9_init_409 : decode cX9_init 409 = .ok (.bipush 43, 2) := by decide +kernel
theorem dX9_init_411 : decode cX9_init 411 = .ok (.bipush 105, 2) := by decide +kernel
theorem dX9_init_413 : decode cX9_init 413 = .ok (.iastore, 1) := by decide +kernel
theorem dX9_init_414 : decode cX9_init 414 = .ok (.dup, 1) := by decide +kernel
theorem dX9_init_415 : decode cX9_init 415 = .ok (.bipush 44, 2) := by decide +kernel
theorem dX9_init_417 : decode cX9_init 417 = .ok (.bipush 110, 2) := by decide +kernel
theorem dX9_init_419 : decode cX9_init 419 = .ok (.iastore, 1) := by decide +kernel
theorem dX9_init_420 : decode cX9_init 420 = .ok (.dup, 1) := by decide +kernel
theorem dX9_init_421 : decode cX9_init 421 = .ok (.bipush 45, 2) := by decide +kernel
theorem dX9_init_423 : decode cX9_init 423 = .ok (.bipush 100, 2) := by decide +kernel
theorem dX9_init_425 : decode cX9_init 425 = .ok (.iastore, 1) := by decide +kernel
theorem dX9_init_426 : decode cX9_init 426 = .ok (.dup, 1) := by decide +kernel
theorem dX9_init_427 : decode cX9_init 427 = .ok (.bipush 46, 2) := by decide +kernel
theorem dX9_init_429 : decode cX9_init 429 = .ok (.bipush 32, 2) := by decide +kernel
theorem dX9_init_431 : decode cX9_init 431 = .ok (.iastore, 1) := by decide +kernel
theorem dX9_init_432 : decode cX9_init 432 = .ok (.dup, 1) := by decide +kernel
theorem dX9_init_433 : decode cX9_init 433 = .ok (.bipush 47, 2) := by decide +kernel
theorem dX9_init_435 : decode cX9_init 435 = .ok (.iconst 0, 1) := by decide +kernel
theorem dX9_init_436 : decode cX9_init 436 = .ok (.iastore, 1) := by decide +kernel
theorem dX9_init_437 : decode cX9_init 437 = .ok (.putfield 75, 3) := by decide +kernel
theorem dX9_init_440 : decode cX9_init 440 = .ok (.aload_n 0, 1) := by decide +kernel
theorem dX9_init_441 : decode cX9_init 441 = .ok (.bipush 8, 2) := by decide +kernel
theorem dX9_init_443 : decode cX9_init 443 = .ok (.newarray .int, 2) := by decide +kernel
theorem dX9_init_445 : decode cX9_init 445 = .ok (.dup, 1) := by decide +kernel
theorem dX9_init_446 : decode cX9_init 446 = .ok (.iconst 0, 1) := by decide +kernel
theorem dX9_init_447 : decode cX9_init 447 = .ok (.iconst 3, 1) := by decide +kernel
theorem dX9_init_448 : decode cX9_init 448 = .ok (.iastore, 1) := by decide +kernel
theorem dX9_init_449 : decode cX9_init 449 = .ok (.dup, 1) := by decide +kernel
theorem dX9_init_450 : decode cX9_init 450 = .ok (.iconst 1, 1) := by decide +kernel
theorem dX9_init_451 : decode cX9_init 451 = .ok (.iconst 2, 1) := by decide +kernel
theorem dX9_init_452 : decode cX9_init 452 = .ok (.iastore, 1) := by decide +kernel
theorem dX9_init_453 : decode cX9_init 453 = .ok (.dup, 1) := by decide +kernel
theorem dX9_init_454 : decode cX9_init 454 = .ok (.iconst 2, 1) := by decide +kernel
theorem dX9_init_455 : decode cX9_init 455 = .ok (.iconst 2, 1) := by decide +kernel
theorem dX9_init_456 : decode cX9_init 456 = .ok (.iastore, 1) := by decide +kernel
theorem dX9_init_457 : decode cX9_init 457 = .ok (.dup, 1) := by decide +kernel
theorem dX9_init_458 : decode cX9_init 458 = .ok (.iconst 3, 1) := by decide +kernel
theorem dX9_init_459 : decode cX9_init 459 = .ok (.iconst 2, 1) := by decide +kernel
theorem dX9_init_460 : decode cX9_init 460 = .ok (.iastore, 1) := by decide +kernel
theorem dX9_init_461 : decode cX9_init 461 = .ok (.dup, 1) := by decide +kernel
theorem dX9_init_462 : decode cX9_init 462 = .ok (.iconst 4, 1) := by decide +kernel
theorem dX9_init_463 : decode cX9_init 463 = .ok (.iconst 1, 1) := by decide +kernel
theorem dX9_init_464 : decode cX9_init 464 = .ok (.iastore, 1) := by decide +kernel
theorem dX9_init_465 : decode cX9_init 465 = .ok (.dup, 1) := by decide +kernel
theorem dX9_init_466 : decode cX9_init 466 = .ok (.iconst 5, 1) := by decide +kernel
theorem dX9_init_467 : decode cX9_init 467 = .ok (.iconst 1, 1) := by decide +kernel
theorem dX9_init_468 : decode cX9_init 468 = .ok (.iastore, 1) := by decide +kernel
theorem dX9_init_469 : decode cX9_init 469 = .ok (.dup, 1) := by decide +kernel
theorem dX9_init_470 : decode cX9_init 470 = .ok (.bipush 6, 2) := by decide +kernel
theorem dX9_init_472 : decode cX9_init 472 = .ok (.iconst 1, 1) := by decide +kernel
theorem dX9_init_473 : decode cX9_init 473 = .ok (.iastore, 1) := by decide +kernel
theorem dX9_init_474 : decode cX9_init 474 = .ok (.dup, 1) := by decide +kernel
theorem dX9_init_475 : decode cX9_init 475 = .ok (.bipush 7, 2) := by decide +kernel
theorem dX9_init_477 : decode cX9_init 477 = .ok (.iconst 1, 1) := by decide +kernel
theorem dX9_init_478 : decode cX9_init 478 = .ok (.iastore, 1) := by decide +kernel
theorem dX9_init_479 : decode cX9_init 479 = .ok (.putfield 78, 3) := by decide +kernel
theorem dX9_init_482 : decode cX9_init 482 = .ok (.aload_n 0, 1) := by decide +kernel
theorem dX9_init_483 : decode cX9_init 483 = .ok (.iconst 3, 1) := by decide +kernel
theorem dX9_init_484 : decode cX9_init 484 = .ok (.newarray .int, 2) := by decide +kernel
theorem dX9_init_486 : decode cX9_init 486 = .ok (.putfield 81, 3) := by decide +kernel
theorem dX9_init_489 : decode cX9_init 489 = .ok (.aload_n 0, 1) := by decide +kernel
theorem dX9_init_490 : decode cX9_init 490 = .ok (.bipush 80, 2) := by decide +kernel
theorem dX9_init_492 : decode cX9_init 492 = .ok (.newarray .int, 2) := by decide +kernel
theorem dX9_init_494 : decode cX9_init 494 = .ok (.putfield 84, 3) := by decide +kernel
theorem dX9_init_497 : decode cX9_init 497 = .ok (.aload_n 0, 1) := by decide +kernel
theorem dX9_init_498 : decode cX9_init 498 = .ok (.bipush 80, 2) := by decide +kernel
theorem dX9_init_500 : decode cX9_init 500 = .ok (.newarray .int, 2) := by decide +kernel
theorem dX9_init_502 : decode cX9_init 502 = .ok (.putfield 87, 3) := by decide +kernel
theorem dX9_init_505 : decode cX9_init 505 = .ok (.aload_n 0, 1) := by decide +kernel
theorem dX9_init_506 : decode cX9_init 506 = .ok (.bipush 40, 2) := by decide +kernel
theorem dX9_init_508 : decode cX9_init 508 = .ok (.newarray .int, 2) := by decide +kernel
theorem dX9_init_510 : decode cX9_init 510 = .ok (.putfield 90, 3) := by decide +kernel
theorem dX9_init_513 : decode cX9_init 513 = .ok (.aload_n 0, 1) := by decide +kernel
theorem dX9_init_514 : decode cX9_init 514 = .ok (.iconst 5, 1) := by decide +kernel
theorem dX9_init_515 : decode cX9_init 515 = .ok (.newarray .int, 2) := by decide +kernel
theorem dX9_init_517 : decode cX9_init 517 = .ok (.putfield 93, 3) := by decide +kernel
theorem dX9_init_520 : decode cX9_init 520 = .ok (.aload_n 0, 1) := by decide +kernel
theorem dX9_init_521 : decode cX9_init 521 = .ok (.iconst 5, 1) := by decide +kernel
theorem dX9_init_522 : decode cX9_init 522 = .ok (.newarray .int, 2) := by decide +kernel
theorem dX9_init_524 : decode cX9_init 524 = .ok (.putfield 96, 3) := by decide +kernel
theorem dX9_init_527 : decode cX9_init 527 = .ok (.aload_n 0, 1) := by decide +kernel
theorem dX9_init_528 : decode cX9_init 528 = .ok (.bipush 8, 2) := by decide +kernel
theorem dX9_init_530 : decode cX9_init 530 = .ok (.newarray .int, 2) := by decide +kernel
theorem dX9_init_532 : decode cX9_init 532 = .ok (.putfield 99, 3) := by decide +kernel
theorem dX9_init_535 : decode cX9_init 535 = .ok (.aload_n 0, 1) := by decide +kernel
theorem dX9_init_536 : decode cX9_init 536 = .ok (.bipush 8, 2) := by decide +kernel
theorem dX9_init_538 : decode cX9_init 538 = .ok (.newarray .int, 2) := by decide +kernel
theorem dX9_init_540 : decode cX9_init 540 = .ok (.putfield 102, 3) := by decide +kernel
theorem dX9_init_543 : decode cX9_init 543 = .ok (.aload_n 0, 1) := by decide +kernel
theorem dX9_init_544 : decode cX9_init 544 = .ok (.bipush 8, 2) := by decide +kernel
theorem dX9_init_546 : decode cX9_init 546 = .ok (.newarray .int, 2) := by decide +kernel
theorem dX9_init_548 : decode cX9_init 548 = .ok (.putfield 105, 3) := by decide +kernel
theorem dX9_init_551 : decode cX9_init 551 = .ok (.aload_n 0, 1) := by decide +kernel
theorem dX9_init_552 : decode cX9_init 552 = .ok (.bipush 8, 2) := by decide +kernel
theorem dX9_init_554 : decode cX9_init 554 = .ok (.newarray .int, 2) := by decide +kernel
theorem dX9_init_556 : decode cX9_init 556 = .ok (.putfield 108, 3) := by decide +kernel
theorem dX9_init_559 : decode cX9_init 559 = .ok (.aload_n 0, 1) := by decide +kernel
theorem dX9_init_560 : decode cX9_init 560 = .ok (.bipush 8, 2) := by decide +kernel
theorem dX9_init_562 : decode cX9_init 562 = .ok (.newarray .int, 2) := by decide +kernel
theorem dX9_init_564 : decode cX9_init 564 = .ok (.putfield 111, 3) := by decide +kernel
theorem dX9_init_567 : decode cX9_init 567 = .ok (.aload_n 0, 1) := by decide +kernel
theorem dX9_init_568 : decode cX9_init 568 = .ok (.bipush 20, 2) := by decide +kernel
theorem dX9_init_570 : decode cX9_init 570 = .ok (.newarray .int, 2) := by decide +kernel
theorem dX9_init_572 : decode cX9_init 572 = .ok (.putfield 114, 3) := by decide +kernel
theorem dX9_init_575 : decode cX9_init 575 = .ok (.return_, 1) := by decide +kernel
theorem dX9_no_0 : decode cX9_no 0 = .ok (.aload_n 0, 1) := by decide +kernel
theorem dX9_no_1 : decode cX9_no 1 = .ok (.getfield 28, 3) := by decide +kernel
theorem dX9_no_4 : decode cX9_no 4 = .ok (.iload_n 1, 1) := by decide +kernel
theorem dX9_no_5 : decode cX9_no 5 = .ok (.ineg, 1) := by decide +kernel
theorem dX9_no_6 : decode cX9_no 6 = .ok (.dup2, 1) := by decide +kernel
theorem dX9_no_7 : decode cX9_no 7 = .ok (.iaload, 1) := by decide +kernel
theorem dX9_no_8 : decode cX9_no 8 = .ok (.iconst 1, 1) := by decide +kernel
theorem dX9_no_9 : decode cX9_no 9 = .ok (.iadd, 1) := by decide +kernel
theorem dX9_no_10 : decode cX9_no 10 = .ok (.iastore, 1) := by decide +kernel
theorem dX9_no_11 : decode cX9_no 11 = .ok (.iload_n 1, 1) := by decide +kernel
theorem dX9_no_12 : decode cX9_no 12 = .ok (.ireturn, 1) := by decide +kernel
theorem dX9_noTen_0 : decode cX9_noTen 0 = .ok (.aload_n 0, 1) := by decide +kernel
theorem dX9_noTen_1 : decode cX9_noTen 1 = .ok (.getfield 28, 3) := by decide +kernel
theorem dX9_noTen_4 : decode cX9_noTen 4 = .ok (.iload_n 1, 1) := by decide +kernel
theorem dX9_noTen_5 : decode cX9_noTen 5 = .ok (.ineg, 1) := by decide +kernel
theorem dX9_noTen_6 : decode cX9_noTen 6 = .ok (.dup2, 1) := by decide +kernel
theorem dX9_noTen_7 : decode cX9_noTen 7 = .ok (.iaload, 1) := by decide +kernel
theorem dX9_noTen_8 : decode cX9_noTen 8 = .ok (.iconst 1, 1) := by decide +kernel
theorem dX9_noTen_9 : decode cX9_noTen 9 = .ok (.iadd, 1) := by decide +kernel
theorem dX9_noTen_10 : decode cX9_noTen 10 = .ok (.iastore, 1) := by decide +kernel
theorem dX9_noTen_11 : decode cX9_noTen 11 = .ok (.iload_n 1, 1) := by decide +kernel
theorem dX9_noTen_12 : decode cX9_noTen 12 = .ok (.bipush 10, 2) := by decide +kernel
theorem dX9_noTen_14 : decode cX9_noTen 14 = .ok (.isub, 1) := by decide +kernel
theorem dX9_noTen_15 : decode cX9_noTen 15 = .ok (.ireturn, 1) := by decide +kernel
theorem dX9_isShelf_0 : decode cX9_isShelf 0 = .ok (.iload_n 1, 1) := by decide +kernel
theorem dX9_isShelf_1 : decode cX9_isShelf 1 = .ok (.ifCond .lt 13, 3) := by decide +kernel
theorem dX9_isShelf_4 : decode cX9_isShelf 4 = .ok (.iload_n 1, 1) := by decide +kernel
theorem dX9_isShelf_5 : decode cX9_isShelf 5 = .ok (.bipush 8, 2) := by decide +kernel
theorem dX9_isShelf_7 : decode cX9_isShelf 7 = .ok (.if_icmp .ge 7, 3) := by decide +kernel
theorem dX9_isShelf_10 : decode cX9_isShelf 10 = .ok (.iconst 1, 1) := by decide +kernel
theorem dX9_isShelf_11 : decode cX9_isShelf 11 = .ok (.goto 4, 3) := by decide +kernel
theorem dX9_isShelf_14 : decode cX9_isShelf 14 = .ok (.iconst 0, 1) := by decide +kernel
theorem dX9_isShelf_15 : decode cX9_isShelf 15 = .ok (.ireturn, 1) := by decide +kernel
theorem dX9_isChild_0 : decode cX9_isChild 0 = .ok (.iload_n 1, 1) := by decide +kernel
theorem dX9_isChild_1 : decode cX9_isChild 1 = .ok (.ifCond .lt 15, 3) := by decide +kernel
theorem dX9_isChild_4 : decode cX9_isChild 4 = .ok (.iload_n 1, 1) := by decide +kernel
theorem dX9_isChild_5 : decode cX9_isChild 5 = .ok (.aload_n 0, 1) := by decide +kernel
theorem dX9_isChild_6 : decode cX9_isChild 6 = .ok (.getfield 117, 3) := by decide +kernel
theorem dX9_isChild_9 : decode cX9_isChild 9 = .ok (.if_icmp .ge 7, 3) := by decide +kernel
theorem dX9_isChild_12 : decode cX9_isChild 12 = .ok (.iconst 1, 1) := by decide +kernel
theorem dX9_isChild_13 : decode cX9_isChild 13 = .ok (.goto 4, 3) := by decide +kernel
theorem dX9_isChild_16 : decode cX9_isChild 16 = .ok (.iconst 0, 1) := by decide +kernel
theorem dX9_isChild_17 : decode cX9_isChild 17 = .ok (.ireturn, 1) := by decide +kernel
theorem dX9_isSack_0 : decode cX9_isSack 0 = .ok (.iload_n 1, 1) := by decide +kernel
theorem dX9_isSack_1 : decode cX9_isSack 1 = .ok (.ifCond .lt 15, 3) := by decide +kernel
theorem dX9_isSack_4 : decode cX9_isSack 4 = .ok (.iload_n 1, 1) := by decide +kernel
theorem dX9_isSack_5 : decode cX9_isSack 5 = .ok (.aload_n 0, 1) := by decide +kernel
theorem dX9_isSack_6 : decode cX9_isSack 6 = .ok (.getfield 120, 3) := by decide +kernel
theorem dX9_isSack_9 : decode cX9_isSack 9 = .ok (.if_icmp .ge 7, 3) := by decide +kernel
theorem dX9_isSack_12 : decode cX9_isSack 12 = .ok (.iconst 1, 1) := by decide +kernel
theorem dX9_isSack_13 : decode cX9_isSack 13 = .ok (.goto 4, 3) := by decide +kernel
theorem dX9_isSack_16 : decode cX9_isSack 16 = .ok (.iconst 0, 1) := by decide +kernel
theorem dX9_isSack_17 : decode cX9_isSack 17 = .ok (.ireturn, 1) := by decide +kernel
theorem dX9_abs_0 : decode cX9_abs 0 = .ok (.iload_n 1, 1) := by decide +kernel
theorem dX9_abs_1 : decode cX9_abs 1 = .ok (.ifCond .ge 8, 3) := by decide +kernel
theorem dX9_abs_4 : decode cX9_abs 4 = .ok (.iload_n 1, 1) := by decide +kernel
theorem dX9_abs_5 : decode cX9_abs 5 = .ok (.ineg, 1) := by decide +kernel
theorem dX9_abs_6 : decode cX9_abs 6 = .ok (.goto 4, 3) := by decide +kernel
theorem dX9_abs_9 : decode cX9_abs 9 = .ok (.iload_n 1, 1) := by decide +kernel
theorem dX9_abs_10 : decode cX9_abs 10 = .ok (.ireturn, 1) := by decide +kernel
theorem dX9_row_0 : decode cX9_row 0 = .ok (.aload_n 0, 1) := by decide +kernel
theorem dX9_row_1 : decode cX9_row 1 = .ok (.iload_n 1, 1) := by decide +kernel
theorem dX9_row_2 : decode cX9_row 2 = .ok (.invokevirtual 123, 3) := by decide +kernel
theorem dX9_row_5 : decode cX9_row 5 = .ok (.ifCond .ne 9, 3) := by decide +kernel
theorem dX9_row_8 : decode cX9_row 8 = .ok (.aload_n 0, 1) := by decide +kernel
theorem dX9_row_9 : decode cX9_row 9 = .ok (.iconst (-1), 1) := by decide +kernel
theorem dX9_row_10 : decode cX9_row 10 = .ok (.invokevirtual 127, 3) := by decide +kernel
theorem dX9_row_13 : decode cX9_row 13 = .ok (.ireturn, 1) := by decide +kernel
theorem dX9_row_14 : decode cX9_row 14 = .ok (.iload_n 3, 1) := by decide +kernel
theorem dX9_row_15 : decode cX9_row 15 = .ok (.ifCond .ge 10, 3) := by decide +kernel
theorem dX9_row_18 : decode cX9_row 18 = .ok (.aload_n 0, 1) := by decide +kernel
theorem dX9_row_19 : decode cX9_row 19 = .ok (.bipush (-4), 2) := by decide +kernel
theorem dX9_row_21 : decode cX9_row 21 = .ok (.invokevirtual 127, 3) := by decide +kernel
theorem dX9_row_24 : decode cX9_row 24 = .ok (.ireturn, 1) := by decide +kernel
theorem dX9_row_25 : decode cX9_row 25 = .ok (.iload_n 2, 1) := by decide +kernel
theorem dX9_row_26 : decode cX9_row 26 = .ok (.ifCond .lt 8, 3) := by decide +kernel
theorem dX9_row_29 : decode cX9_row 29 = .ok (.iload_n 2, 1) := by decide +kernel
theorem dX9_row_30 : decode cX9_row 30 = .ok (.iconst 3, 1) := by decide +kernel
theorem dX9_row_31 : decode cX9_row 31 = .ok (.if_icmp .le 10, 3) := by decide +kernel
theorem dX9_row_34 : decode cX9_row 34 = .ok (.aload_n 0, 1) := by decide +kernel
theorem dX9_row_35 : decode cX9_row 35 = .ok (.bipush (-6), 2) := by decide +kernel
theorem dX9_row_37 : decode cX9_row 37 = .ok (.invokevirtual 127, 3) := by decide +kernel
theorem dX9_row_40 : decode cX9_row 40 = .ok (.ireturn, 1) := by decide +kernel
theorem dX9_row_41 : decode cX9_row 41 = .ok (.iload_n 3, 1) := by decide +kernel
theorem dX9_row_42 : decode cX9_row 42 = .ok (.sipush 160, 3) := by decide +kernel
theorem dX9_row_45 : decode cX9_row 45 = .ok (.if_icmp .le 10, 3) := by decide +kernel
theorem dX9_row_48 : decode cX9_row 48 = .ok (.aload_n 0, 1) := by decide +kernel
theorem dX9_row_49 : decode cX9_row 49 = .ok (.bipush (-7), 2) := by decide +kernel
theorem dX9_row_51 : decode cX9_row 51 = .ok (.invokevirtual 127, 3) := by decide +kernel
theorem dX9_row_54 : decode cX9_row 54 = .ok (.ireturn, 1) := by decide +kernel
theorem dX9_row_55 : decode cX9_row 55 = .ok (.aload_n 0, 1) := by decide +kernel
theorem dX9_row_56 : decode cX9_row 56 = .ok (.getfield 56, 3) := by decide +kernel
theorem dX9_row_59 : decode cX9_row 59 = .ok (.iload_n 1, 1) := by decide +kernel
theorem dX9_row_60 : decode cX9_row 60 = .ok (.iconst 1, 1) := by decide +kernel
theorem dX9_row_61 : decode cX9_row 61 = .ok (.iastore, 1) := by decide +kernel
theorem dX9_row_62 : decode cX9_row 62 = .ok (.aload_n 0, 1) := by decide +kernel
theorem dX9_row_63 : decode cX9_row 63 = .ok (.getfield 59, 3) := by decide +kernel
theorem dX9_row_66 : decode cX9_row 66 = .ok (.iload_n 1, 1) := by decide +kernel
theorem dX9_row_67 : decode cX9_row 67 = .ok (.iload_n 2, 1) := by decide +kernel
theorem dX9_row_68 : decode cX9_row 68 = .ok (.iastore, 1) := by decide +kernel
theorem dX9_row_69 : decode cX9_row 69 = .ok (.aload_n 0, 1) := by decide +kernel
theorem dX9_row_70 : decode cX9_row 70 = .ok (.getfield 62, 3) := by decide +kernel
theorem dX9_row_73 : decode cX9_row 73 = .ok (.iload_n 1, 1) := by decide +kernel
theorem dX9_row_74 : decode cX9_row 74 = .ok (.iload_n 3, 1) := by decide +kernel
theorem dX9_row_75 : decode cX9_row 75 = .ok (.iastore, 1) := by decide +kernel
theorem dX9_row_76 : decode cX9_row 76 = .ok (.iconst 0, 1) := by decide +kernel
theorem dX9_row_77 : decode cX9_row 77 = .ok (.istore 4, 2) := by decide +kernel
theorem dX9_row_79 : decode cX9_row 79 = .ok (.iload 4, 2) := by decide +kernel
theorem dX9_row_81 : decode cX9_row 81 = .ok (.sipush 160, 3) := by decide +kernel
theorem dX9_row_84 : decode cX9_row 84 = .ok (.if_icmp .ge 23, 3) := by decide +kernel
theorem dX9_row_87 : decode cX9_row 87 = .ok (.aload_n 0, 1) := by decide +kernel
theorem dX9_row_88 : decode cX9_row 88 = .ok (.getfield 68, 3) := by decide +kernel
theorem dX9_row_91 : decode cX9_row 91 = .ok (.sipush 160, 3) := by decide +kernel
theorem dX9_row_94 : decode cX9_row 94 = .ok (.iload_n 1, 1) := by decide +kernel
theorem dX9_row_95 : decode cX9_row 95 = .ok (.imul, 1) := by decide +kernel
theorem dX9_row_96 : decode cX9_row 96 = .ok (.iload 4, 2) := by decide +kernel
theorem dX9_row_98 : decode cX9_row 98 = .ok (.iadd, 1) := by decide +kernel
theorem dX9_row_99 : decode cX9_row 99 = .ok (.lconst 0, 1) := by decide +kernel
theorem dX9_row_100 : decode cX9_row 100 = .ok (.lastore, 1) := by decide +kernel
theorem dX9_row_101 : decode cX9_row 101 = .ok (.iinc 4 1, 3) := by decide +kernel
theorem dX9_row_104 : decode cX9_row 104 = .ok (.goto (-25), 3) := by decide +kernel
theorem dX9_row_107 : decode cX9_row 107 = .ok (.iconst 1, 1) := by decide +kernel
theorem dX9_row_108 : decode cX9_row 108 = .ok (.ireturn, 1) := by decide +kernel
theorem dX9_set_0 : decode cX9_set 0 = .ok (.aload_n 0, 1) := by decide +kernel
theorem dX9_set_1 : decode cX9_set 1 = .ok (.iload_n 1, 1) := by decide +kernel
theorem dX9_set_2 : decode cX9_set 2 = .ok (.invokevirtual 123, 3) := by decide +kernel
theorem dX9_set_5 : decode cX9_set 5 = .ok (.ifCond .ne 9, 3) := by decide +kernel
theorem dX9_set_8 : decode cX9_set 8 = .ok (.aload_n 0, 1) := by decide +kernel
theorem dX9_set_9 : decode cX9_set 9 = .ok (.iconst (-1), 1) := by decide +kernel
theorem dX9_set_10 : decode cX9_set 10 = .ok (.invokevirtual 127, 3) := by decide +kernel
theorem dX9_set_13 : decode cX9_set 13 = .ok (.ireturn, 1) := by decide +kernel
theorem dX9_set_14 : decode cX9_set 14 = .ok (.aload_n 0, 1) := by decide +kernel
theorem dX9_set_15 : decode cX9_set 15 = .ok (.getfield 56, 3) := by decide +kernel
theorem dX9_set_18 : decode cX9_set 18 = .ok (.iload_n 1, 1) := by decide +kernel
theorem dX9_set_19 : decode cX9_set 19 = .ok (.iaload, 1) := by decide +kernel
theorem dX9_set_20 : decode cX9_set 20 = .ok (.iconst 2, 1) := by decide +kernel
theorem dX9_set_21 : decode cX9_set 21 = .ok (.if_icmp .ne 10, 3) := by decide +kernel
theorem dX9_set_24 : decode cX9_set 24 = .ok (.aload_n 0, 1) := by decide +kernel
theorem dX9_set_25 : decode cX9_set 25 = .ok (.bipush (-2), 2) := by decide +kernel
theorem dX9_set_27 : decode cX9_set 27 = .ok (.invokevirtual 127, 3) := by decide +kernel
theorem dX9_set_30 : decode cX9_set 30 = .ok (.ireturn, 1) := by decide +kernel
theorem dX9_set_31 : decode cX9_set 31 = .ok (.aload_n 0, 1) := by decide +kernel
theorem dX9_set_32 : decode cX9_set 32 = .ok (.getfield 56, 3) := by decide +kernel
theorem dX9_set_35 : decode cX9_set 35 = .ok (.iload_n 1, 1) := by decide +kernel
theorem dX9_set_36 : decode cX9_set 36 = .ok (.iaload, 1) := by decide +kernel
theorem dX9_set_37 : decode cX9_set 37 = .ok (.ifCond .ne 10, 3) := by decide +kernel
theorem dX9_set_40 : decode cX9_set 40 = .ok (.aload_n 0, 1) := by decide +kernel
theorem dX9_set_41 : decode cX9_set 41 = .ok (.bipush (-3), 2) := by decide +kernel
theorem dX9_set_43 : decode cX9_set 43 = .ok (.invokevirtual 127, 3) := by decide +kernel
theorem dX9_set_46 : decode cX9_set 46 = .ok (.ireturn, 1) := by decide +kernel
theorem dX9_set_47 : decode cX9_set 47 = .ok (.iload_n 2, 1) := by decide +kernel
theorem dX9_set_48 : decode cX9_set 48 = .ok (.ifCond .lt 13, 3) := by decide +kernel
theorem dX9_set_51 : decode cX9_set 51 = .ok (.iload_n 2, 1) := by decide +kernel
theorem dX9_set_52 : decode cX9_set 52 = .ok (.aload_n 0, 1) := by decide +kernel
theorem dX9_set_53 : decode cX9_set 53 = .ok (.getfield 62, 3) := by decide +kernel
theorem dX9_set_56 : decode cX9_set 56 = .ok (.iload_n 1, 1) := by decide +kernel
theorem dX9_set_57 : decode cX9_set 57 = .ok (.iaload, 1) := by decide +kernel
theorem dX9_set_58 : decode cX9_set 58 = .ok (.if_icmp .lt 10, 3) := by decide +kernel
theorem dX9_set_61 : decode cX9_set 61 = .ok (.aload_n 0, 1) := by decide +kernel
theorem dX9_set_62 : decode cX9_set 62 = .ok (.bipush (-5), 2) := by decide +kernel
theorem dX9_set_64 : decode cX9_set 64 = .ok (.invokevirtual 127, 3) := by decide +kernel
theorem dX9_set_67 : decode cX9_set 67 = .ok (.ireturn, 1) := by decide +kernel
theorem dX9_set_68 : decode cX9_set 68 = .ok (.aload_n 0, 1) := by decide +kernel
theorem dX9_set_69 : decode cX9_set 69 = .ok (.getfield 68, 3) := by decide +kernel
theorem dX9_set_72 : decode cX9_set 72 = .ok (.sipush 160, 3) := by decide +kernel
theorem dX9_set_75 : decode cX9_set 75 = .ok (.iload_n 1, 1) := by decide +kernel
theorem dX9_set_76 : decode cX9_set 76 = .ok (.imul, 1) := by decide +kernel
theorem dX9_set_77 : decode cX9_set 77 = .ok (.iload_n 2, 1) := by decide +kernel
theorem dX9_set_78 : decode cX9_set 78 = .ok (.iadd, 1) := by decide +kernel
theorem dX9_set_79 : decode cX9_set 79 = .ok (.aload_n 0, 1) := by decide +kernel
theorem dX9_set_80 : decode cX9_set 80 = .ok (.getfield 59, 3) := by decide +kernel
theorem dX9_set_83 : decode cX9_set 83 = .ok (.iload_n 1, 1) := by decide +kernel
theorem dX9_set_84 : decode cX9_set 84 = .ok (.iaload, 1) := by decide +kernel
theorem dX9_set_85 : decode cX9_set 85 = .ok (.ifCond .ne 10, 3) := by decide +kernel
theorem dX9_set_88 : decode cX9_set 88 = .ok (.lload_n 3, 1) := by decide +kernel
theorem dX9_set_89 : decode cX9_set 89 = .ok (.l2i, 1) := by decide +kernel
theorem dX9_set_90 : decode cX9_set 90 = .ok (.i2b, 1) := by decide +kernel
theorem dX9_set_91 : decode cX9_set 91 = .ok (.i2l, 1) := by decide +kernel
theorem dX9_set_92 : decode cX9_set 92 = .ok (.goto 37, 3) := by decide +kernel
theorem dX9_set_95 : decode cX9_set 95 = .ok (.aload_n 0, 1) := by decide +kernel
theorem dX9_set_96 : decode cX9_set 96 = .ok (.getfield 59, 3) := by decide +kernel
theorem dX9_set_99 : decode cX9_set 99 = .ok (.iload_n 1, 1) := by decide +kernel
theorem dX9_set_100 : decode cX9_set 100 = .ok (.iaload, 1) := by decide +kernel
theorem dX9_set_101 : decode cX9_set 101 = .ok (.iconst 1, 1) := by decide +kernel
theorem dX9_set_102 : decode cX9_set 102 = .ok (.if_icmp .ne 10, 3) := by decide +kernel
theorem dX9_set_105 : decode cX9_set 105 = .ok (.lload_n 3, 1) := by decide +kernel
theorem dX9_set_106 : decode cX9_set 106 = .ok (.l2i, 1) := by decide +kernel
theorem dX9_set_107 : decode cX9_set 107 = .ok (.i2s, 1) := by decide +kernel
theorem dX9_set_108 : decode cX9_set 108 = .ok (.i2l, 1) := by decide +kernel
theorem dX9_set_109 : decode cX9_set 109 = .ok (.goto 20, 3) := by decide +kernel
theorem dX9_set_112 : decode cX9_set 112 = .ok (.aload_n 0, 1) := by decide +kernel
theorem dX9_set_113 : decode cX9_set 113 = .ok (.getfield 59, 3) := by decide +kernel
theorem dX9_set_116 : decode cX9_set 116 = .ok (.iload_n 1, 1) := by decide +kernel
theorem dX9_set_117 : decode cX9_set 117 = .ok (.iaload, 1) := by decide +kernel
theorem dX9_set_118 : decode cX9_set 118 = .ok (.iconst 2, 1) := by decide +kernel
theorem dX9_set_119 : decode cX9_set 119 = .ok (.if_icmp .ne 9, 3) := by decide +kernel
theorem dX9_set_122 : decode cX9_set 122 = .ok (.lload_n 3, 1) := by decide +kernel
theorem dX9_set_123 : decode cX9_set 123 = .ok (.l2i, 1) := by decide +kernel
theorem dX9_set_124 : decode cX9_set 124 = .ok (.i2l, 1) := by decide +kernel
theorem dX9_set_125 : decode cX9_set 125 = .ok (.goto 4, 3) := by decide +kernel
theorem dX9_set_128 : decode cX9_set 128 = .ok (.lload_n 3, 1) := by decide +kernel
theorem dX9_set_129 : decode cX9_set 129 = .ok (.lastore, 1) := by decide +kernel
theorem dX9_set_130 : decode cX9_set 130 = .ok (.iconst 1, 1) := by decide +kernel
theorem dX9_set_131 : decode cX9_set 131 = .ok (.ireturn, 1) := by decide +kernel
theorem dX9_copy_0 : decode cX9_copy 0 = .ok (.aload_n 0, 1) := by decide +kernel
theorem dX9_copy_1 : decode cX9_copy 1 = .ok (.iload_n 1, 1) := by decide +kernel
theorem dX9_copy_2 : decode cX9_copy 2 = .ok (.invokevirtual 123, 3) := by decide +kernel
theorem dX9_copy_5 : decode cX9_copy 5 = .ok (.ifCond .eq 11, 3) := by decide +kernel
theorem dX9_copy_8 : decode cX9_copy 8 = .ok (.aload_n 0, 1) := by decide +kernel
theorem dX9_copy_9 : decode cX9_copy 9 = .ok (.iload_n 2, 1) := by decide +kernel
theorem dX9_copy_10 : decode cX9_copy 10 = .ok (.invokevirtual 123, 3) := by decide +kernel
theorem dX9_copy_13 : decode cX9_copy 13 = .ok (.ifCond .ne 9, 3) := by decide +kernel
theorem dX9_copy_16 : decode cX9_copy 16 = .ok (.aload_n 0, 1) := by decide +kernel
theorem dX9_copy_17 : decode cX9_copy 17 = .ok (.iconst (-1), 1) := by decide +kernel
theorem dX9_copy_18 : decode cX9_copy 18 = .ok (.invokevirtual 127, 3) := by decide +kernel
theorem dX9_copy_21 : decode cX9_copy 21 = .ok (.ireturn, 1) := by decide +kernel
theorem dX9_copy_22 : decode cX9_copy 22 = .ok (.aload_n 0, 1) := by decide +kernel
theorem dX9_copy_23 : decode cX9_copy 23 = .ok (.getfield 56, 3) := by decide +kernel
theorem dX9_copy_26 : decode cX9_copy 26 = .ok (.iload_n 1, 1) := by decide +kernel
theorem dX9_copy_27 : decode cX9_copy 27 = .ok (.iaload, 1) := by decide +kernel
theorem dX9_copy_28 : decode cX9_copy 28 = .ok (.iconst 2, 1) := by decide +kernel
theorem dX9_copy_29 : decode cX9_copy 29 = .ok (.if_icmp .eq 48, 3) := by decide +kernel
theorem dX9_copy_32 : decode cX9_copy 32 = .ok (.aload_n 0, 1) := by decide +kernel
theorem dX9_copy_33 : decode cX9_copy 33 = .ok (.getfield 56, 3) := by decide +kernel
theorem dX9_copy_36 : decode cX9_copy 36 = .ok (.iload_n 2, 1) := by decide +kernel
theorem dX9_copy_37 : decode cX9_copy 37 = .ok (.iaload, 1) := by decide +kernel
theorem dX9_copy_38 : decode cX9_copy 38 = .ok (.iconst 2, 1) := by decide +kernel
theorem dX9_copy_39 : decode cX9_copy 39 = .ok (.if_icmp .eq 38, 3) := by decide +kernel
theorem dX9_copy_42 : decode cX9_copy 42 = .ok (.aload_n 0, 1) := by decide +kernel
theorem dX9_copy_43 : decode cX9_copy 43 = .ok (.getfield 56, 3) := by decide +kernel
theorem dX9_copy_46 : decode cX9_copy 46 = .ok (.iload_n 1, 1) := by decide +kernel
theorem dX9_copy_47 : decode cX9_copy 47 = .ok (.iaload, 1) := by decide +kernel
theorem dX9_copy_48 : decode cX9_copy 48 = .ok (.iconst 1, 1) := by decide +kernel
theorem dX9_copy_49 : decode cX9_copy 49 = .ok (.if_icmp .ne 35, 3) := by decide +kernel
theorem dX9_copy_52 : decode cX9_copy 52 = .ok (.aload_n 0, 1) := by decide +kernel
theorem dX9_copy_53 : decode cX9_copy 53 = .ok (.getfield 56, 3) := by decide +kernel
theorem dX9_copy_56 : decode cX9_copy 56 = .ok (.iload_n 2, 1) := by decide +kernel
theorem dX9_copy_57 : decode cX9_copy 57 = .ok (.iaload, 1) := by decide +kernel
theorem dX9_copy_58 : decode cX9_copy 58 = .ok (.iconst 1, 1) := by decide +kernel
theorem dX9_copy_59 : decode cX9_copy 59 = .ok (.if_icmp .ne 25, 3) := by decide +kernel
theorem dX9_copy_62 : decode cX9_copy 62 = .ok (.aload_n 0, 1) := by decide +kernel
theorem dX9_copy_63 : decode cX9_copy 63 = .ok (.getfield 59, 3) := by decide +kernel
theorem dX9_copy_66 : decode cX9_copy 66 = .ok (.iload_n 1, 1) := by decide +kernel
theorem dX9_copy_67 : decode cX9_copy 67 = .ok (.iaload, 1) := by decide +kernel
theorem dX9_copy_68 : decode cX9_copy 68 = .ok (.aload_n 0, 1) := by decide +kernel
theorem dX9_copy_69 : decode cX9_copy 69 = .ok (.getfield 59, 3) := by decide +kernel
theorem dX9_copy_72 : decode cX9_copy 72 = .ok (.iload_n 2, 1) := by decide +kernel
theorem dX9_copy_73 : decode cX9_copy 73 = .ok (.iaload, 1) := by decide +kernel
theorem dX9_copy_74 : decode cX9_copy 74 = .ok (.if_icmp .eq 10, 3) := by decide +kernel
theorem dX9_copy_77 : decode cX9_copy 77 = .ok (.aload_n 0, 1) := by decide +kernel
theorem dX9_copy_78 : decode cX9_copy 78 = .ok (.bipush (-2), 2) := by decide +kernel
theorem dX9_copy_80 : decode cX9_copy 80 = .ok (.invokevirtual 127, 3) := by decide +kernel
theorem dX9_copy_83 : decode cX9_copy 83 = .ok (.ireturn, 1) := by decide +kernel
theorem dX9_copy_84 : decode cX9_copy 84 = .ok (.aload_n 0, 1) := by decide +kernel
theorem dX9_copy_85 : decode cX9_copy 85 = .ok (.getfield 56, 3) := by decide +kernel
theorem dX9_copy_88 : decode cX9_copy 88 = .ok (.iload_n 1, 1) := by decide +kernel
theorem dX9_copy_89 : decode cX9_copy 89 = .ok (.iaload, 1) := by decide +kernel
theorem dX9_copy_90 : decode cX9_copy 90 = .ok (.ifCond .eq 12, 3) := by decide +kernel
theorem dX9_copy_93 : decode cX9_copy 93 = .ok (.aload_n 0, 1) := by decide +kernel
theorem dX9_copy_94 : decode cX9_copy 94 = .ok (.getfield 56, 3) := by decide +kernel
theorem dX9_copy_97 : decode cX9_copy 97 = .ok (.iload_n 2, 1) := by decide +kernel
theorem dX9_copy_98 : decode cX9_copy 98 = .ok (.iaload, 1) := by decide +kernel
theorem dX9_copy_99 : decode cX9_copy 99 = .ok (.ifCond .ne 10, 3) := by decide +kernel
theorem dX9_copy_102 : decode cX9_copy 102 = .ok (.aload_n 0, 1) := by decide +kernel
theorem dX9_copy_103 : decode cX9_copy 103 = .ok (.bipush (-3), 2) := by decide +kernel
theorem dX9_copy_105 : decode cX9_copy 105 = .ok (.invokevirtual 127, 3) := by decide +kernel
theorem dX9_copy_108 : decode cX9_copy 108 = .ok (.ireturn, 1) := by decide +kernel
theorem dX9_copy_109 : decode cX9_copy 109 = .ok (.iload 5, 2) := by decide +kernel
theorem dX9_copy_111 : decode cX9_copy 111 = .ok (.ifCond .ge 10, 3) := by decide +kernel
theorem dX9_copy_114 : decode cX9_copy 114 = .ok (.aload_n 0, 1) := by decide +kernel
theorem dX9_copy_115 : decode cX9_copy 115 = .ok (.bipush (-4), 2) := by decide +kernel
theorem dX9_copy_117 : decode cX9_copy 117 = .ok (.invokevirtual 127, 3) := by decide +kernel
theorem dX9_copy_120 : decode cX9_copy 120 = .ok (.ireturn, 1) := by decide +kernel
theorem dX9_copy_121 : decode cX9_copy 121 = .ok (.iload_n 3, 1) := by decide +kernel
theorem dX9_copy_122 : decode cX9_copy 122 = .ok (.ifCond .lt 35, 3) := by decide +kernel
theorem dX9_copy_125 : decode cX9_copy 125 = .ok (.iload 4, 2) := by decide +kernel
theorem dX9_copy_127 : decode cX9_copy 127 = .ok (.ifCond .lt 30, 3) := by decide +kernel
theorem dX9_copy_130 : decode cX9_copy 130 = .ok (.iload_n 3, 1) := by decide +kernel
theorem dX9_copy_131 : decode cX9_copy 131 = .ok (.aload_n 0, 1) := by decide +kernel
theorem dX9_copy_132 : decode cX9_copy 132 = .ok (.getfield 62, 3) := by decide +kernel
theorem dX9_copy_135 : decode cX9_copy 135 = .ok (.iload_n 1, 1) := by decide +kernel
theorem dX9_copy_136 : decode cX9_copy 136 = .ok (.iaload, 1) := by decide +kernel
theorem dX9_copy_137 : decode cX9_copy 137 = .ok (.iload 5, 2) := by decide +kernel
theorem dX9_copy_139 : decode cX9_copy 139 = .ok (.isub, 1) := by decide +kernel
theorem dX9_copy_140 : decode cX9_copy 140 = .ok (.if_icmp .gt 17, 3) := by decide +kernel
theorem dX9_copy_143 : decode cX9_copy 143 = .ok (.iload 4, 2) := by decide +kernel
theorem dX9_copy_145 : decode cX9_copy 145 = .ok (.aload_n 0, 1) := by decide +kernel
theorem dX9_copy_146 : decode cX9_copy 146 = .ok (.getfield 62, 3) := by decide +kernel
theorem dX9_copy_149 : decode cX9_copy 149 = .ok (.iload_n 2, 1) := by decide +kernel
theorem dX9_copy_150 : decode cX9_copy 150 = .ok (.iaload, 1) := by decide +kernel
theorem dX9_copy_151 : decode cX9_copy 151 = .ok (.iload 5, 2) := by decide +kernel
theorem dX9_copy_153 : decode cX9_copy 153 = .ok (.isub, 1) := by decide +kernel
theorem dX9_copy_154 : decode cX9_copy 154 = .ok (.if_icmp .le 10, 3) := by decide +kernel
theorem dX9_copy_157 : decode cX9_copy 157 = .ok (.aload_n 0, 1) := by decide +kernel
theorem dX9_copy_158 : decode cX9_copy 158 = .ok (.bipush (-5), 2) := by decide +kernel
theorem dX9_copy_160 : decode cX9_copy 160 = .ok (.invokevirtual 127, 3) := by decide +kernel
theorem dX9_copy_163 : decode cX9_copy 163 = .ok (.ireturn, 1) := by decide +kernel
theorem dX9_copy_164 : decode cX9_copy 164 = .ok (.iconst 0, 1) := by decide +kernel
theorem dX9_copy_165 : decode cX9_copy 165 = .ok (.istore 6, 2) := by decide +kernel
theorem dX9_copy_167 : decode cX9_copy 167 = .ok (.iload 6, 2) := by decide +kernel
theorem dX9_copy_169 : decode cX9_copy 169 = .ok (.iload 5, 2) := by decide +kernel
theorem dX9_copy_171 : decode cX9_copy 171 = .ok (.if_icmp .ge 31, 3) := by decide +kernel
theorem dX9_copy_174 : decode cX9_copy 174 = .ok (.aload_n 0, 1) := by decide +kernel
theorem dX9_copy_175 : decode cX9_copy 175 = .ok (.getfield 72, 3) := by decide +kernel
theorem dX9_copy_178 : decode cX9_copy 178 = .ok (.iload 6, 2) := by decide +kernel
theorem dX9_copy_180 : decode cX9_copy 180 = .ok (.aload_n 0, 1) := by decide +kernel
theorem dX9_copy_181 : decode cX9_copy 181 = .ok (.getfield 68, 3) := by decide +kernel
theorem dX9_copy_184 : decode cX9_copy 184 = .ok (.sipush 160, 3) := by decide +kernel
theorem dX9_copy_187 : decode cX9_copy 187 = .ok (.iload_n 1, 1) := by decide +kernel
theorem dX9_copy_188 : decode cX9_copy 188 = .ok (.imul, 1) := by decide +kernel
theorem dX9_copy_189 : decode cX9_copy 189 = .ok (.iload_n 3, 1) := by decide +kernel
theorem dX9_copy_190 : decode cX9_copy 190 = .ok (.iadd, 1) := by decide +kernel
theorem dX9_copy_191 : decode cX9_copy 191 = .ok (.iload 6, 2) := by decide +kernel
theorem dX9_copy_193 : decode cX9_copy 193 = .ok (.iadd, 1) := by decide +kernel
theorem dX9_copy_194 : decode cX9_copy 194 = .ok (.laload, 1) := by decide +kernel
theorem dX9_copy_195 : decode cX9_copy 195 = .ok (.lastore, 1) := by decide +kernel
theorem dX9_copy_196 : decode cX9_copy 196 = .ok (.iinc 6 1, 3) := by decide +kernel
theorem dX9_copy_199 : decode cX9_copy 199 = .ok (.goto (-32), 3) := by decide +kernel
theorem dX9_copy_202 : decode cX9_copy 202 = .ok (.iconst 0, 1) := by decide +kernel
theorem dX9_copy_203 : decode cX9_copy 203 = .ok (.istore 6, 2) := by decide +kernel
theorem dX9_copy_205 : decode cX9_copy 205 = .ok (.iload 6, 2) := by decide +kernel
theorem dX9_copy_207 : decode cX9_copy 207 = .ok (.iload 5, 2) := by decide +kernel
theorem dX9_copy_209 : decode cX9_copy 209 = .ok (.if_icmp .ge 32, 3) := by decide +kernel
theorem dX9_copy_212 : decode cX9_copy 212 = .ok (.aload_n 0, 1) := by decide +kernel
theorem dX9_copy_213 : decode cX9_copy 213 = .ok (.getfield 68, 3) := by decide +kernel
theorem dX9_copy_216 : decode cX9_copy 216 = .ok (.sipush 160, 3) := by decide +kernel
theorem dX9_copy_219 : decode cX9_copy 219 = .ok (.iload_n 2, 1) := by decide +kernel
theorem dX9_copy_220 : decode cX9_copy 220 = .ok (.imul, 1) := by decide +kernel
theorem dX9_copy_221 : decode cX9_copy 221 = .ok (.iload 4, 2) := by decide +kernel
theorem dX9_copy_223 : decode cX9_copy 223 = .ok (.iadd, 1) := by decide +kernel
theorem dX9_copy_224 : decode cX9_copy 224 = .ok (.iload 6, 2) := by decide +kernel
theorem dX9_copy_226 : decode cX9_copy 226 = .ok (.iadd, 1) := by decide +kernel
theorem dX9_copy_227 : decode cX9_copy 227 = .ok (.aload_n 0, 1) := by decide +kernel
theorem dX9_copy_228 : decode cX9_copy 228 = .ok (.getfield 72, 3) := by decide +kernel
theorem dX9_copy_231 : decode cX9_copy 231 = .ok (.iload 6, 2) := by decide +kernel
theorem dX9_copy_233 : decode cX9_copy 233 = .ok (.laload, 1) := by decide +kernel
theorem dX9_copy_234 : decode cX9_copy 234 = .ok (.lastore, 1) := by decide +kernel
theorem dX9_copy_235 : decode cX9_copy 235 = .ok (.iinc 6 1, 3) := by decide +kernel
theorem dX9_copy_238 : decode cX9_copy 238 = .ok (.goto (-33), 3) := by decide +kernel
theorem dX9_copy_241 : decode cX9_copy 241 = .ok (.iconst 1, 1) := by decide +kernel
theorem dX9_copy_242 : decode cX9_copy 242 = .ok (.ireturn, 1) := by decide +kernel
theorem dX9_element_0 : decode cX9_element 0 = .ok (.aload_n 0, 1) := by decide +kernel
theorem dX9_element_1 : decode cX9_element 1 = .ok (.iload_n 1, 1) := by decide +kernel
theorem dX9_element_2 : decode cX9_element 2 = .ok (.invokevirtual 123, 3) := by decide +kernel
theorem dX9_element_5 : decode cX9_element 5 = .ok (.ifCond .eq 42, 3) := by decide +kernel
theorem dX9_element_8 : decode cX9_element 8 = .ok (.aload_n 0, 1) := by decide +kernel
theorem dX9_element_9 : decode cX9_element 9 = .ok (.getfield 56, 3) := by decide +kernel
theorem dX9_element_12 : decode cX9_element 12 = .ok (.iload_n 1, 1) := by decide +kernel
theorem dX9_element_13 : decode cX9_element 13 = .ok (.iaload, 1) := by decide +kernel
theorem dX9_element_14 : decode cX9_element 14 = .ok (.iconst 1, 1) := by decide +kernel
theorem dX9_element_15 : decode cX9_element 15 = .ok (.if_icmp .ne 32, 3) := by decide +kernel
theorem dX9_element_18 : decode cX9_element 18 = .ok (.iload_n 2, 1) := by decide +kernel
theorem dX9_element_19 : decode cX9_element 19 = .ok (.ifCond .lt 28, 3) := by decide +kernel
theorem dX9_element_22 : decode cX9_element 22 = .ok (.iload_n 2, 1) := by decide +kernel
theorem dX9_element_23 : decode cX9_element 23 = .ok (.aload_n 0, 1) := by decide +kernel
theorem dX9_element_24 : decode cX9_element 24 = .ok (.getfield 62, 3) := by decide +kernel
theorem dX9_element_27 : decode cX9_element 27 = .ok (.iload_n 1, 1) := by decide +kernel
theorem dX9_element_28 : decode cX9_element 28 = .ok (.iaload, 1) := by decide +kernel
theorem dX9_element_29 : decode cX9_element 29 = .ok (.if_icmp .ge 18, 3) := by decide +kernel
theorem dX9_element_32 : decode cX9_element 32 = .ok (.aload_n 0, 1) := by decide +kernel
theorem dX9_element_33 : decode cX9_element 33 = .ok (.getfield 68, 3) := by decide +kernel
theorem dX9_element_36 : decode cX9_element 36 = .ok (.sipush 160, 3) := by decide +kernel
theorem dX9_element_39 : decode cX9_element 39 = .ok (.iload_n 1, 1) := by decide +kernel
theorem dX9_element_40 : decode cX9_element 40 = .ok (.imul, 1) := by decide +kernel
theorem dX9_element_41 : decode cX9_element 41 = .ok (.iload_n 2, 1) := by decide +kernel
theorem dX9_element_42 : decode cX9_element 42 = .ok (.iadd, 1) := by decide +kernel
theorem dX9_element_43 : decode cX9_element 43 = .ok (.laload, 1) := by decide +kernel
theorem dX9_element_44 : decode cX9_element 44 = .ok (.goto 4, 3) := by decide +kernel
theorem dX9_element_47 : decode cX9_element 47 = .ok (.lconst 0, 1) := by decide +kernel
theorem dX9_element_48 : decode cX9_element 48 = .ok (.lreturn, 1) := by decide +kernel
theorem dX9_show_0 : decode cX9_show 0 = .ok (.aload_n 0, 1) := by decide +kernel
theorem dX9_show_1 : decode cX9_show 1 = .ok (.iload_n 1, 1) := by decide +kernel
theorem dX9_show_2 : decode cX9_show 2 = .ok (.invokevirtual 123, 3) := by decide +kernel
theorem dX9_show_5 : decode cX9_show 5 = .ok (.ifCond .eq 16, 3) := by decide +kernel
theorem dX9_show_8 : decode cX9_show 8 = .ok (.iload_n 2, 1) := by decide +kernel
theorem dX9_show_9 : decode cX9_show 9 = .ok (.iconst (-1), 1) := by decide +kernel
theorem dX9_show_10 : decode cX9_show 10 = .ok (.if_icmp .eq 17, 3) := by decide +kernel
theorem dX9_show_13 : decode cX9_show 13 = .ok (.aload_n 0, 1) := by decide +kernel
theorem dX9_show_14 : decode cX9_show 14 = .ok (.iload_n 2, 1) := by decide +kernel
theorem dX9_show_15 : decode cX9_show 15 = .ok (.invokevirtual 131, 3) := by decide +kernel
theorem dX9_show_18 : decode cX9_show 18 = .ok (.ifCond .ne 9, 3) := by decide +kernel
theorem dX9_show_21 : decode cX9_show 21 = .ok (.aload_n 0, 1) := by decide +kernel
theorem dX9_show_22 : decode cX9_show 22 = .ok (.iconst (-1), 1) := by decide +kernel
theorem dX9_show_23 : decode cX9_show 23 = .ok (.invokevirtual 127, 3) := by decide +kernel
theorem dX9_show_26 : decode cX9_show 26 = .ok (.ireturn, 1) := by decide +kernel
theorem dX9_show_27 : decode cX9_show 27 = .ok (.aload_n 0, 1) := by decide +kernel
theorem dX9_show_28 : decode cX9_show 28 = .ok (.getfield 56, 3) := by decide +kernel
theorem dX9_show_31 : decode cX9_show 31 = .ok (.iload_n 1, 1) := by decide +kernel
theorem dX9_show_32 : decode cX9_show 32 = .ok (.iload_n 2, 1) := by decide +kernel
theorem dX9_show_33 : decode cX9_show 33 = .ok (.iconst (-1), 1) := by decide +kernel
theorem dX9_show_34 : decode cX9_show 34 = .ok (.if_icmp .ne 7, 3) := by decide +kernel
theorem dX9_show_37 : decode cX9_show 37 = .ok (.iconst 0, 1) := by decide +kernel
theorem dX9_show_38 : decode cX9_show 38 = .ok (.goto 4, 3) := by decide +kernel
theorem dX9_show_41 : decode cX9_show 41 = .ok (.iconst 2, 1) := by decide +kernel
theorem dX9_show_42 : decode cX9_show 42 = .ok (.iastore, 1) := by decide +kernel
theorem dX9_show_43 : decode cX9_show 43 = .ok (.aload_n 0, 1) := by decide +kernel
theorem dX9_show_44 : decode cX9_show 44 = .ok (.getfield 65, 3) := by decide +kernel
theorem dX9_show_47 : decode cX9_show 47 = .ok (.iload_n 1, 1) := by decide +kernel
theorem dX9_show_48 : decode cX9_show 48 = .ok (.iload_n 2, 1) := by decide +kernel
theorem dX9_show_49 : decode cX9_show 49 = .ok (.iastore, 1) := by decide +kernel
theorem dX9_show_50 : decode cX9_show 50 = .ok (.iload_n 2, 1) := by decide +kernel
theorem dX9_show_51 : decode cX9_show 51 = .ok (.iconst (-1), 1) := by decide +kernel
theorem dX9_show_52 : decode cX9_show 52 = .ok (.if_icmp .ne 7, 3) := by decide +kernel
theorem dX9_show_55 : decode cX9_show 55 = .ok (.iconst 0, 1) := by decide +kernel
theorem dX9_show_56 : decode cX9_show 56 = .ok (.goto 4, 3) := by decide +kernel
theorem dX9_show_59 : decode cX9_show 59 = .ok (.iconst 1, 1) := by decide +kernel
theorem dX9_show_60 : decode cX9_show 60 = .ok (.ireturn, 1) := by decide +kernel
theorem dX9_holds_0 : decode cX9_holds 0 = .ok (.aload_n 0, 1) := by decide +kernel
theorem dX9_holds_1 : decode cX9_holds 1 = .ok (.iload_n 1, 1) := by decide +kernel
theorem dX9_holds_2 : decode cX9_holds 2 = .ok (.invokevirtual 123, 3) := by decide +kernel
theorem dX9_holds_5 : decode cX9_holds 5 = .ok (.ifCond .eq 12, 3) := by decide +kernel
theorem dX9_holds_8 : decode cX9_holds 8 = .ok (.aload_n 0, 1) := by decide +kernel
theorem dX9_holds_9 : decode cX9_holds 9 = .ok (.getfield 56, 3) := by decide +kernel
theorem dX9_holds_12 : decode cX9_holds 12 = .ok (.iload_n 1, 1) := by decide +kernel
theorem dX9_holds_13 : decode cX9_holds 13 = .ok (.iaload, 1) := by decide +kernel
theorem dX9_holds_14 : decode cX9_holds 14 = .ok (.ifCond .ne 5, 3) := by decide +kernel
theorem dX9_holds_17 : decode cX9_holds 17 = .ok (.iconst (-1), 1) := by decide +kernel
theorem dX9_holds_18 : decode cX9_holds 18 = .ok (.ireturn, 1) := by decide +kernel
theorem dX9_holds_19 : decode cX9_holds 19 = .ok (.aload_n 0, 1) := by decide +kernel
theorem dX9_holds_20 : decode cX9_holds 20 = .ok (.getfield 56, 3) := by decide +kernel
theorem dX9_holds_23 : decode cX9_holds 23 = .ok (.iload_n 1, 1) := by decide +kernel
theorem dX9_holds_24 : decode cX9_holds 24 = .ok (.iaload, 1) := by decide +kernel
theorem dX9_holds_25 : decode cX9_holds 25 = .ok (.iconst 1, 1) := by decide +kernel
theorem dX9_holds_26 : decode cX9_holds 26 = .ok (.if_icmp .ne 15, 3) := by decide +kernel
theorem dX9_holds_29 : decode cX9_holds 29 = .ok (.bipush 100, 2) := by decide +kernel
theorem dX9_holds_31 : decode cX9_holds 31 = .ok (.aload_n 0, 1) := by decide +kernel
theorem dX9_holds_32 : decode cX9_holds 32 = .ok (.getfield 59, 3) := by decide +kernel
theorem dX9_holds_35 : decode cX9_holds 35 = .ok (.iload_n 1, 1) := by decide +kernel
theorem dX9_holds_36 : decode cX9_holds 36 = .ok (.iaload, 1) := by decide +kernel
theorem dX9_holds_37 : decode cX9_holds 37 = .ok (.iadd, 1) := by decide +kernel
theorem dX9_holds_38 : decode cX9_holds 38 = .ok (.goto 9, 3) := by decide +kernel
theorem dX9_holds_41 : decode cX9_holds 41 = .ok (.aload_n 0, 1) := by decide +kernel
theorem dX9_holds_42 : decode cX9_holds 42 = .ok (.getfield 65, 3) := by decide +kernel
theorem dX9_holds_45 : decode cX9_holds 45 = .ok (.iload_n 1, 1) := by decide +kernel
theorem dX9_holds_46 : decode cX9_holds 46 = .ok (.iaload, 1) := by decide +kernel
theorem dX9_holds_47 : decode cX9_holds 47 = .ok (.ireturn, 1) := by decide +kernel
theorem dX9_says_0 : decode cX9_says 0 = .ok (.aload_n 0, 1) := by decide +kernel
theorem dX9_says_1 : decode cX9_says 1 = .ok (.iload_n 1, 1) := by decide +kernel
theorem dX9_says_2 : decode cX9_says 2 = .ok (.invokevirtual 123, 3) := by decide +kernel
theorem dX9_says_5 : decode cX9_says 5 = .ok (.ifCond .eq 13, 3) := by decide +kernel
theorem dX9_says_8 : decode cX9_says 8 = .ok (.iload_n 2, 1) := by decide +kernel
theorem dX9_says_9 : decode cX9_says 9 = .ok (.ifCond .lt 9, 3) := by decide +kernel
theorem dX9_says_12 : decode cX9_says 12 = .ok (.iload_n 2, 1) := by decide +kernel
theorem dX9_says_13 : decode cX9_says 13 = .ok (.bipush 6, 2) := by decide +kernel
theorem dX9_says_15 : decode cX9_says 15 = .ok (.if_icmp .le 9, 3) := by decide +kernel
theorem dX9_says_18 : decode cX9_says 18 = .ok (.aload_n 0, 1) := by decide +kernel
theorem dX9_says_19 : decode cX9_says 19 = .ok (.iconst (-1), 1) := by decide +kernel
theorem dX9_says_20 : decode cX9_says 20 = .ok (.invokevirtual 127, 3) := by decide +kernel
theorem dX9_says_23 : decode cX9_says 23 = .ok (.ireturn, 1) := by decide +kernel
theorem dX9_says_24 : decode cX9_says 24 = .ok (.aload_n 0, 1) := by decide +kernel
theorem dX9_says_25 : decode cX9_says 25 = .ok (.getfield 56, 3) := by decide +kernel
theorem dX9_says_28 : decode cX9_says 28 = .ok (.iload_n 1, 1) := by decide +kernel
theorem dX9_says_29 : decode cX9_says 29 = .ok (.iaload, 1) := by decide +kernel
theorem dX9_says_30 : decode cX9_says 30 = .ok (.iconst 1, 1) := by decide +kernel
theorem dX9_says_31 : decode cX9_says 31 = .ok (.if_icmp .ne 10, 3) := by decide +kernel
theorem dX9_says_34 : decode cX9_says 34 = .ok (.aload_n 0, 1) := by decide +kernel
theorem dX9_says_35 : decode cX9_says 35 = .ok (.bipush (-2), 2) := by decide +kernel
theorem dX9_says_37 : decode cX9_says 37 = .ok (.invokevirtual 127, 3) := by decide +kernel
theorem dX9_says_40 : decode cX9_says 40 = .ok (.ireturn, 1) := by decide +kernel
theorem dX9_says_41 : decode cX9_says 41 = .ok (.aload_n 0, 1) := by decide +kernel
theorem dX9_says_42 : decode cX9_says 42 = .ok (.getfield 56, 3) := by decide +kernel
theorem dX9_says_45 : decode cX9_says 45 = .ok (.iload_n 1, 1) := by decide +kernel
theorem dX9_says_46 : decode cX9_says 46 = .ok (.iaload, 1) := by decide +kernel
theorem dX9_says_47 : decode cX9_says 47 = .ok (.ifCond .ne 10, 3) := by decide +kernel
theorem dX9_says_50 : decode cX9_says 50 = .ok (.aload_n 0, 1) := by decide +kernel
theorem dX9_says_51 : decode cX9_says 51 = .ok (.bipush (-3), 2) := by decide +kernel
theorem dX9_says_53 : decode cX9_says 53 = .ok (.invokevirtual 127, 3) := by decide +kernel
theorem dX9_says_56 : decode cX9_says 56 = .ok (.ireturn, 1) := by decide +kernel
theorem dX9_says_57 : decode cX9_says 57 = .ok (.aload_n 0, 1) := by decide +kernel
theorem dX9_says_58 : decode cX9_says 58 = .ok (.getfield 65, 3) := by decide +kernel
theorem dX9_says_61 : decode cX9_says 61 = .ok (.iload_n 1, 1) := by decide +kernel
theorem dX9_says_62 : decode cX9_says 62 = .ok (.iaload, 1) := by decide +kernel
theorem dX9_says_63 : decode cX9_says 63 = .ok (.istore_n 3, 1) := by decide +kernel
theorem dX9_says_64 : decode cX9_says 64 = .ok (.aload_n 0, 1) := by decide +kernel
theorem dX9_says_65 : decode cX9_says 65 = .ok (.getfield 32, 3) := by decide +kernel
theorem dX9_says_68 : decode cX9_says 68 = .ok (.iload_n 3, 1) := by decide +kernel
theorem dX9_says_69 : decode cX9_says 69 = .ok (.iaload, 1) := by decide +kernel
theorem dX9_says_70 : decode cX9_says 70 = .ok (.istore 4, 2) := by decide +kernel
theorem dX9_says_72 : decode cX9_says 72 = .ok (.iload_n 2, 1) := by decide +kernel
theorem dX9_says_73 : decode cX9_says 73 = .ok (.iconst 1, 1) := by decide +kernel
theorem dX9_says_74 : decode cX9_says 74 = .ok (.if_icmp .ne 9, 3) := by decide +kernel
theorem dX9_says_77 : decode cX9_says 77 = .ok (.iload 4, 2) := by decide +kernel
theorem dX9_says_79 : decode cX9_says 79 = .ok (.iconst 3, 1) := by decide +kernel
theorem dX9_says_80 : decode cX9_says 80 = .ok (.if_icmp .eq 26, 3) := by decide +kernel
theorem dX9_says_83 : decode cX9_says 83 = .ok (.iload_n 2, 1) := by decide +kernel
theorem dX9_says_84 : decode cX9_says 84 = .ok (.iconst 2, 1) := by decide +kernel
theorem dX9_says_85 : decode cX9_says 85 = .ok (.if_icmp .ne 9, 3) := by decide +kernel
theorem dX9_says_88 : decode cX9_says 88 = .ok (.iload 4, 2) := by decide +kernel
theorem dX9_says_90 : decode cX9_says 90 = .ok (.iconst 5, 1) := by decide +kernel
theorem dX9_says_91 : decode cX9_says 91 = .ok (.if_icmp .eq 15, 3) := by decide +kernel
theorem dX9_says_94 : decode cX9_says 94 = .ok (.iload_n 2, 1) := by decide +kernel
theorem dX9_says_95 : decode cX9_says 95 = .ok (.iconst 4, 1) := by decide +kernel
theorem dX9_says_96 : decode cX9_says 96 = .ok (.if_icmp .ne 14, 3) := by decide +kernel
theorem dX9_says_99 : decode cX9_says 99 = .ok (.iload 4, 2) := by decide +kernel
theorem dX9_says_101 : decode cX9_says 101 = .ok (.bipush 6, 2) := by decide +kernel
theorem dX9_says_103 : decode cX9_says 103 = .ok (.if_icmp .ne 7, 3) := by decide +kernel
theorem dX9_says_106 : decode cX9_says 106 = .ok (.iconst 1, 1) := by decide +kernel
theorem dX9_says_107 : decode cX9_says 107 = .ok (.goto 4, 3) := by decide +kernel
theorem dX9_says_110 : decode cX9_says 110 = .ok (.iconst 0, 1) := by decide +kernel
theorem dX9_says_111 : decode cX9_says 111 = .ok (.istore 5, 2) := by decide +kernel
theorem dX9_says_113 : decode cX9_says 113 = .ok (.iload_n 2, 1) := by decide +kernel
theorem dX9_says_114 : decode cX9_says 114 = .ok (.ifCond .eq 21, 3) := by decide +kernel
theorem dX9_says_117 : decode cX9_says 117 = .ok (.iload_n 2, 1) := by decide +kernel
theorem dX9_says_118 : decode cX9_says 118 = .ok (.iload 4, 2) := by decide +kernel
theorem dX9_says_120 : decode cX9_says 120 = .ok (.if_icmp .eq 15, 3) := by decide +kernel
theorem dX9_says_123 : decode cX9_says 123 = .ok (.iload 5, 2) := by decide +kernel
theorem dX9_says_125 : decode cX9_says 125 = .ok (.ifCond .ne 10, 3) := by decide +kernel
theorem dX9_says_128 : decode cX9_says 128 = .ok (.aload_n 0, 1) := by decide +kernel
theorem dX9_says_129 : decode cX9_says 129 = .ok (.bipush (-2), 2) := by decide +kernel
theorem dX9_says_131 : decode cX9_says 131 = .ok (.invokevirtual 127, 3) := by decide +kernel
theorem dX9_says_134 : decode cX9_says 134 = .ok (.ireturn, 1) := by decide +kernel
theorem dX9_says_135 : decode cX9_says 135 = .ok (.aload_n 0, 1) := by decide +kernel
theorem dX9_says_136 : decode cX9_says 136 = .ok (.iload_n 3, 1) := by decide +kernel
theorem dX9_says_137 : decode cX9_says 137 = .ok (.invokevirtual 134, 3) := by decide +kernel
theorem dX9_says_140 : decode cX9_says 140 = .ok (.iload_n 2, 1) := by decide +kernel
theorem dX9_says_141 : decode cX9_says 141 = .ok (.tableswitch 56 0 5 #[39, 46, 51, 46, 56, 51], 39) := by decide +kernel
theorem dX9_says_180 : decode cX9_says 180 = .ok (.aload_n 0, 1) := by decide +kernel
theorem dX9_says_181 : decode cX9_says 181 = .ok (.getfield 38, 3) := by decide +kernel
theorem dX9_says_184 : decode cX9_says 184 = .ok (.iload_n 3, 1) := by decide +kernel
theorem dX9_says_185 : decode cX9_says 185 = .ok (.iaload, 1) := by decide +kernel
theorem dX9_says_186 : decode cX9_says 186 = .ok (.ireturn, 1) := by decide +kernel
theorem dX9_says_187 : decode cX9_says 187 = .ok (.aload_n 0, 1) := by decide +kernel
theorem dX9_says_188 : decode cX9_says 188 = .ok (.invokevirtual 138, 3) := by decide +kernel
theorem dX9_says_191 : decode cX9_says 191 = .ok (.ireturn, 1) := by decide +kernel
theorem dX9_says_192 : decode cX9_says 192 = .ok (.aload_n 0, 1) := by decide +kernel
theorem dX9_says_193 : decode cX9_says 193 = .ok (.invokevirtual 142, 3) := by decide +kernel
theorem dX9_says_196 : decode cX9_says 196 = .ok (.ireturn, 1) := by decide +kernel
theorem dX9_says_197 : decode cX9_says 197 = .ok (.aload_n 0, 1) := by decide +kernel
theorem dX9_says_198 : decode cX9_says 198 = .ok (.invokevirtual 145, 3) := by decide +kernel
theorem dX9_says_201 : decode cX9_says 201 = .ok (.ireturn, 1) := by decide +kernel
theorem dX9_wanted_0 : decode cX9_wanted 0 = .ok (.aload_n 0, 1) := by decide +kernel
theorem dX9_wanted_1 : decode cX9_wanted 1 = .ok (.iload_n 1, 1) := by decide +kernel
theorem dX9_wanted_2 : decode cX9_wanted 2 = .ok (.invokevirtual 123, 3) := by decide +kernel
theorem dX9_wanted_5 : decode cX9_wanted 5 = .ok (.ifCond .ne 7, 3) := by decide +kernel
theorem dX9_wanted_8 : decode cX9_wanted 8 = .ok (.iconst (-1), 1) := by decide +kernel
theorem dX9_wanted_9 : decode cX9_wanted 9 = .ok (.goto 33, 3) := by decide +kernel
theorem dX9_wanted_12 : decode cX9_wanted 12 = .ok (.aload_n 0, 1) := by decide +kernel
theorem dX9_wanted_13 : decode cX9_wanted 13 = .ok (.getfield 56, 3) := by decide +kernel
theorem dX9_wanted_16 : decode cX9_wanted 16 = .ok (.iload_n 1, 1) := by decide +kernel
theorem dX9_wanted_17 : decode cX9_wanted 17 = .ok (.iaload, 1) := by decide +kernel
theorem dX9_wanted_18 : decode cX9_wanted 18 = .ok (.iconst 2, 1) := by decide +kernel
theorem dX9_wanted_19 : decode cX9_wanted 19 = .ok (.if_icmp .ne 8, 3) := by decide +kernel
theorem dX9_wanted_22 : decode cX9_wanted 22 = .ok (.bipush (-2), 2) := by decide +kernel
theorem dX9_wanted_24 : decode cX9_wanted 24 = .ok (.goto 18, 3) := by decide +kernel
theorem dX9_wanted_27 : decode cX9_wanted 27 = .ok (.aload_n 0, 1) := by decide +kernel
theorem dX9_wanted_28 : decode cX9_wanted 28 = .ok (.getfield 56, 3) := by decide +kernel
theorem dX9_wanted_31 : decode cX9_wanted 31 = .ok (.iload_n 1, 1) := by decide +kernel
theorem dX9_wanted_32 : decode cX9_wanted 32 = .ok (.iaload, 1) := by decide +kernel
theorem dX9_wanted_33 : decode cX9_wanted 33 = .ok (.ifCond .ne 8, 3) := by decide +kernel
theorem dX9_wanted_36 : decode cX9_wanted 36 = .ok (.bipush (-3), 2) := by decide +kernel
theorem dX9_wanted_38 : decode cX9_wanted 38 = .ok (.goto 4, 3) := by decide +kernel
theorem dX9_wanted_41 : decode cX9_wanted 41 = .ok (.iconst 0, 1) := by decide +kernel
theorem dX9_wanted_42 : decode cX9_wanted 42 = .ok (.ireturn, 1) := by decide +kernel
theorem dX9_intAt_0 : decode cX9_intAt 0 = .ok (.aload_n 0, 1) := by decide +kernel
theorem dX9_intAt_1 : decode cX9_intAt 1 = .ok (.getfield 68, 3) := by decide +kernel
theorem dX9_intAt_4 : decode cX9_intAt 4 = .ok (.sipush 160, 3) := by decide +kernel
theorem dX9_intAt_7 : decode cX9_intAt 7 = .ok (.iload_n 1, 1) := by decide +kernel
theorem dX9_intAt_8 : decode cX9_intAt 8 = .ok (.imul, 1) := by decide +kernel
theorem dX9_intAt_9 : decode cX9_intAt 9 = .ok (.iload_n 2, 1) := by decide +kernel
theorem dX9_intAt_10 : decode cX9_intAt 10 = .ok (.iadd, 1) := by decide +kernel
theorem dX9_intAt_11 : decode cX9_intAt 11 = .ok (.laload, 1) := by decide +kernel
theorem dX9_intAt_12 : decode cX9_intAt 12 = .ok (.l2i, 1) := by decide +kernel
theorem dX9_intAt_13 : decode cX9_intAt 13 = .ok (.ireturn, 1) := by decide +kernel
theorem dX9_addsChild_0 : decode cX9_addsChild 0 = .ok (.aload_n 0, 1) := by decide +kernel
theorem dX9_addsChild_1 : decode cX9_addsChild 1 = .ok (.getfield 32, 3) := by decide +kernel
theorem dX9_addsChild_4 : decode cX9_addsChild 4 = .ok (.aload_n 0, 1) := by decide +kernel
theorem dX9_addsChild_5 : decode cX9_addsChild 5 = .ok (.getfield 117, 3) := by decide +kernel
theorem dX9_addsChild_8 : decode cX9_addsChild 8 = .ok (.iload_n 1, 1) := by decide +kernel
theorem dX9_addsChild_9 : decode cX9_addsChild 9 = .ok (.iastore, 1) := by decide +kernel
