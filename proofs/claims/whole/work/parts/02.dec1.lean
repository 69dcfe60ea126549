theorem dX7_hasPart_0 : decode cX7_hasPart 0 = .ok (.iload_n 1, 1) := by decide +kernel
theorem dX7_hasPart_1 : decode cX7_hasPart 1 = .ok (.ifCond .lt 21, 3) := by decide +kernel
theorem dX7_hasPart_4 : decode cX7_hasPart 4 = .ok (.iload_n 2, 1) := by decide +kernel
theorem dX7_hasPart_5 : decode cX7_hasPart 5 = .ok (.ifCond .lt 17, 3) := by decide +kernel
theorem dX7_hasPart_8 : decode cX7_hasPart 8 = .ok (.iload_n 1, 1) := by decide +kernel
theorem dX7_hasPart_9 : decode cX7_hasPart 9 = .ok (.aload_n 0, 1) := by decide +kernel
theorem dX7_hasPart_10 : decode cX7_hasPart 10 = .ok (.getfield 19, 3) := by decide +kernel
theorem dX7_hasPart_13 : decode cX7_hasPart 13 = .ok (.iload_n 2, 1) := by decide +kernel
theorem dX7_hasPart_14 : decode cX7_hasPart 14 = .ok (.isub, 1) := by decide +kernel
theorem dX7_hasPart_15 : decode cX7_hasPart 15 = .ok (.if_icmp .gt 7, 3) := by decide +kernel
theorem dX7_hasPart_18 : decode cX7_hasPart 18 = .ok (.iconst 1, 1) := by decide +kernel
theorem dX7_hasPart_19 : decode cX7_hasPart 19 = .ok (.goto 4, 3) := by decide +kernel
theorem dX7_hasPart_22 : decode cX7_hasPart 22 = .ok (.iconst 0, 1) := by decide +kernel
theorem dX7_hasPart_23 : decode cX7_hasPart 23 = .ok (.ireturn, 1) := by decide +kernel
theorem dX7_holdRow_0 : decode cX7_holdRow 0 = .ok (.aload_n 0, 1) := by decide +kernel
theorem dX7_holdRow_1 : decode cX7_holdRow 1 = .ok (.bipush 100, 2) := by decide +kernel
theorem dX7_holdRow_3 : decode cX7_holdRow 3 = .ok (.iload_n 1, 1) := by decide +kernel
theorem dX7_holdRow_4 : decode cX7_holdRow 4 = .ok (.iadd, 1) := by decide +kernel
theorem dX7_holdRow_5 : decode cX7_holdRow 5 = .ok (.putfield 9, 3) := by decide +kernel
theorem dX7_holdRow_8 : decode cX7_holdRow 8 = .ok (.aload_n 0, 1) := by decide +kernel
theorem dX7_holdRow_9 : decode cX7_holdRow 9 = .ok (.iload_n 2, 1) := by decide +kernel
theorem dX7_holdRow_10 : decode cX7_holdRow 10 = .ok (.putfield 19, 3) := by decide +kernel
theorem dX7_holdRow_13 : decode cX7_holdRow 13 = .ok (.aload_n 0, 1) := by decide +kernel
theorem dX7_holdRow_14 : decode cX7_holdRow 14 = .ok (.getfield 15, 3) := by decide +kernel
theorem dX7_holdRow_17 : decode cX7_holdRow 17 = .ok (.lconst 0, 1) := by decide +kernel
theorem dX7_holdRow_18 : decode cX7_holdRow 18 = .ok (.invokestatic 22, 3) := by decide +kernel
theorem dX7_holdRow_21 : decode cX7_holdRow 21 = .ok (.return_, 1) := by decide +kernel
theorem dX7_holdChild_0 : decode cX7_holdChild 0 = .ok (.aload_n 0, 1) := by decide +kernel
theorem dX7_holdChild_1 : decode cX7_holdChild 1 = .ok (.iload_n 1, 1) := by decide +kernel
theorem dX7_holdChild_2 : decode cX7_holdChild 2 = .ok (.putfield 9, 3) := by decide +kernel
theorem dX7_holdChild_5 : decode cX7_holdChild 5 = .ok (.aload_n 0, 1) := by decide +kernel
theorem dX7_holdChild_6 : decode cX7_holdChild 6 = .ok (.iconst 0, 1) := by decide +kernel
theorem dX7_holdChild_7 : decode cX7_holdChild 7 = .ok (.putfield 19, 3) := by decide +kernel
theorem dX7_holdChild_10 : decode cX7_holdChild 10 = .ok (.return_, 1) := by decide +kernel
theorem dX7_put_0 : decode cX7_put 0 = .ok (.aload_n 0, 1) := by decide +kernel
theorem dX7_put_1 : decode cX7_put 1 = .ok (.iload_n 1, 1) := by decide +kernel
theorem dX7_put_2 : decode cX7_put 2 = .ok (.invokevirtual 28, 3) := by decide +kernel
theorem dX7_put_5 : decode cX7_put 5 = .ok (.ifCond .eq 14, 3) := by decide +kernel
theorem dX7_put_8 : decode cX7_put 8 = .ok (.aload_n 0, 1) := by decide +kernel
theorem dX7_put_9 : decode cX7_put 9 = .ok (.getfield 15, 3) := by decide +kernel
theorem dX7_put_12 : decode cX7_put 12 = .ok (.iload_n 1, 1) := by decide +kernel
theorem dX7_put_13 : decode cX7_put 13 = .ok (.aload_n 0, 1) := by decide +kernel
theorem dX7_put_14 : decode cX7_put 14 = .ok (.lload_n 2, 1) := by decide +kernel
theorem dX7_put_15 : decode cX7_put 15 = .ok (.invokevirtual 32, 3) := by decide +kernel
theorem dX7_put_18 : decode cX7_put 18 = .ok (.lastore, 1) := by decide +kernel
theorem dX7_put_19 : decode cX7_put 19 = .ok (.return_, 1) := by decide +kernel
theorem dX7_lowest_0 : decode cX7_lowest 0 = .ok (.aload_n 0, 1) := by decide +kernel
theorem dX7_lowest_1 : decode cX7_lowest 1 = .ok (.getfield 9, 3) := by decide +kernel
theorem dX7_lowest_4 : decode cX7_lowest 4 = .ok (.bipush 100, 2) := by decide +kernel
theorem dX7_lowest_6 : decode cX7_lowest 6 = .ok (.isub, 1) := by decide +kernel
theorem dX7_lowest_7 : decode cX7_lowest 7 = .ok (.tableswitch 39 0 2 #[25, 30, 35], 25) := by decide +kernel
theorem dX7_lowest_32 : decode cX7_lowest 32 = .ok (.lload_n 1, 1) := by decide +kernel
theorem dX7_lowest_33 : decode cX7_lowest 33 = .ok (.l2i, 1) := by decide +kernel
theorem dX7_lowest_34 : decode cX7_lowest 34 = .ok (.i2b, 1) := by decide +kernel
theorem dX7_lowest_35 : decode cX7_lowest 35 = .ok (.i2l, 1) := by decide +kernel
theorem dX7_lowest_36 : decode cX7_lowest 36 = .ok (.lreturn, 1) := by decide +kernel
theorem dX7_lowest_37 : decode cX7_lowest 37 = .ok (.lload_n 1, 1) := by decide +kernel
theorem dX7_lowest_38 : decode cX7_lowest 38 = .ok (.l2i, 1) := by decide +kernel
theorem dX7_lowest_39 : decode cX7_lowest 39 = .ok (.i2s, 1) := by decide +kernel
theorem dX7_lowest_40 : decode cX7_lowest 40 = .ok (.i2l, 1) := by decide +kernel
theorem dX7_lowest_41 : decode cX7_lowest 41 = .ok (.lreturn, 1) := by decide +kernel
theorem dX7_lowest_42 : decode cX7_lowest 42 = .ok (.lload_n 1, 1) := by decide +kernel
theorem dX7_lowest_43 : decode cX7_lowest 43 = .ok (.l2i, 1) := by decide +kernel
theorem dX7_lowest_44 : decode cX7_lowest 44 = .ok (.i2l, 1) := by decide +kernel
theorem dX7_lowest_45 : decode cX7_lowest 45 = .ok (.lreturn, 1) := by decide +kernel
theorem dX7_lowest_46 : decode cX7_lowest 46 = .ok (.lload_n 1, 1) := by decide +kernel
theorem dX7_lowest_47 : decode cX7_lowest 47 = .ok (.lreturn, 1) := by decide +kernel
theorem dX7_at_0 : decode cX7_at 0 = .ok (.aload_n 0, 1) := by decide +kernel
theorem dX7_at_1 : decode cX7_at 1 = .ok (.iload_n 1, 1) := by decide +kernel
theorem dX7_at_2 : decode cX7_at 2 = .ok (.invokevirtual 28, 3) := by decide +kernel
theorem dX7_at_5 : decode cX7_at 5 = .ok (.ifCond .eq 12, 3) := by decide +kernel
theorem dX7_at_8 : decode cX7_at 8 = .ok (.aload_n 0, 1) := by decide +kernel
theorem dX7_at_9 : decode cX7_at 9 = .ok (.getfield 15, 3) := by decide +kernel
theorem dX7_at_12 : decode cX7_at 12 = .ok (.iload_n 1, 1) := by decide +kernel
theorem dX7_at_13 : decode cX7_at 13 = .ok (.laload, 1) := by decide +kernel
theorem dX7_at_14 : decode cX7_at 14 = .ok (.goto 4, 3) := by decide +kernel
theorem dX7_at_17 : decode cX7_at 17 = .ok (.lconst 0, 1) := by decide +kernel
theorem dX7_at_18 : decode cX7_at 18 = .ok (.lreturn, 1) := by decide +kernel
theorem dX7_asInt_0 : decode cX7_asInt 0 = .ok (.aload_n 0, 1) := by decide +kernel
theorem dX7_asInt_1 : decode cX7_asInt 1 = .ok (.iload_n 1, 1) := by decide +kernel
theorem dX7_asInt_2 : decode cX7_asInt 2 = .ok (.invokevirtual 28, 3) := by decide +kernel
theorem dX7_asInt_5 : decode cX7_asInt 5 = .ok (.ifCond .eq 13, 3) := by decide +kernel
theorem dX7_asInt_8 : decode cX7_asInt 8 = .ok (.aload_n 0, 1) := by decide +kernel
theorem dX7_asInt_9 : decode cX7_asInt 9 = .ok (.getfield 15, 3) := by decide +kernel
theorem dX7_asInt_12 : decode cX7_asInt 12 = .ok (.iload_n 1, 1) := by decide +kernel
theorem dX7_asInt_13 : decode cX7_asInt 13 = .ok (.laload, 1) := by decide +kernel
theorem dX7_asInt_14 : decode cX7_asInt 14 = .ok (.l2i, 1) := by decide +kernel
theorem dX7_asInt_15 : decode cX7_asInt 15 = .ok (.goto 4, 3) := by decide +kernel
theorem dX7_asInt_18 : decode cX7_asInt 18 = .ok (.iconst 0, 1) := by decide +kernel
theorem dX7_asInt_19 : decode cX7_asInt 19 = .ok (.ireturn, 1) := by decide +kernel
theorem dX8_init_0 : decode cX8_init 0 = .ok (.aload_n 0, 1) := by decide +kernel
theorem dX8_init_1 : decode cX8_init 1 = .ok (.invokespecial 1, 3) := by decide +kernel
theorem dX8_init_4 : decode cX8_init 4 = .ok (.aload_n 0, 1) := by decide +kernel
theorem dX8_init_5 : decode cX8_init 5 = .ok (.new 7, 3) := by decide +kernel
theorem dX8_init_8 : decode cX8_init 8 = .ok (.dup, 1) := by decide +kernel
theorem dX8_init_9 : decode cX8_init 9 = .ok (.invokespecial 9, 3) := by decide +kernel
theorem dX8_init_12 : decode cX8_init 12 = .ok (.putfield 10, 3) := by decide +kernel
theorem dX8_init_15 : decode cX8_init 15 = .ok (.aload_n 0, 1) := by decide +kernel
theorem dX8_init_16 : decode cX8_init 16 = .ok (.new 7, 3) := by decide +kernel
theorem dX8_init_19 : decode cX8_init 19 = .ok (.dup, 1) := by decide +kernel
theorem dX8_init_20 : decode cX8_init 20 = .ok (.invokespecial 9, 3) := by decide +kernel
theorem dX8_init_23 : decode cX8_init 23 = .ok (.putfield 16, 3) := by decide +kernel
theorem dX8_init_26 : decode cX8_init 26 = .ok (.aload_n 0, 1) := by decide +kernel
theorem dX8_init_27 : decode cX8_init 27 = .ok (.new 7, 3) := by decide +kernel
theorem dX8_init_30 : decode cX8_init 30 = .ok (.dup, 1) := by decide +kernel
theorem dX8_init_31 : decode cX8_init 31 = .ok (.invokespecial 9, 3) := by decide +kernel
theorem dX8_init_34 : decode cX8_init 34 = .ok (.putfield 19, 3) := by decide +kernel
theorem dX8_init_37 : decode cX8_init 37 = .ok (.aload_n 0, 1) := by decide +kernel
theorem dX8_init_38 : decode cX8_init 38 = .ok (.bipush 8, 2) := by decide +kernel
theorem dX8_init_40 : decode cX8_init 40 = .ok (.anewarray 22, 3) := by decide +kernel
theorem dX8_init_43 : decode cX8_init 43 = .ok (.putfield 24, 3) := by decide +kernel
theorem dX8_init_46 : decode cX8_init 46 = .ok (.aload_n 0, 1) := by decide +kernel
theorem dX8_init_47 : decode cX8_init 47 = .ok (.new 28, 3) := by decide +kernel
theorem dX8_init_50 : decode cX8_init 50 = .ok (.dup, 1) := by decide +kernel
theorem dX8_init_51 : decode cX8_init 51 = .ok (.invokespecial 30, 3) := by decide +kernel
theorem dX8_init_54 : decode cX8_init 54 = .ok (.putfield 31, 3) := by decide +kernel
theorem dX8_init_57 : decode cX8_init 57 = .ok (.aload_n 0, 1) := by decide +kernel
theorem dX8_init_58 : decode cX8_init 58 = .ok (.bipush 8, 2) := by decide +kernel
theorem dX8_init_60 : decode cX8_init 60 = .ok (.anewarray 28, 3) := by decide +kernel
theorem dX8_init_63 : decode cX8_init 63 = .ok (.putfield 35, 3) := by decide +kernel
theorem dX8_init_66 : decode cX8_init 66 = .ok (.aload_n 0, 1) := by decide +kernel
theorem dX8_init_67 : decode cX8_init 67 = .ok (.new 39, 3) := by decide +kernel
theorem dX8_init_70 : decode cX8_init 70 = .ok (.dup, 1) := by decide +kernel
theorem dX8_init_71 : decode cX8_init 71 = .ok (.invokespecial 41, 3) := by decide +kernel
theorem dX8_init_74 : decode cX8_init 74 = .ok (.putfield 42, 3) := by decide +kernel
theorem dX8_init_77 : decode cX8_init 77 = .ok (.aload_n 0, 1) := by decide +kernel
theorem dX8_init_78 : decode cX8_init 78 = .ok (.new 46, 3) := by decide +kernel
theorem dX8_init_81 : decode cX8_init 81 = .ok (.dup, 1) := by decide +kernel
theorem dX8_init_82 : decode cX8_init 82 = .ok (.invokespecial 48, 3) := by decide +kernel
theorem dX8_init_85 : decode cX8_init 85 = .ok (.putfield 49, 3) := by decide +kernel
theorem dX8_init_88 : decode cX8_init 88 = .ok (.aload_n 0, 1) := by decide +kernel
theorem dX8_init_89 : decode cX8_init 89 = .ok (.new 53, 3) := by decide +kernel
theorem dX8_init_92 : decode cX8_init 92 = .ok (.dup, 1) := by decide +kernel
theorem dX8_init_93 : decode cX8_init 93 = .ok (.invokespecial 55, 3) := by decide +kernel
theorem dX8_init_96 : decode cX8_init 96 = .ok (.putfield 56, 3) := by decide +kernel
theorem dX8_init_99 : decode cX8_init 99 = .ok (.aload_n 0, 1) := by decide +kernel
theorem dX8_init_100 : decode cX8_init 100 = .ok (.bipush 8, 2) := by decide +kernel
theorem dX8_init_102 : decode cX8_init 102 = .ok (.newarray .int, 2) := by decide +kernel
theorem dX8_init_104 : decode cX8_init 104 = .ok (.putfield 60, 3) := by decide +kernel
theorem dX8_init_107 : decode cX8_init 107 = .ok (.aload_n 0, 1) := by decide +kernel
theorem dX8_init_108 : decode cX8_init 108 = .ok (.bipush 8, 2) := by decide +kernel
theorem dX8_init_110 : decode cX8_init 110 = .ok (.newarray .int, 2) := by decide +kernel
theorem dX8_init_112 : decode cX8_init 112 = .ok (.putfield 64, 3) := by decide +kernel
theorem dX8_init_115 : decode cX8_init 115 = .ok (.aload_n 0, 1) := by decide +kernel
theorem dX8_init_116 : decode cX8_init 116 = .ok (.bipush 8, 2) := by decide +kernel
theorem dX8_init_118 : decode cX8_init 118 = .ok (.newarray .int, 2) := by decide +kernel
theorem dX8_init_120 : decode cX8_init 120 = .ok (.putfield 67, 3) := by decide +kernel
theorem dX8_init_123 : decode cX8_init 123 = .ok (.aload_n 0, 1) := by decide +kernel
theorem dX8_init_124 : decode cX8_init 124 = .ok (.iconst (-1), 1) := by decide +kernel
theorem dX8_init_125 : decode cX8_init 125 = .ok (.putfield 70, 3) := by decide +kernel
theorem dX8_init_128 : decode cX8_init 128 = .ok (.iconst 0, 1) := by decide +kernel
theorem dX8_init_129 : decode cX8_init 129 = .ok (.istore_n 1, 1) := by decide +kernel
theorem dX8_init_130 : decode cX8_init 130 = .ok (.iload_n 1, 1) := by decide +kernel
theorem dX8_init_131 : decode cX8_init 131 = .ok (.bipush 8, 2) := by decide +kernel
theorem dX8_init_133 : decode cX8_init 133 = .ok (.if_icmp .ge 22, 3) := by decide +kernel
theorem dX8_init_136 : decode cX8_init 136 = .ok (.aload_n 0, 1) := by decide +kernel
theorem dX8_init_137 : decode cX8_init 137 = .ok (.getfield 24, 3) := by decide +kernel
theorem dX8_init_140 : decode cX8_init 140 = .ok (.iload_n 1, 1) := by decide +kernel
theorem dX8_init_141 : decode cX8_init 141 = .ok (.new 22, 3) := by decide +kernel
theorem dX8_init_144 : decode cX8_init 144 = .ok (.dup, 1) := by decide +kernel
theorem dX8_init_145 : decode cX8_init 145 = .ok (.invokespecial 74, 3) := by decide +kernel
theorem dX8_init_148 : decode cX8_init 148 = .ok (.aastore, 1) := by decide +kernel
theorem dX8_init_149 : decode cX8_init 149 = .ok (.iinc 1 1, 3) := by decide +kernel
theorem dX8_init_152 : decode cX8_init 152 = .ok (.goto (-22), 3) := by decide +kernel
theorem dX8_init_155 : decode cX8_init 155 = .ok (.iconst 0, 1) := by decide +kernel
theorem dX8_init_156 : decode cX8_init 156 = .ok (.istore_n 1, 1) := by decide +kernel
theorem dX8_init_157 : decode cX8_init 157 = .ok (.iload_n 1, 1) := by decide +kernel
theorem dX8_init_158 : decode cX8_init 158 = .ok (.bipush 8, 2) := by decide +kernel
theorem dX8_init_160 : decode cX8_init 160 = .ok (.if_icmp .ge 22, 3) := by decide +kernel
theorem dX8_init_163 : decode cX8_init 163 = .ok (.aload_n 0, 1) := by decide +kernel
theorem dX8_init_164 : decode cX8_init 164 = .ok (.getfield 35, 3) := by decide +kernel
theorem dX8_init_167 : decode cX8_init 167 = .ok (.iload_n 1, 1) := by decide +kernel
theorem dX8_init_168 : decode cX8_init 168 = .ok (.new 28, 3) := by decide +kernel
theorem dX8_init_171 : decode cX8_init 171 = .ok (.dup, 1) := by decide +kernel
theorem dX8_init_172 : decode cX8_init 172 = .ok (.invokespecial 30, 3) := by decide +kernel
theorem dX8_init_175 : decode cX8_init 175 = .ok (.aastore, 1) := by decide +kernel
theorem dX8_init_176 : decode cX8_init 176 = .ok (.iinc 1 1, 3) := by decide +kernel
theorem dX8_init_179 : decode cX8_init 179 = .ok (.goto (-22), 3) := by decide +kernel
theorem dX8_init_182 : decode cX8_init 182 = .ok (.return_, 1) := by decide +kernel
theorem dX8_row_0 : decode cX8_row 0 = .ok (.iload_n 1, 1) := by decide +kernel
theorem dX8_row_1 : decode cX8_row 1 = .ok (.invokestatic 75, 3) := by decide +kernel
theorem dX8_row_4 : decode cX8_row 4 = .ok (.ifCond .ne 9, 3) := by decide +kernel
theorem dX8_row_7 : decode cX8_row 7 = .ok (.aload_n 0, 1) := by decide +kernel
theorem dX8_row_8 : decode cX8_row 8 = .ok (.iconst (-1), 1) := by decide +kernel
theorem dX8_row_9 : decode cX8_row 9 = .ok (.invokevirtual 79, 3) := by decide +kernel
theorem dX8_row_12 : decode cX8_row 12 = .ok (.ireturn, 1) := by decide +kernel
theorem dX8_row_13 : decode cX8_row 13 = .ok (.iload_n 3, 1) := by decide +kernel
theorem dX8_row_14 : decode cX8_row 14 = .ok (.ifCond .ge 10, 3) := by decide +kernel
theorem dX8_row_17 : decode cX8_row 17 = .ok (.aload_n 0, 1) := by decide +kernel
theorem dX8_row_18 : decode cX8_row 18 = .ok (.bipush (-4), 2) := by decide +kernel
theorem dX8_row_20 : decode cX8_row 20 = .ok (.invokevirtual 79, 3) := by decide +kernel
theorem dX8_row_23 : decode cX8_row 23 = .ok (.ireturn, 1) := by decide +kernel
theorem dX8_row_24 : decode cX8_row 24 = .ok (.iload_n 2, 1) := by decide +kernel
theorem dX8_row_25 : decode cX8_row 25 = .ok (.ifCond .lt 8, 3) := by decide +kernel
theorem dX8_row_28 : decode cX8_row 28 = .ok (.iload_n 2, 1) := by decide +kernel
theorem dX8_row_29 : decode cX8_row 29 = .ok (.iconst 4, 1) := by decide +kernel
theorem dX8_row_30 : decode cX8_row 30 = .ok (.if_icmp .lt 10, 3) := by decide +kernel
theorem dX8_row_33 : decode cX8_row 33 = .ok (.aload_n 0, 1) := by decide +kernel
theorem dX8_row_34 : decode cX8_row 34 = .ok (.bipush (-6), 2) := by decide +kernel
theorem dX8_row_36 : decode cX8_row 36 = .ok (.invokevirtual 79, 3) := by decide +kernel
theorem dX8_row_39 : decode cX8_row 39 = .ok (.ireturn, 1) := by decide +kernel
theorem dX8_row_40 : decode cX8_row 40 = .ok (.iload_n 3, 1) := by decide +kernel
theorem dX8_row_41 : decode cX8_row 41 = .ok (.sipush 160, 3) := by decide +kernel
theorem dX8_row_44 : decode cX8_row 44 = .ok (.if_icmp .le 10, 3) := by decide +kernel
theorem dX8_row_47 : decode cX8_row 47 = .ok (.aload_n 0, 1) := by decide +kernel
theorem dX8_row_48 : decode cX8_row 48 = .ok (.bipush (-7), 2) := by decide +kernel
theorem dX8_row_50 : decode cX8_row 50 = .ok (.invokevirtual 79, 3) := by decide +kernel
theorem dX8_row_53 : decode cX8_row 53 = .ok (.ireturn, 1) := by decide +kernel
theorem dX8_row_54 : decode cX8_row 54 = .ok (.aload_n 0, 1) := by decide +kernel
theorem dX8_row_55 : decode cX8_row 55 = .ok (.getfield 24, 3) := by decide +kernel
theorem dX8_row_58 : decode cX8_row 58 = .ok (.iload_n 1, 1) := by decide +kernel
theorem dX8_row_59 : decode cX8_row 59 = .ok (.aaload, 1) := by decide +kernel
theorem dX8_row_60 : decode cX8_row 60 = .ok (.iload_n 2, 1) := by decide +kernel
theorem dX8_row_61 : decode cX8_row 61 = .ok (.iload_n 3, 1) := by decide +kernel
theorem dX8_row_62 : decode cX8_row 62 = .ok (.invokevirtual 83, 3) := by decide +kernel
theorem dX8_row_65 : decode cX8_row 65 = .ok (.iconst 1, 1) := by decide +kernel
theorem dX8_row_66 : decode cX8_row 66 = .ok (.ireturn, 1) := by decide +kernel
theorem dX8_set_0 : decode cX8_set 0 = .ok (.aload_n 0, 1) := by decide +kernel
theorem dX8_set_1 : decode cX8_set 1 = .ok (.iload_n 1, 1) := by decide +kernel
theorem dX8_set_2 : decode cX8_set 2 = .ok (.invokevirtual 87, 3) := by decide +kernel
theorem dX8_set_5 : decode cX8_set 5 = .ok (.istore 5, 2) := by decide +kernel
theorem dX8_set_7 : decode cX8_set 7 = .ok (.iload 5, 2) := by decide +kernel
theorem dX8_set_9 : decode cX8_set 9 = .ok (.ifCond .eq 10, 3) := by decide +kernel
theorem dX8_set_12 : decode cX8_set 12 = .ok (.aload_n 0, 1) := by decide +kernel
theorem dX8_set_13 : decode cX8_set 13 = .ok (.iload 5, 2) := by decide +kernel
theorem dX8_set_15 : decode cX8_set 15 = .ok (.invokevirtual 79, 3) := by decide +kernel
theorem dX8_set_18 : decode cX8_set 18 = .ok (.ireturn, 1) := by decide +kernel
theorem dX8_set_19 : decode cX8_set 19 = .ok (.aload_n 0, 1) := by decide +kernel
theorem dX8_set_20 : decode cX8_set 20 = .ok (.getfield 24, 3) := by decide +kernel
theorem dX8_set_23 : decode cX8_set 23 = .ok (.iload_n 1, 1) := by decide +kernel
theorem dX8_set_24 : decode cX8_set 24 = .ok (.aaload, 1) := by decide +kernel
theorem dX8_set_25 : decode cX8_set 25 = .ok (.iload_n 2, 1) := by decide +kernel
theorem dX8_set_26 : decode cX8_set 26 = .ok (.invokevirtual 90, 3) := by decide +kernel
theorem dX8_set_29 : decode cX8_set 29 = .ok (.ifCond .ne 10, 3) := by decide +kernel
theorem dX8_set_32 : decode cX8_set 32 = .ok (.aload_n 0, 1) := by decide +kernel
theorem dX8_set_33 : decode cX8_set 33 = .ok (.bipush (-5), 2) := by decide +kernel
theorem dX8_set_35 : decode cX8_set 35 = .ok (.invokevirtual 79, 3) := by decide +kernel
theorem dX8_set_38 : decode cX8_set 38 = .ok (.ireturn, 1) := by decide +kernel
theorem dX8_set_39 : decode cX8_set 39 = .ok (.aload_n 0, 1) := by decide +kernel
theorem dX8_set_40 : decode cX8_set 40 = .ok (.getfield 24, 3) := by decide +kernel
theorem dX8_set_43 : decode cX8_set 43 = .ok (.iload_n 1, 1) := by decide +kernel
theorem dX8_set_44 : decode cX8_set 44 = .ok (.aaload, 1) := by decide +kernel
theorem dX8_set_45 : decode cX8_set 45 = .ok (.iload_n 2, 1) := by decide +kernel
theorem dX8_set_46 : decode cX8_set 46 = .ok (.lload_n 3, 1) := by decide +kernel
theorem dX8_set_47 : decode cX8_set 47 = .ok (.invokevirtual 93, 3) := by decide +kernel
theorem dX8_set_50 : decode cX8_set 50 = .ok (.iconst 1, 1) := by decide +kernel
theorem dX8_set_51 : decode cX8_set 51 = .ok (.ireturn, 1) := by decide +kernel
theorem dX8_copy_0 : decode cX8_copy 0 = .ok (.iload_n 1, 1) := by decide +kernel
theorem dX8_copy_1 : decode cX8_copy 1 = .ok (.invokestatic 75, 3) := by decide +kernel
theorem dX8_copy_4 : decode cX8_copy 4 = .ok (.ifCond .eq 10, 3) := by decide +kernel
theorem dX8_copy_7 : decode cX8_copy 7 = .ok (.iload_n 2, 1) := by decide +kernel
theorem dX8_copy_8 : decode cX8_copy 8 = .ok (.invokestatic 75, 3) := by decide +kernel
theorem dX8_copy_11 : decode cX8_copy 11 = .ok (.ifCond .ne 9, 3) := by decide +kernel
theorem dX8_copy_14 : decode cX8_copy 14 = .ok (.aload_n 0, 1) := by decide +kernel
theorem dX8_copy_15 : decode cX8_copy 15 = .ok (.iconst (-1), 1) := by decide +kernel
theorem dX8_copy_16 : decode cX8_copy 16 = .ok (.invokevirtual 79, 3) := by decide +kernel
theorem dX8_copy_19 : decode cX8_copy 19 = .ok (.ireturn, 1) := by decide +kernel
theorem dX8_copy_20 : decode cX8_copy 20 = .ok (.aload_n 0, 1) := by decide +kernel
theorem dX8_copy_21 : decode cX8_copy 21 = .ok (.getfield 24, 3) := by decide +kernel
theorem dX8_copy_24 : decode cX8_copy 24 = .ok (.iload_n 1, 1) := by decide +kernel
theorem dX8_copy_25 : decode cX8_copy 25 = .ok (.aaload, 1) := by decide +kernel
theorem dX8_copy_26 : decode cX8_copy 26 = .ok (.astore 6, 2) := by decide +kernel
theorem dX8_copy_28 : decode cX8_copy 28 = .ok (.aload_n 0, 1) := by decide +kernel
theorem dX8_copy_29 : decode cX8_copy 29 = .ok (.getfield 24, 3) := by decide +kernel
theorem dX8_copy_32 : decode cX8_copy 32 = .ok (.iload_n 2, 1) := by decide +kernel
theorem dX8_copy_33 : decode cX8_copy 33 = .ok (.aaload, 1) := by decide +kernel
theorem dX8_copy_34 : decode cX8_copy 34 = .ok (.astore 7, 2) := by decide +kernel
theorem dX8_copy_36 : decode cX8_copy 36 = .ok (.aload 6, 2) := by decide +kernel
theorem dX8_copy_38 : decode cX8_copy 38 = .ok (.invokevirtual 97, 3) := by decide +kernel
theorem dX8_copy_41 : decode cX8_copy 41 = .ok (.ifCond .ne 21, 3) := by decide +kernel
theorem dX8_copy_44 : decode cX8_copy 44 = .ok (.aload 7, 2) := by decide +kernel
theorem dX8_copy_46 : decode cX8_copy 46 = .ok (.invokevirtual 97, 3) := by decide +kernel
theorem dX8_copy_49 : decode cX8_copy 49 = .ok (.ifCond .ne 13, 3) := by decide +kernel
theorem dX8_copy_52 : decode cX8_copy 52 = .ok (.aload 6, 2) := by decide +kernel
theorem dX8_copy_54 : decode cX8_copy 54 = .ok (.aload 7, 2) := by decide +kernel
theorem dX8_copy_56 : decode cX8_copy 56 = .ok (.invokestatic 101, 3) := by decide +kernel
theorem dX8_copy_59 : decode cX8_copy 59 = .ok (.ifCond .eq 10, 3) := by decide +kernel
theorem dX8_copy_62 : decode cX8_copy 62 = .ok (.aload_n 0, 1) := by decide +kernel
theorem dX8_copy_63 : decode cX8_copy 63 = .ok (.bipush (-2), 2) := by decide +kernel
theorem dX8_copy_65 : decode cX8_copy 65 = .ok (.invokevirtual 79, 3) := by decide +kernel
theorem dX8_copy_68 : decode cX8_copy 68 = .ok (.ireturn, 1) := by decide +kernel
theorem dX8_copy_69 : decode cX8_copy 69 = .ok (.aload 6, 2) := by decide +kernel
theorem dX8_copy_71 : decode cX8_copy 71 = .ok (.invokevirtual 105, 3) := by decide +kernel
theorem dX8_copy_74 : decode cX8_copy 74 = .ok (.ifCond .eq 11, 3) := by decide +kernel
theorem dX8_copy_77 : decode cX8_copy 77 = .ok (.aload 7, 2) := by decide +kernel
theorem dX8_copy_79 : decode cX8_copy 79 = .ok (.invokevirtual 105, 3) := by decide +kernel
theorem dX8_copy_82 : decode cX8_copy 82 = .ok (.ifCond .ne 10, 3) := by decide +kernel
theorem dX8_copy_85 : decode cX8_copy 85 = .ok (.aload_n 0, 1) := by decide +kernel
theorem dX8_copy_86 : decode cX8_copy 86 = .ok (.bipush (-3), 2) := by decide +kernel
theorem dX8_copy_88 : decode cX8_copy 88 = .ok (.invokevirtual 79, 3) := by decide +kernel
theorem dX8_copy_91 : decode cX8_copy 91 = .ok (.ireturn, 1) := by decide +kernel
theorem dX8_copy_92 : decode cX8_copy 92 = .ok (.iload 5, 2) := by decide +kernel
theorem dX8_copy_94 : decode cX8_copy 94 = .ok (.ifCond .ge 10, 3) := by decide +kernel
theorem dX8_copy_97 : decode cX8_copy 97 = .ok (.aload_n 0, 1) := by decide +kernel
theorem dX8_copy_98 : decode cX8_copy 98 = .ok (.bipush (-4), 2) := by decide +kernel
theorem dX8_copy_100 : decode cX8_copy 100 = .ok (.invokevirtual 79, 3) := by decide +kernel
theorem dX8_copy_103 : decode cX8_copy 103 = .ok (.ireturn, 1) := by decide +kernel
theorem dX8_copy_104 : decode cX8_copy 104 = .ok (.aload 6, 2) := by decide +kernel
theorem dX8_copy_106 : decode cX8_copy 106 = .ok (.iload_n 3, 1) := by decide +kernel
theorem dX8_copy_107 : decode cX8_copy 107 = .ok (.iload 5, 2) := by decide +kernel
theorem dX8_copy_109 : decode cX8_copy 109 = .ok (.invokevirtual 108, 3) := by decide +kernel
theorem dX8_copy_112 : decode cX8_copy 112 = .ok (.ifCond .eq 15, 3) := by decide +kernel
theorem dX8_copy_115 : decode cX8_copy 115 = .ok (.aload 7, 2) := by decide +kernel
theorem dX8_copy_117 : decode cX8_copy 117 = .ok (.iload 4, 2) := by decide +kernel
theorem dX8_copy_119 : decode cX8_copy 119 = .ok (.iload 5, 2) := by decide +kernel
theorem dX8_copy_121 : decode cX8_copy 121 = .ok (.invokevirtual 108, 3) := by decide +kernel
theorem dX8_copy_124 : decode cX8_copy 124 = .ok (.ifCond .ne 10, 3) := by decide +kernel
theorem dX8_copy_127 : decode cX8_copy 127 = .ok (.aload_n 0, 1) := by decide +kernel
theorem dX8_copy_128 : decode cX8_copy 128 = .ok (.bipush (-5), 2) := by decide +kernel
theorem dX8_copy_130 : decode cX8_copy 130 = .ok (.invokevirtual 79, 3) := by decide +kernel
theorem dX8_copy_133 : decode cX8_copy 133 = .ok (.ireturn, 1) := by decide +kernel
theorem dX8_copy_134 : decode cX8_copy 134 = .ok (.aload 6, 2) := by decide +kernel
theorem dX8_copy_136 : decode cX8_copy 136 = .ok (.getfield 112, 3) := by decide +kernel
theorem dX8_copy_139 : decode cX8_copy 139 = .ok (.iload_n 3, 1) := by decide +kernel
theorem dX8_copy_140 : decode cX8_copy 140 = .ok (.aload 7, 2) := by decide +kernel
theorem dX8_copy_142 : decode cX8_copy 142 = .ok (.getfield 112, 3) := by decide +kernel
theorem dX8_copy_145 : decode cX8_copy 145 = .ok (.iload 4, 2) := by decide +kernel
theorem dX8_copy_147 : decode cX8_copy 147 = .ok (.iload 5, 2) := by decide +kernel
theorem dX8_copy_149 : decode cX8_copy 149 = .ok (.invokestatic 116, 3) := by decide +kernel
theorem dX8_copy_152 : decode cX8_copy 152 = .ok (.iconst 1, 1) := by decide +kernel
theorem dX8_copy_153 : decode cX8_copy 153 = .ok (.ireturn, 1) := by decide +kernel
theorem dX8_element_0 : decode cX8_element 0 = .ok (.iload_n 1, 1) := by decide +kernel
theorem dX8_element_1 : decode cX8_element 1 = .ok (.invokestatic 75, 3) := by decide +kernel
theorem dX8_element_4 : decode cX8_element 4 = .ok (.ifCond .eq 16, 3) := by decide +kernel
theorem dX8_element_7 : decode cX8_element 7 = .ok (.aload_n 0, 1) := by decide +kernel
theorem dX8_element_8 : decode cX8_element 8 = .ok (.getfield 24, 3) := by decide +kernel
theorem dX8_element_11 : decode cX8_element 11 = .ok (.iload_n 1, 1) := by decide +kernel
theorem dX8_element_12 : decode cX8_element 12 = .ok (.aaload, 1) := by decide +kernel
theorem dX8_element_13 : decode cX8_element 13 = .ok (.iload_n 2, 1) := by decide +kernel
theorem dX8_element_14 : decode cX8_element 14 = .ok (.invokevirtual 122, 3) := by decide +kernel
theorem dX8_element_17 : decode cX8_element 17 = .ok (.goto 4, 3) := by decide +kernel
theorem dX8_element_20 : decode cX8_element 20 = .ok (.lconst 0, 1) := by decide +kernel
theorem dX8_element_21 : decode cX8_element 21 = .ok (.lreturn, 1) := by decide +kernel
theorem dX8_show_0 : decode cX8_show 0 = .ok (.iload_n 1, 1) := by decide +kernel
theorem dX8_show_1 : decode cX8_show 1 = .ok (.invokestatic 75, 3) := by decide +kernel
theorem dX8_show_4 : decode cX8_show 4 = .ok (.ifCond .eq 19, 3) := by decide +kernel
theorem dX8_show_7 : decode cX8_show 7 = .ok (.iload_n 2, 1) := by decide +kernel
theorem dX8_show_8 : decode cX8_show 8 = .ok (.iconst (-1), 1) := by decide +kernel
theorem dX8_show_9 : decode cX8_show 9 = .ok (.if_icmp .eq 20, 3) := by decide +kernel
theorem dX8_show_12 : decode cX8_show 12 = .ok (.aload_n 0, 1) := by decide +kernel
theorem dX8_show_13 : decode cX8_show 13 = .ok (.getfield 10, 3) := by decide +kernel
theorem dX8_show_16 : decode cX8_show 16 = .ok (.iload_n 2, 1) := by decide +kernel
theorem dX8_show_17 : decode cX8_show 17 = .ok (.invokevirtual 126, 3) := by decide +kernel
theorem dX8_show_20 : decode cX8_show 20 = .ok (.ifCond .ne 9, 3) := by decide +kernel
theorem dX8_show_23 : decode cX8_show 23 = .ok (.aload_n 0, 1) := by decide +kernel
theorem dX8_show_24 : decode cX8_show 24 = .ok (.iconst (-1), 1) := by decide +kernel
theorem dX8_show_25 : decode cX8_show 25 = .ok (.invokevirtual 79, 3) := by decide +kernel
theorem dX8_show_28 : decode cX8_show 28 = .ok (.ireturn, 1) := by decide +kernel
theorem dX8_show_29 : decode cX8_show 29 = .ok (.aload_n 0, 1) := by decide +kernel
theorem dX8_show_30 : decode cX8_show 30 = .ok (.getfield 24, 3) := by decide +kernel
theorem dX8_show_33 : decode cX8_show 33 = .ok (.iload_n 1, 1) := by decide +kernel
theorem dX8_show_34 : decode cX8_show 34 = .ok (.aaload, 1) := by decide +kernel
theorem dX8_show_35 : decode cX8_show 35 = .ok (.iload_n 2, 1) := by decide +kernel
theorem dX8_show_36 : decode cX8_show 36 = .ok (.invokevirtual 128, 3) := by decide +kernel
theorem dX8_show_39 : decode cX8_show 39 = .ok (.iload_n 2, 1) := by decide +kernel
theorem dX8_show_40 : decode cX8_show 40 = .ok (.iconst (-1), 1) := by decide +kernel
theorem dX8_show_41 : decode cX8_show 41 = .ok (.if_icmp .ne 7, 3) := by decide +kernel
theorem dX8_show_44 : decode cX8_show 44 = .ok (.iconst 0, 1) := by decide +kernel
theorem dX8_show_45 : decode cX8_show 45 = .ok (.goto 4, 3) := by decide +kernel
theorem dX8_show_48 : decode cX8_show 48 = .ok (.iconst 1, 1) := by decide +kernel
theorem dX8_show_49 : decode cX8_show 49 = .ok (.ireturn, 1) := by decide +kernel
theorem dX8_holds_0 : decode cX8_holds 0 = .ok (.iload_n 1, 1) := by decide +kernel
theorem dX8_holds_1 : decode cX8_holds 1 = .ok (.invokestatic 75, 3) := by decide +kernel
theorem dX8_holds_4 : decode cX8_holds 4 = .ok (.ifCond .eq 15, 3) := by decide +kernel
theorem dX8_holds_7 : decode cX8_holds 7 = .ok (.aload_n 0, 1) := by decide +kernel
theorem dX8_holds_8 : decode cX8_holds 8 = .ok (.getfield 24, 3) := by decide +kernel
theorem dX8_holds_11 : decode cX8_holds 11 = .ok (.iload_n 1, 1) := by decide +kernel
theorem dX8_holds_12 : decode cX8_holds 12 = .ok (.aaload, 1) := by decide +kernel
theorem dX8_holds_13 : decode cX8_holds 13 = .ok (.getfield 132, 3) := by decide +kernel
theorem dX8_holds_16 : decode cX8_holds 16 = .ok (.goto 4, 3) := by decide +kernel
theorem dX8_holds_19 : decode cX8_holds 19 = .ok (.iconst (-1), 1) := by decide +kernel
theorem dX8_holds_20 : decode cX8_holds 20 = .ok (.ireturn, 1) := by decide +kernel
theorem dX8_says_0 : decode cX8_says 0 = .ok (.iload_n 1, 1) := by decide +kernel
theorem dX8_says_1 : decode cX8_says 1 = .ok (.invokestatic 75, 3) := by decide +kernel
theorem dX8_says_4 : decode cX8_says 4 = .ok (.ifCond .eq 10, 3) := by decide +kernel
theorem dX8_says_7 : decode cX8_says 7 = .ok (.iload_n 2, 1) := by decide +kernel
theorem dX8_says_8 : decode cX8_says 8 = .ok (.invokestatic 135, 3) := by decide +kernel
theorem dX8_says_11 : decode cX8_says 11 = .ok (.ifCond .ne 9, 3) := by decide +kernel
theorem dX8_says_14 : decode cX8_says 14 = .ok (.aload_n 0, 1) := by decide +kernel
theorem dX8_says_15 : decode cX8_says 15 = .ok (.iconst (-1), 1) := by decide +kernel
theorem dX8_says_16 : decode cX8_says 16 = .ok (.invokevirtual 79, 3) := by decide +kernel
theorem dX8_says_19 : decode cX8_says 19 = .ok (.ireturn, 1) := by decide +kernel
theorem dX8_says_20 : decode cX8_says 20 = .ok (.aload_n 0, 1) := by decide +kernel
theorem dX8_says_21 : decode cX8_says 21 = .ok (.getfield 24, 3) := by decide +kernel
theorem dX8_says_24 : decode cX8_says 24 = .ok (.iload_n 1, 1) := by decide +kernel
theorem dX8_says_25 : decode cX8_says 25 = .ok (.aaload, 1) := by decide +kernel
theorem dX8_says_26 : decode cX8_says 26 = .ok (.astore_n 3, 1) := by decide +kernel
theorem dX8_says_27 : decode cX8_says 27 = .ok (.aload_n 3, 1) := by decide +kernel
theorem dX8_says_28 : decode cX8_says 28 = .ok (.invokevirtual 105, 3) := by decide +kernel
theorem dX8_says_31 : decode cX8_says 31 = .ok (.ifCond .eq 10, 3) := by decide +kernel
theorem dX8_says_34 : decode cX8_says 34 = .ok (.aload_n 0, 1) := by decide +kernel
theorem dX8_says_35 : decode cX8_says 35 = .ok (.bipush (-2), 2) := by decide +kernel
theorem dX8_says_37 : decode cX8_says 37 = .ok (.invokevirtual 79, 3) := by decide +kernel
theorem dX8_says_40 : decode cX8_says 40 = .ok (.ireturn, 1) := by decide +kernel
theorem dX8_says_41 : decode cX8_says 41 = .ok (.aload_n 0, 1) := by decide +kernel
theorem dX8_says_42 : decode cX8_says 42 = .ok (.getfield 10, 3) := by decide +kernel
theorem dX8_says_45 : decode cX8_says 45 = .ok (.aload_n 3, 1) := by decide +kernel
theorem dX8_says_46 : decode cX8_says 46 = .ok (.getfield 132, 3) := by decide +kernel
theorem dX8_says_49 : decode cX8_says 49 = .ok (.invokevirtual 126, 3) := by decide +kernel
theorem dX8_says_52 : decode cX8_says 52 = .ok (.ifCond .ne 10, 3) := by decide +kernel
theorem dX8_says_55 : decode cX8_says 55 = .ok (.aload_n 0, 1) := by decide +kernel
theorem dX8_says_56 : decode cX8_says 56 = .ok (.bipush (-3), 2) := by decide +kernel
theorem dX8_says_58 : decode cX8_says 58 = .ok (.invokevirtual 79, 3) := by decide +kernel
theorem dX8_says_61 : decode cX8_says 61 = .ok (.ireturn, 1) := by decide +kernel
theorem dX8_says_62 : decode cX8_says 62 = .ok (.aload_n 0, 1) := by decide +kernel
theorem dX8_says_63 : decode cX8_says 63 = .ok (.getfield 10, 3) := by decide +kernel
theorem dX8_says_66 : decode cX8_says 66 = .ok (.getfield 138, 3) := by decide +kernel
theorem dX8_says_69 : decode cX8_says 69 = .ok (.aload_n 3, 1) := by decide +kernel
theorem dX8_says_70 : decode cX8_says 70 = .ok (.getfield 132, 3) := by decide +kernel
theorem dX8_says_73 : decode cX8_says 73 = .ok (.aaload, 1) := by decide +kernel
theorem dX8_says_74 : decode cX8_says 74 = .ok (.getfield 142, 3) := by decide +kernel
theorem dX8_says_77 : decode cX8_says 77 = .ok (.iload_n 2, 1) := by decide +kernel
theorem dX8_says_78 : decode cX8_says 78 = .ok (.invokestatic 147, 3) := by decide +kernel
theorem dX8_says_81 : decode cX8_says 81 = .ok (.ifCond .ne 10, 3) := by decide +kernel
theorem dX8_says_84 : decode cX8_says 84 = .ok (.aload_n 0, 1) := by decide +kernel
theorem dX8_says_85 : decode cX8_says 85 = .ok (.bipush (-2), 2) := by decide +kernel
theorem dX8_says_87 : decode cX8_says 87 = .ok (.invokevirtual 79, 3) := by decide +kernel
theorem dX8_says_90 : decode cX8_says 90 = .ok (.ireturn, 1) := by decide +kernel
theorem dX8_says_91 : decode cX8_says 91 = .ok (.aload_n 0, 1) := by decide +kernel
theorem dX8_says_92 : decode cX8_says 92 = .ok (.aload_n 3, 1) := by decide +kernel
theorem dX8_says_93 : decode cX8_says 93 = .ok (.getfield 132, 3) := by decide +kernel
theorem dX8_says_96 : decode cX8_says 96 = .ok (.iload_n 2, 1) := by decide +kernel
theorem dX8_says_97 : decode cX8_says 97 = .ok (.invokevirtual 150, 3) := by decide +kernel
theorem dX8_says_100 : decode cX8_says 100 = .ok (.ireturn, 1) := by decide +kernel
theorem dX8_child_0 : decode cX8_child 0 = .ok (.iload_n 1, 1) := by decide +kernel
theorem dX8_child_1 : decode cX8_child 1 = .ok (.invokestatic 135, 3) := by decide +kernel
theorem dX8_child_4 : decode cX8_child 4 = .ok (.ifCond .ne 9, 3) := by decide +kernel
theorem dX8_child_7 : decode cX8_child 7 = .ok (.aload_n 0, 1) := by decide +kernel
theorem dX8_child_8 : decode cX8_child 8 = .ok (.iconst (-1), 1) := by decide +kernel
theorem dX8_child_9 : decode cX8_child 9 = .ok (.invokevirtual 79, 3) := by decide +kernel
theorem dX8_child_12 : decode cX8_child 12 = .ok (.ireturn, 1) := by decide +kernel
theorem dX8_child_13 : decode cX8_child 13 = .ok (.iload_n 2, 1) := by decide +kernel
theorem dX8_child_14 : decode cX8_child 14 = .ok (.ifCond .lt 20, 3) := by decide +kernel
theorem dX8_child_17 : decode cX8_child 17 = .ok (.iload_n 2, 1) := by decide +kernel
theorem dX8_child_18 : decode cX8_child 18 = .ok (.bipush 9, 2) := by decide +kernel
theorem dX8_child_20 : decode cX8_child 20 = .ok (.if_icmp .gt 14, 3) := by decide +kernel
theorem dX8_child_23 : decode cX8_child 23 = .ok (.iload_n 3, 1) := by decide +kernel
theorem dX8_child_24 : decode cX8_child 24 = .ok (.iconst 1, 1) := by decide +kernel
theorem dX8_child_25 : decode cX8_child 25 = .ok (.if_icmp .lt 9, 3) := by decide +kernel
theorem dX8_child_28 : decode cX8_child 28 = .ok (.iload_n 3, 1) := by decide +kernel
theorem dX8_child_29 : decode cX8_child 29 = .ok (.bipush 9, 2) := by decide +kernel
theorem dX8_child_31 : decode cX8_child 31 = .ok (.if_icmp .le 10, 3) := by decide +kernel
theorem dX8_child_34 : decode cX8_child 34 = .ok (.aload_n 0, 1) := by decide +kernel
theorem dX8_child_35 : decode cX8_child 35 = .ok (.bipush (-6), 2) := by decide +kernel
theorem dX8_child_37 : decode cX8_child 37 = .ok (.invokevirtual 79, 3) := by decide +kernel
theorem dX8_child_40 : decode cX8_child 40 = .ok (.ireturn, 1) := by decide +kernel
theorem dX8_child_41 : decode cX8_child 41 = .ok (.aload_n 0, 1) := by decide +kernel
theorem dX8_child_42 : decode cX8_child 42 = .ok (.getfield 10, 3) := by decide +kernel
theorem dX8_child_45 : decode cX8_child 45 = .ok (.getfield 154, 3) := by decide +kernel
theorem dX8_child_48 : decode cX8_child 48 = .ok (.bipush 8, 2) := by decide +kernel
theorem dX8_child_50 : decode cX8_child 50 = .ok (.if_icmp .lt 10, 3) := by decide +kernel
theorem dX8_child_53 : decode cX8_child 53 = .ok (.aload_n 0, 1) := by decide +kernel
theorem dX8_child_54 : decode cX8_child 54 = .ok (.bipush (-7), 2) := by decide +kernel
theorem dX8_child_56 : decode cX8_child 56 = .ok (.invokevirtual 79, 3) := by decide +kernel
theorem dX8_child_59 : decode cX8_child 59 = .ok (.ireturn, 1) := by decide +kernel
theorem dX8_child_60 : decode cX8_child 60 = .ok (.aload_n 0, 1) := by decide +kernel
theorem dX8_child_61 : decode cX8_child 61 = .ok (.getfield 10, 3) := by decide +kernel
theorem dX8_child_64 : decode cX8_child 64 = .ok (.iload_n 1, 1) := by decide +kernel
theorem dX8_child_65 : decode cX8_child 65 = .ok (.iload_n 2, 1) := by decide +kernel
theorem dX8_child_66 : decode cX8_child 66 = .ok (.iload_n 3, 1) := by decide +kernel
theorem dX8_child_67 : decode cX8_child 67 = .ok (.invokevirtual 157, 3) := by decide +kernel
theorem dX8_child_70 : decode cX8_child 70 = .ok (.ireturn, 1) := by decide +kernel
theorem dX8_sack_0 : decode cX8_sack 0 = .ok (.iload_n 1, 1) := by decide +kernel
theorem dX8_sack_1 : decode cX8_sack 1 = .ok (.iconst 1, 1) := by decide +kernel
theorem dX8_sack_2 : decode cX8_sack 2 = .ok (.if_icmp .lt 19, 3) := by decide +kernel
theorem dX8_sack_5 : decode cX8_sack 5 = .ok (.iload_n 1, 1) := by decide +kernel
theorem dX8_sack_6 : decode cX8_sack 6 = .ok (.bipush 9, 2) := by decide +kernel
theorem dX8_sack_8 : decode cX8_sack 8 = .ok (.if_icmp .gt 13, 3) := by decide +kernel
theorem dX8_sack_11 : decode cX8_sack 11 = .ok (.iload_n 2, 1) := by decide +kernel
theorem dX8_sack_12 : decode cX8_sack 12 = .ok (.ifCond .lt 9, 3) := by decide +kernel
theorem dX8_sack_15 : decode cX8_sack 15 = .ok (.iload_n 2, 1) := by decide +kernel
theorem dX8_sack_16 : decode cX8_sack 16 = .ok (.bipush 9, 2) := by decide +kernel
theorem dX8_sack_18 : decode cX8_sack 18 = .ok (.if_icmp .le 10, 3) := by decide +kernel
theorem dX8_sack_21 : decode cX8_sack 21 = .ok (.aload_n 0, 1) := by decide +kernel
theorem dX8_sack_22 : decode cX8_sack 22 = .ok (.bipush (-6), 2) := by decide +kernel
theorem dX8_sack_24 : decode cX8_sack 24 = .ok (.invokevirtual 79, 3) := by decide +kernel
theorem dX8_sack_27 : decode cX8_sack 27 = .ok (.ireturn, 1) := by decide +kernel
theorem dX8_sack_28 : decode cX8_sack 28 = .ok (.aload_n 0, 1) := by decide +kernel
theorem dX8_sack_29 : decode cX8_sack 29 = .ok (.getfield 10, 3) := by decide +kernel
theorem dX8_sack_32 : decode cX8_sack 32 = .ok (.getfield 161, 3) := by decide +kernel
theorem dX8_sack_35 : decode cX8_sack 35 = .ok (.bipush 8, 2) := by decide +kernel
theorem dX8_sack_37 : decode cX8_sack 37 = .ok (.if_icmp .lt 10, 3) := by decide +kernel
theorem dX8_sack_40 : decode cX8_sack 40 = .ok (.aload_n 0, 1) := by decide +kernel
theorem dX8_sack_41 : decode cX8_sack 41 = .ok (.bipush (-7), 2) := by decide +kernel
theorem dX8_sack_43 : decode cX8_sack 43 = .ok (.invokevirtual 79, 3) := by decide +kernel
theorem dX8_sack_46 : decode cX8_sack 46 = .ok (.ireturn, 1) := by decide +kernel
theorem dX8_sack_47 : decode cX8_sack 47 = .ok (.aload_n 0, 1) := by decide +kernel
theorem dX8_sack_48 : decode cX8_sack 48 = .ok (.getfield 10, 3) := by decide +kernel
theorem dX8_sack_51 : decode cX8_sack 51 = .ok (.iload_n 1, 1) := by decide +kernel
theorem dX8_sack_52 : decode cX8_sack 52 = .ok (.iload_n 2, 1) := by decide +kernel
theorem dX8_sack_53 : decode cX8_sack 53 = .ok (.invokevirtual 164, 3) := by decide +kernel
theorem dX8_sack_56 : decode cX8_sack 56 = .ok (.ireturn, 1) := by decide +kernel
theorem dX8_childOf_0 : decode cX8_childOf 0 = .ok (.aload_n 0, 1) := by decide +kernel
theorem dX8_childOf_1 : decode cX8_childOf 1 = .ok (.getfield 10, 3) := by decide +kernel
theorem dX8_childOf_4 : decode cX8_childOf 4 = .ok (.iload_n 1, 1) := by decide +kernel
theorem dX8_childOf_5 : decode cX8_childOf 5 = .ok (.invokevirtual 126, 3) := by decide +kernel
theorem dX8_childOf_8 : decode cX8_childOf 8 = .ok (.ifCond .eq 13, 3) := by decide +kernel
theorem dX8_childOf_11 : decode cX8_childOf 11 = .ok (.iload_n 2, 1) := by decide +kernel
theorem dX8_childOf_12 : decode cX8_childOf 12 = .ok (.ifCond .lt 9, 3) := by decide +kernel
theorem dX8_childOf_15 : decode cX8_childOf 15 = .ok (.iload_n 2, 1) := by decide +kernel
theorem dX8_childOf_16 : decode cX8_childOf 16 = .ok (.bipush 8, 2) := by decide +kernel
theorem dX8_childOf_18 : decode cX8_childOf 18 = .ok (.if_icmp .le 10, 3) := by decide +kernel
theorem dX8_childOf_21 : decode cX8_childOf 21 = .ok (.aload_n 0, 1) := by decide +kernel
theorem dX8_childOf_22 : decode cX8_childOf 22 = .ok (.bipush (-5), 2) := by decide +kernel
theorem dX8_childOf_24 : decode cX8_childOf 24 = .ok (.invokevirtual 79, 3) := by decide +kernel
theorem dX8_childOf_27 : decode cX8_childOf 27 = .ok (.ireturn, 1) := by decide +kernel
theorem dX8_childOf_28 : decode cX8_childOf 28 = .ok (.aload_n 0, 1) := by decide +kernel
theorem dX8_childOf_29 : decode cX8_childOf 29 = .ok (.getfield 31, 3) := by decide +kernel
theorem dX8_childOf_32 : decode cX8_childOf 32 = .ok (.aload_n 0, 1) := by decide +kernel
theorem dX8_childOf_33 : decode cX8_childOf 33 = .ok (.getfield 10, 3) := by decide +kernel
theorem dX8_childOf_36 : decode cX8_childOf 36 = .ok (.iload_n 1, 1) := by decide +kernel
theorem dX8_childOf_37 : decode cX8_childOf 37 = .ok (.invokevirtual 167, 3) := by decide +kernel
theorem dX8_childOf_40 : decode cX8_childOf 40 = .ok (.aload_n 0, 1) := by decide +kernel
theorem dX8_childOf_41 : decode cX8_childOf 41 = .ok (.getfield 31, 3) := by decide +kernel
theorem dX8_childOf_44 : decode cX8_childOf 44 = .ok (.aload_n 0, 1) := by decide +kernel
theorem dX8_childOf_45 : decode cX8_childOf 45 = .ok (.getfield 10, 3) := by decide +kernel
theorem dX8_childOf_48 : decode cX8_childOf 48 = .ok (.invokevirtual 171, 3) := by decide +kernel
theorem dX8_childOf_51 : decode cX8_childOf 51 = .ok (.iload_n 2, 1) := by decide +kernel
theorem dX8_childOf_52 : decode cX8_childOf 52 = .ok (.tableswitch 127 0 7 #[48, 59, 70, 81, 92, 103, 111, 119], 48) := by decide +kernel
theorem dX8_childOf_100 : decode cX8_childOf 100 = .ok (.aload_n 0, 1) := by decide +kernel
theorem dX8_childOf_101 : decode cX8_childOf 101 = .ok (.getfield 31, 3) := by decide +kernel
theorem dX8_childOf_104 : decode cX8_childOf 104 = .ok (.getfield 175, 3) := by decide +kernel
theorem dX8_childOf_107 : decode cX8_childOf 107 = .ok (.getfield 142, 3) := by decide +kernel
theorem dX8_childOf_110 : decode cX8_childOf 110 = .ok (.ireturn, 1) := by decide +kernel
theorem dX8_childOf_111 : decode cX8_childOf 111 = .ok (.aload_n 0, 1) := by decide +kernel
theorem dX8_childOf_112 : decode cX8_childOf 112 = .ok (.getfield 31, 3) := by decide +kernel
theorem dX8_childOf_115 : decode cX8_childOf 115 = .ok (.getfield 175, 3) := by decide +kernel
theorem dX8_childOf_118 : decode cX8_childOf 118 = .ok (.getfield 179, 3) := by decide +kernel
theorem dX8_childOf_121 : decode cX8_childOf 121 = .ok (.ireturn, 1) := by decide +kernel
theorem dX8_childOf_122 : decode cX8_childOf 122 = .ok (.aload_n 0, 1) := by decide +kernel
theorem dX8_childOf_123 : decode cX8_childOf 123 = .ok (.getfield 31, 3) := by decide +kernel
theorem dX8_childOf_126 : decode cX8_childOf 126 = .ok (.getfield 175, 3) := by decide +kernel
theorem dX8_childOf_129 : decode cX8_childOf 129 = .ok (.getfield 182, 3) := by decide +kernel
theorem dX8_childOf_132 : decode cX8_childOf 132 = .ok (.ireturn, 1) := by decide +kernel
theorem dX8_childOf_133 : decode cX8_childOf 133 = .ok (.aload_n 0, 1) := by decide +kernel
theorem dX8_childOf_134 : decode cX8_childOf 134 = .ok (.getfield 31, 3) := by decide +kernel
theorem dX8_childOf_137 : decode cX8_childOf 137 = .ok (.getfield 175, 3) := by decide +kernel
theorem dX8_childOf_140 : decode cX8_childOf 140 = .ok (.getfield 185, 3) := by decide +kernel
theorem dX8_childOf_143 : decode cX8_childOf 143 = .ok (.ireturn, 1) := by decide +kernel
theorem dX8_childOf_144 : decode cX8_childOf 144 = .ok (.aload_n 0, 1) := by decide +kernel
theorem dX8_childOf_145 : decode cX8_childOf 145 = .ok (.getfield 31, 3) := by decide +kernel
theorem dX8_childOf_148 : decode cX8_childOf 148 = .ok (.getfield 175, 3) := by decide +kernel
theorem dX8_childOf_151 : decode cX8_childOf 151 = .ok (.getfield 188, 3) := by decide +kernel
theorem dX8_childOf_154 : decode cX8_childOf 154 = .ok (.ireturn, 1) := by decide +kernel
theorem dX8_childOf_155 : decode cX8_childOf 155 = .ok (.aload_n 0, 1) := by decide +kernel
theorem dX8_childOf_156 : decode cX8_childOf 156 = .ok (.getfield 31, 3) := by decide +kernel
theorem dX8_childOf_159 : decode cX8_childOf 159 = .ok (.getfield 191, 3) := by decide +kernel
theorem dX8_childOf_162 : decode cX8_childOf 162 = .ok (.ireturn, 1) := by decide +kernel
theorem dX8_childOf_163 : decode cX8_childOf 163 = .ok (.aload_n 0, 1) := by decide +kernel
theorem dX8_childOf_164 : decode cX8_childOf 164 = .ok (.getfield 31, 3) := by decide +kernel
theorem dX8_childOf_167 : decode cX8_childOf 167 = .ok (.getfield 194, 3) := by decide +kernel
theorem dX8_childOf_170 : decode cX8_childOf 170 = .ok (.ireturn, 1) := by decide +kernel
theorem dX8_childOf_171 : decode cX8_childOf 171 = .ok (.aload_n 0, 1) := by decide +kernel
theorem dX8_childOf_172 : decode cX8_childOf 172 = .ok (.getfield 31, 3) := by decide +kernel
theorem dX8_childOf_175 : decode cX8_childOf 175 = .ok (.getfield 197, 3) := by decide +kernel
theorem dX8_childOf_178 : decode cX8_childOf 178 = .ok (.ireturn, 1) := by decide +kernel
theorem dX8_childOf_179 : decode cX8_childOf 179 = .ok (.aload_n 0, 1) := by decide +kernel
theorem dX8_childOf_180 : decode cX8_childOf 180 = .ok (.getfield 31, 3) := by decide +kernel
theorem dX8_childOf_183 : decode cX8_childOf 183 = .ok (.getfield 175, 3) := by decide +kernel
theorem dX8_childOf_186 : decode cX8_childOf 186 = .ok (.getfield 200, 3) := by decide +kernel
theorem dX8_childOf_189 : decode cX8_childOf 189 = .ok (.ireturn, 1) := by decide +kernel
theorem dX8_sackOf_0 : decode cX8_sackOf 0 = .ok (.aload_n 0, 1) := by decide +kernel
theorem dX8_sackOf_1 : decode cX8_sackOf 1 = .ok (.getfield 10, 3) := by decide +kernel
theorem dX8_sackOf_4 : decode cX8_sackOf 4 = .ok (.iload_n 1, 1) := by decide +kernel
theorem dX8_sackOf_5 : decode cX8_sackOf 5 = .ok (.invokevirtual 203, 3) := by decide +kernel
theorem dX8_sackOf_8 : decode cX8_sackOf 8 = .ok (.ifCond .ne 9, 3) := by decide +kernel
theorem dX8_sackOf_11 : decode cX8_sackOf 11 = .ok (.aload_n 0, 1) := by decide +kernel
theorem dX8_sackOf_12 : decode cX8_sackOf 12 = .ok (.iconst (-1), 1) := by decide +kernel
theorem dX8_sackOf_13 : decode cX8_sackOf 13 = .ok (.invokevirtual 79, 3) := by decide +kernel
theorem dX8_sackOf_16 : decode cX8_sackOf 16 = .ok (.ireturn, 1) := by decide +kernel
theorem dX8_sackOf_17 : decode cX8_sackOf 17 = .ok (.iload_n 2, 1) := by decide +kernel
theorem dX8_sackOf_18 : decode cX8_sackOf 18 = .ok (.ifCond .lt 8, 3) := by decide +kernel
theorem dX8_sackOf_21 : decode cX8_sackOf 21 = .ok (.iload_n 2, 1) := by decide +kernel
theorem dX8_sackOf_22 : decode cX8_sackOf 22 = .ok (.iconst 1, 1) := by decide +kernel
theorem dX8_sackOf_23 : decode cX8_sackOf 23 = .ok (.if_icmp .le 10, 3) := by decide +kernel
theorem dX8_sackOf_26 : decode cX8_sackOf 26 = .ok (.aload_n 0, 1) := by decide +kernel
theorem dX8_sackOf_27 : decode cX8_sackOf 27 = .ok (.bipush (-5), 2) := by decide +kernel
theorem dX8_sackOf_29 : decode cX8_sackOf 29 = .ok (.invokevirtual 79, 3) := by decide +kernel
theorem dX8_sackOf_32 : decode cX8_sackOf 32 = .ok (.ireturn, 1) := by decide +kernel
theorem dX8_sackOf_33 : decode cX8_sackOf 33 = .ok (.iload_n 2, 1) := by decide +kernel
theorem dX8_sackOf_34 : decode cX8_sackOf 34 = .ok (.ifCond .ne 18, 3) := by decide +kernel
theorem dX8_sackOf_37 : decode cX8_sackOf 37 = .ok (.aload_n 0, 1) := by decide +kernel
theorem dX8_sackOf_38 : decode cX8_sackOf 38 = .ok (.getfield 10, 3) := by decide +kernel
theorem dX8_sackOf_41 : decode cX8_sackOf 41 = .ok (.getfield 206, 3) := by decide +kernel
theorem dX8_sackOf_44 : decode cX8_sackOf 44 = .ok (.iload_n 1, 1) := by decide +kernel
theorem dX8_sackOf_45 : decode cX8_sackOf 45 = .ok (.aaload, 1) := by decide +kernel
theorem dX8_sackOf_46 : decode cX8_sackOf 46 = .ok (.getfield 210, 3) := by decide +kernel
theorem dX8_sackOf_49 : decode cX8_sackOf 49 = .ok (.goto 15, 3) := by decide +kernel
theorem dX8_sackOf_52 : decode cX8_sackOf 52 = .ok (.aload_n 0, 1) := by decide +kernel
theorem dX8_sackOf_53 : decode cX8_sackOf 53 = .ok (.getfield 10, 3) := by decide +kernel
theorem dX8_sackOf_56 : decode cX8_sackOf 56 = .ok (.getfield 206, 3) := by decide +kernel
theorem dX8_sackOf_59 : decode cX8_sackOf 59 = .ok (.iload_n 1, 1) := by decide +kernel
theorem dX8_sackOf_60 : decode cX8_sackOf 60 = .ok (.aaload, 1) := by decide +kernel
theorem dX8_sackOf_61 : decode cX8_sackOf 61 = .ok (.getfield 215, 3) := by decide +kernel
theorem dX8_sackOf_64 : decode cX8_sackOf 64 = .ok (.ireturn, 1) := by decide +kernel
theorem dX8_wears_0 : decode cX8_wears 0 = .ok (.aload_n 0, 1) := by decide +kernel
theorem dX8_wears_1 : decode cX8_wears 1 = .ok (.getfield 10, 3) := by decide +kernel
theorem dX8_wears_4 : decode cX8_wears 4 = .ok (.iload_n 1, 1) := by decide +kernel
theorem dX8_wears_5 : decode cX8_wears 5 = .ok (.invokevirtual 126, 3) := by decide +kernel
theorem dX8_wears_8 : decode cX8_wears 8 = .ok (.ifCond .eq 14, 3) := by decide +kernel
theorem dX8_wears_11 : decode cX8_wears 11 = .ok (.aload_n 0, 1) := by decide +kernel
theorem dX8_wears_12 : decode cX8_wears 12 = .ok (.getfield 10, 3) := by decide +kernel
theorem dX8_wears_15 : decode cX8_wears 15 = .ok (.iload_n 2, 1) := by decide +kernel
theorem dX8_wears_16 : decode cX8_wears 16 = .ok (.invokevirtual 203, 3) := by decide +kernel
theorem dX8_wears_19 : decode cX8_wears 19 = .ok (.ifCond .ne 9, 3) := by decide +kernel
theorem dX8_wears_22 : decode cX8_wears 22 = .ok (.aload_n 0, 1) := by decide +kernel
theorem dX8_wears_23 : decode cX8_wears 23 = .ok (.iconst (-1), 1) := by decide +kernel
theorem dX8_wears_24 : decode cX8_wears 24 = .ok (.invokevirtual 79, 3) := by decide +kernel
theorem dX8_wears_27 : decode cX8_wears 27 = .ok (.ireturn, 1) := by decide +kernel
theorem dX8_wears_28 : decode cX8_wears 28 = .ok (.aload_n 0, 1) := by decide +kernel
theorem dX8_wears_29 : decode cX8_wears 29 = .ok (.getfield 10, 3) := by decide +kernel
theorem dX8_wears_32 : decode cX8_wears 32 = .ok (.getfield 138, 3) := by decide +kernel
theorem dX8_wears_35 : decode cX8_wears 35 = .ok (.iload_n 1, 1) := by decide +kernel
theorem dX8_wears_36 : decode cX8_wears 36 = .ok (.aaload, 1) := by decide +kernel
theorem dX8_wears_37 : decode cX8_wears 37 = .ok (.getfield 185, 3) := by decide +kernel
theorem dX8_wears_40 : decode cX8_wears 40 = .ok (.istore_n 3, 1) := by decide +kernel
theorem dX8_wears_41 : decode cX8_wears 41 = .ok (.aload_n 0, 1) := by decide +kernel
theorem dX8_wears_42 : decode cX8_wears 42 = .ok (.getfield 10, 3) := by decide +kernel
theorem dX8_wears_45 : decode cX8_wears 45 = .ok (.getfield 138, 3) := by decide +kernel
theorem dX8_wears_48 : decode cX8_wears 48 = .ok (.iload_n 1, 1) := by decide +kernel
theorem dX8_wears_49 : decode cX8_wears 49 = .ok (.aaload, 1) := by decide +kernel
theorem dX8_wears_50 : decode cX8_wears 50 = .ok (.iload_n 2, 1) := by decide +kernel
theorem dX8_wears_51 : decode cX8_wears 51 = .ok (.putfield 185, 3) := by decide +kernel
theorem dX8_wears_54 : decode cX8_wears 54 = .ok (.iload_n 3, 1) := by decide +kernel
theorem dX8_wears_55 : decode cX8_wears 55 = .ok (.ireturn, 1) := by decide +kernel
theorem dX8_ahead_0 : decode cX8_ahead 0 = .ok (.aload_n 0, 1) := by decide +kernel
theorem dX8_ahead_1 : decode cX8_ahead 1 = .ok (.getfield 10, 3) := by decide +kernel
theorem dX8_ahead_4 : decode cX8_ahead 4 = .ok (.iload_n 1, 1) := by decide +kernel
theorem dX8_ahead_5 : decode cX8_ahead 5 = .ok (.invokevirtual 126, 3) := by decide +kernel
theorem dX8_ahead_8 : decode cX8_ahead 8 = .ok (.ifCond .ne 9, 3) := by decide +kernel
theorem dX8_ahead_11 : decode cX8_ahead 11 = .ok (.aload_n 0, 1) := by decide +kernel
theorem dX8_ahead_12 : decode cX8_ahead 12 = .ok (.iconst (-1), 1) := by decide +kernel
theorem dX8_ahead_13 : decode cX8_ahead 13 = .ok (.invokevirtual 79, 3) := by decide +kernel
theorem dX8_ahead_16 : decode cX8_ahead 16 = .ok (.ireturn, 1) := by decide +kernel
theorem dX8_ahead_17 : decode cX8_ahead 17 = .ok (.iload_n 2, 1) := by decide +kernel
theorem dX8_ahead_18 : decode cX8_ahead 18 = .ok (.ifCond .lt 9, 3) := by decide +kernel
theorem dX8_ahead_21 : decode cX8_ahead 21 = .ok (.iload_n 2, 1) := by decide +kernel
theorem dX8_ahead_22 : decode cX8_ahead 22 = .ok (.bipush 99, 2) := by decide +kernel
theorem dX8_ahead_24 : decode cX8_ahead 24 = .ok (.if_icmp .le 10, 3) := by decide +kernel
theorem dX8_ahead_27 : decode cX8_ahead 27 = .ok (.aload_n 0, 1) := by decide +kernel
theorem dX8_ahead_28 : decode cX8_ahead 28 = .ok (.bipush (-6), 2) := by decide +kernel
theorem dX8_ahead_30 : decode cX8_ahead 30 = .ok (.invokevirtual 79, 3) := by decide +kernel
theorem dX8_ahead_33 : decode cX8_ahead 33 = .ok (.ireturn, 1) := by decide +kernel
theorem dX8_ahead_34 : decode cX8_ahead 34 = .ok (.aload_n 0, 1) := by decide +kernel
theorem dX8_ahead_35 : decode cX8_ahead 35 = .ok (.getfield 10, 3) := by decide +kernel
theorem dX8_ahead_38 : decode cX8_ahead 38 = .ok (.getfield 138, 3) := by decide +kernel
theorem dX8_ahead_41 : decode cX8_ahead 41 = .ok (.iload_n 1, 1) := by decide +kernel
theorem dX8_ahead_42 : decode cX8_ahead 42 = .ok (.aaload, 1) := by decide +kernel
theorem dX8_ahead_43 : decode cX8_ahead 43 = .ok (.getfield 188, 3) := by decide +kernel
theorem dX8_ahead_46 : decode cX8_ahead 46 = .ok (.istore_n 3, 1) := by decide +kernel
theorem dX8_ahead_47 : decode cX8_ahead 47 = .ok (.aload_n 0, 1) := by decide +kernel
theorem dX8_ahead_48 : decode cX8_ahead 48 = .ok (.getfield 10, 3) := by decide +kernel
theorem dX8_ahead_51 : decode cX8_ahead 51 = .ok (.getfield 138, 3) := by decide +kernel
theorem dX8_ahead_54 : decode cX8_ahead 54 = .ok (.iload_n 1, 1) := by decide +kernel
theorem dX8_ahead_55 : decode cX8_ahead 55 = .ok (.aaload, 1) := by decide +kernel
theorem dX8_ahead_56 : decode cX8_ahead 56 = .ok (.iload_n 2, 1) := by decide +kernel
theorem dX8_ahead_57 : decode cX8_ahead 57 = .ok (.putfield 188, 3) := by decide +kernel
theorem dX8_ahead_60 : decode cX8_ahead 60 = .ok (.iload_n 3, 1) := by decide +kernel
theorem dX8_ahead_61 : decode cX8_ahead 61 = .ok (.ireturn, 1) := by decide +kernel
theorem dX8_ask_0 : decode cX8_ask 0 = .ok (.iload_n 1, 1) := by decide +kernel
theorem dX8_ask_1 : decode cX8_ask 1 = .ok (.invokestatic 218, 3) := by decide +kernel
theorem dX8_ask_4 : decode cX8_ask 4 = .ok (.ifCond .eq 21, 3) := by decide +kernel
theorem dX8_ask_7 : decode cX8_ask 7 = .ok (.iload_n 2, 1) := by decide +kernel
theorem dX8_ask_8 : decode cX8_ask 8 = .ok (.getstatic 221, 3) := by decide +kernel
theorem dX8_ask_11 : decode cX8_ask 11 = .ok (.iload_n 1, 1) := by decide +kernel
theorem dX8_ask_12 : decode cX8_ask 12 = .ok (.iaload, 1) := by decide +kernel
theorem dX8_ask_13 : decode cX8_ask 13 = .ok (.if_icmp .lt 12, 3) := by decide +kernel
theorem dX8_ask_16 : decode cX8_ask 16 = .ok (.iload_n 2, 1) := by decide +kernel
theorem dX8_ask_17 : decode cX8_ask 17 = .ok (.getstatic 224, 3) := by decide +kernel
theorem dX8_ask_20 : decode cX8_ask 20 = .ok (.iload_n 1, 1) := by decide +kernel
theorem dX8_ask_21 : decode cX8_ask 21 = .ok (.iaload, 1) := by decide +kernel
theorem dX8_ask_22 : decode cX8_ask 22 = .ok (.if_icmp .le 10, 3) := by decide +kernel
theorem dX8_ask_25 : decode cX8_ask 25 = .ok (.aload_n 0, 1) := by decide +kernel
theorem dX8_ask_26 : decode cX8_ask 26 = .ok (.bipush (-6), 2) := by decide +kernel
theorem dX8_ask_28 : decode cX8_ask 28 = .ok (.invokevirtual 79, 3) := by decide +kernel
theorem dX8_ask_31 : decode cX8_ask 31 = .ok (.ireturn, 1) := by decide +kernel
theorem dX8_ask_32 : decode cX8_ask 32 = .ok (.aload_n 0, 1) := by decide +kernel
theorem dX8_ask_33 : decode cX8_ask 33 = .ok (.getfield 10, 3) := by decide +kernel
theorem dX8_ask_36 : decode cX8_ask 36 = .ok (.getfield 227, 3) := by decide +kernel
theorem dX8_ask_39 : decode cX8_ask 39 = .ok (.iload_n 1, 1) := by decide +kernel
theorem dX8_ask_40 : decode cX8_ask 40 = .ok (.iaload, 1) := by decide +kernel
theorem dX8_ask_41 : decode cX8_ask 41 = .ok (.istore_n 3, 1) := by decide +kernel
theorem dX8_ask_42 : decode cX8_ask 42 = .ok (.aload_n 0, 1) := by decide +kernel
theorem dX8_ask_43 : decode cX8_ask 43 = .ok (.getfield 10, 3) := by decide +kernel
theorem dX8_ask_46 : decode cX8_ask 46 = .ok (.iload_n 1, 1) := by decide +kernel
theorem dX8_ask_47 : decode cX8_ask 47 = .ok (.iload_n 2, 1) := by decide +kernel
theorem dX8_ask_48 : decode cX8_ask 48 = .ok (.invokevirtual 230, 3) := by decide +kernel
theorem dX8_ask_51 : decode cX8_ask 51 = .ok (.iload_n 3, 1) := by decide +kernel
theorem dX8_ask_52 : decode cX8_ask 52 = .ok (.ireturn, 1) := by decide +kernel
theorem dX8_roll_0 : decode cX8_roll 0 = .ok (.aload_n 0, 1) := by decide +kernel
theorem dX8_roll_1 : decode cX8_roll 1 = .ok (.getfield 10, 3) := by decide +kernel
theorem dX8_roll_4 : decode cX8_roll 4 = .ok (.getfield 233, 3) := by decide +kernel
theorem dX8_roll_7 : decode cX8_roll 7 = .ok (.istore_n 2, 1) := by decide +kernel
theorem dX8_roll_8 : decode cX8_roll 8 = .ok (.aload_n 0, 1) := by decide +kernel
theorem dX8_roll_9 : decode cX8_roll 9 = .ok (.getfield 10, 3) := by decide +kernel
theorem dX8_roll_12 : decode cX8_roll 12 = .ok (.iload_n 1, 1) := by decide +kernel
theorem dX8_roll_13 : decode cX8_roll 13 = .ok (.putfield 233, 3) := by decide +kernel
theorem dX8_roll_16 : decode cX8_roll 16 = .ok (.iload_n 2, 1) := by decide +kernel
theorem dX8_roll_17 : decode cX8_roll 17 = .ok (.invokestatic 237, 3) := by decide +kernel
theorem dX8_roll_20 : decode cX8_roll 20 = .ok (.ireturn, 1) := by decide +kernel
theorem dX8_field_0 : decode cX8_field 0 = .ok (.aload_n 0, 1) := by decide +kernel
theorem dX8_field_1 : decode cX8_field 1 = .ok (.iload_n 1, 1) := by decide +kernel
theorem dX8_field_2 : decode cX8_field 2 = .ok (.invokevirtual 87, 3) := by decide +kernel
theorem dX8_field_5 : decode cX8_field 5 = .ok (.istore_n 2, 1) := by decide +kernel
theorem dX8_field_6 : decode cX8_field 6 = .ok (.iload_n 2, 1) := by decide +kernel
theorem dX8_field_7 : decode cX8_field 7 = .ok (.ifCond .eq 9, 3) := by decide +kernel
theorem dX8_field_10 : decode cX8_field 10 = .ok (.aload_n 0, 1) := by decide +kernel
theorem dX8_field_11 : decode cX8_field 11 = .ok (.iload_n 2, 1) := by decide +kernel
theorem dX8_field_12 : decode cX8_field 12 = .ok (.invokevirtual 79, 3) := by decide +kernel
theorem dX8_field_15 : decode cX8_field 15 = .ok (.ireturn, 1) := by decide +kernel
theorem dX8_field_16 : decode cX8_field 16 = .ok (.aload_n 0, 1) := by decide +kernel
theorem dX8_field_17 : decode cX8_field 17 = .ok (.getfield 16, 3) := by decide +kernel
theorem dX8_field_20 : decode cX8_field 20 = .ok (.aload_n 0, 1) := by decide +kernel
theorem dX8_field_21 : decode cX8_field 21 = .ok (.getfield 10, 3) := by decide +kernel
theorem dX8_field_24 : decode cX8_field 24 = .ok (.invokevirtual 241, 3) := by decide +kernel
theorem dX8_field_27 : decode cX8_field 27 = .ok (.aload_n 0, 1) := by decide +kernel
theorem dX8_field_28 : decode cX8_field 28 = .ok (.getfield 42, 3) := by decide +kernel
theorem dX8_field_31 : decode cX8_field 31 = .ok (.aload_n 0, 1) := by decide +kernel
theorem dX8_field_32 : decode cX8_field 32 = .ok (.getfield 24, 3) := by decide +kernel
theorem dX8_field_35 : decode cX8_field 35 = .ok (.iload_n 1, 1) := by decide +kernel
theorem dX8_field_36 : decode cX8_field 36 = .ok (.aaload, 1) := by decide +kernel
theorem dX8_field_37 : decode cX8_field 37 = .ok (.aload_n 0, 1) := by decide +kernel
theorem dX8_field_38 : decode cX8_field 38 = .ok (.getfield 16, 3) := by decide +kernel
theorem dX8_field_41 : decode cX8_field 41 = .ok (.invokevirtual 244, 3) := by decide +kernel
theorem dX8_field_44 : decode cX8_field 44 = .ok (.istore_n 3, 1) := by decide +kernel
theorem dX8_field_45 : decode cX8_field 45 = .ok (.aload_n 0, 1) := by decide +kernel
theorem dX8_field_46 : decode cX8_field 46 = .ok (.aload_n 0, 1) := by decide +kernel
theorem dX8_field_47 : decode cX8_field 47 = .ok (.getfield 42, 3) := by decide +kernel
theorem dX8_field_50 : decode cX8_field 50 = .ok (.getfield 248, 3) := by decide +kernel
theorem dX8_field_53 : decode cX8_field 53 = .ok (.putfield 70, 3) := by decide +kernel
theorem dX8_field_56 : decode cX8_field 56 = .ok (.aload_n 0, 1) := by decide +kernel
theorem dX8_field_57 : decode cX8_field 57 = .ok (.getfield 70, 3) := by decide +kernel
theorem dX8_field_60 : decode cX8_field 60 = .ok (.iconst (-1), 1) := by decide +kernel
theorem dX8_field_61 : decode cX8_field 61 = .ok (.if_icmp .eq 10, 3) := by decide +kernel
theorem dX8_field_64 : decode cX8_field 64 = .ok (.aload_n 0, 1) := by decide +kernel
theorem dX8_field_65 : decode cX8_field 65 = .ok (.bipush (-6), 2) := by decide +kernel
theorem dX8_field_67 : decode cX8_field 67 = .ok (.invokevirtual 79, 3) := by decide +kernel
theorem dX8_field_70 : decode cX8_field 70 = .ok (.ireturn, 1) := by decide +kernel
theorem dX8_field_71 : decode cX8_field 71 = .ok (.aload_n 0, 1) := by decide +kernel
theorem dX8_field_72 : decode cX8_field 72 = .ok (.getfield 10, 3) := by decide +kernel
theorem dX8_field_75 : decode cX8_field 75 = .ok (.aload_n 0, 1) := by decide +kernel
theorem dX8_field_76 : decode cX8_field 76 = .ok (.getfield 16, 3) := by decide +kernel
theorem dX8_field_79 : decode cX8_field 79 = .ok (.invokevirtual 241, 3) := by decide +kernel
theorem dX8_field_82 : decode cX8_field 82 = .ok (.iload_n 3, 1) := by decide +kernel
theorem dX8_field_83 : decode cX8_field 83 = .ok (.ireturn, 1) := by decide +kernel
theorem dX8_fault_0 : decode cX8_fault 0 = .ok (.aload_n 0, 1) := by decide +kernel
theorem dX8_fault_1 : decode cX8_fault 1 = .ok (.getfield 70, 3) := by decide +kernel
theorem dX8_fault_4 : decode cX8_fault 4 = .ok (.ireturn, 1) := by decide +kernel
theorem dX8_behind_0 : decode cX8_behind 0 = .ok (.aload_n 0, 1) := by decide +kernel
theorem dX8_behind_1 : decode cX8_behind 1 = .ok (.getfield 10, 3) := by decide +kernel
theorem dX8_behind_4 : decode cX8_behind 4 = .ok (.iload_n 1, 1) := by decide +kernel
theorem dX8_behind_5 : decode cX8_behind 5 = .ok (.invokevirtual 126, 3) := by decide +kernel
theorem dX8_behind_8 : decode cX8_behind 8 = .ok (.ifCond .ne 9, 3) := by decide +kernel
theorem dX8_behind_11 : decode cX8_behind 11 = .ok (.aload_n 0, 1) := by decide +kernel
theorem dX8_behind_12 : decode cX8_behind 12 = .ok (.iconst (-1), 1) := by decide +kernel
theorem dX8_behind_13 : decode cX8_behind 13 = .ok (.invokevirtual 79, 3) := by decide +kernel
theorem dX8_behind_16 : decode cX8_behind 16 = .ok (.ireturn, 1) := by decide +kernel
theorem dX8_behind_17 : decode cX8_behind 17 = .ok (.iload_n 3, 1) := by decide +kernel
theorem dX8_behind_18 : decode cX8_behind 18 = .ok (.ifCond .lt 8, 3) := by decide +kernel
theorem dX8_behind_21 : decode cX8_behind 21 = .ok (.iload_n 3, 1) := by decide +kernel
theorem dX8_behind_22 : decode cX8_behind 22 = .ok (.iconst 4, 1) := by decide +kernel
theorem dX8_behind_23 : decode cX8_behind 23 = .ok (.if_icmp .le 10, 3) := by decide +kernel
theorem dX8_behind_26 : decode cX8_behind 26 = .ok (.aload_n 0, 1) := by decide +kernel
theorem dX8_behind_27 : decode cX8_behind 27 = .ok (.bipush (-5), 2) := by decide +kernel
theorem dX8_behind_29 : decode cX8_behind 29 = .ok (.invokevirtual 79, 3) := by decide +kernel
theorem dX8_behind_32 : decode cX8_behind 32 = .ok (.ireturn, 1) := by decide +kernel
theorem dX8_behind_33 : decode cX8_behind 33 = .ok (.iload_n 2, 1) := by decide +kernel
theorem dX8_behind_34 : decode cX8_behind 34 = .ok (.ifCond .lt 10, 3) := by decide +kernel
theorem dX8_behind_37 : decode cX8_behind 37 = .ok (.iload_n 2, 1) := by decide +kernel
theorem dX8_behind_38 : decode cX8_behind 38 = .ok (.sipush 999, 3) := by decide +kernel
theorem dX8_behind_41 : decode cX8_behind 41 = .ok (.if_icmp .le 10, 3) := by decide +kernel
theorem dX8_behind_44 : decode cX8_behind 44 = .ok (.aload_n 0, 1) := by decide +kernel
theorem dX8_behind_45 : decode cX8_behind 45 = .ok (.bipush (-6), 2) := by decide +kernel
theorem dX8_behind_47 : decode cX8_behind 47 = .ok (.invokevirtual 79, 3) := by decide +kernel
theorem dX8_behind_50 : decode cX8_behind 50 = .ok (.ireturn, 1) := by decide +kernel
theorem dX8_behind_51 : decode cX8_behind 51 = .ok (.aload_n 0, 1) := by decide +kernel
theorem dX8_behind_52 : decode cX8_behind 52 = .ok (.getfield 31, 3) := by decide +kernel
theorem dX8_behind_55 : decode cX8_behind 55 = .ok (.aload_n 0, 1) := by decide +kernel
theorem dX8_behind_56 : decode cX8_behind 56 = .ok (.getfield 10, 3) := by decide +kernel
theorem dX8_behind_59 : decode cX8_behind 59 = .ok (.iload_n 1, 1) := by decide +kernel
theorem dX8_behind_60 : decode cX8_behind 60 = .ok (.invokevirtual 167, 3) := by decide +kernel
theorem dX8_behind_63 : decode cX8_behind 63 = .ok (.aload_n 0, 1) := by decide +kernel
theorem dX8_behind_64 : decode cX8_behind 64 = .ok (.getfield 31, 3) := by decide +kernel
theorem dX8_behind_67 : decode cX8_behind 67 = .ok (.aload_n 0, 1) := by decide +kernel
theorem dX8_behind_68 : decode cX8_behind 68 = .ok (.getfield 10, 3) := by decide +kernel
theorem dX8_behind_71 : decode cX8_behind 71 = .ok (.invokevirtual 171, 3) := by decide +kernel
theorem dX8_behind_74 : decode cX8_behind 74 = .ok (.aload_n 0, 1) := by decide +kernel
theorem dX8_behind_75 : decode cX8_behind 75 = .ok (.getfield 31, 3) := by decide +kernel
theorem dX8_behind_78 : decode cX8_behind 78 = .ok (.iload_n 2, 1) := by decide +kernel
theorem dX8_behind_79 : decode cX8_behind 79 = .ok (.invokevirtual 251, 3) := by decide +kernel
theorem dX8_behind_82 : decode cX8_behind 82 = .ok (.iload_n 3, 1) := by decide +kernel
theorem dX8_behind_83 : decode cX8_behind 83 = .ok (.tableswitch 61 0 3 #[29, 37, 45, 53], 29) := by decide +kernel
theorem dX8_behind_112 : decode cX8_behind 112 = .ok (.aload_n 0, 1) := by decide +kernel
theorem dX8_behind_113 : decode cX8_behind 113 = .ok (.getfield 31, 3) := by decide +kernel
theorem dX8_behind_116 : decode cX8_behind 116 = .ok (.getfield 254, 3) := by decide +kernel
theorem dX8_behind_119 : decode cX8_behind 119 = .ok (.ireturn, 1) := by decide +kernel
theorem dX8_behind_120 : decode cX8_behind 120 = .ok (.aload_n 0, 1) := by decide +kernel
theorem dX8_behind_121 : decode cX8_behind 121 = .ok (.getfield 31, 3) := by decide +kernel
theorem dX8_behind_124 : decode cX8_behind 124 = .ok (.getfield 256, 3) := by decide +kernel
theorem dX8_behind_127 : decode cX8_behind 127 = .ok (.ireturn, 1) := by decide +kernel
theorem dX8_behind_128 : decode cX8_behind 128 = .ok (.aload_n 0, 1) := by decide +kernel
theorem dX8_behind_129 : decode cX8_behind 129 = .ok (.getfield 31, 3) := by decide +kernel
theorem dX8_behind_132 : decode cX8_behind 132 = .ok (.getfield 259, 3) := by decide +kernel
theorem dX8_behind_135 : decode cX8_behind 135 = .ok (.ireturn, 1) := by decide +kernel
theorem dX8_behind_136 : decode cX8_behind 136 = .ok (.aload_n 0, 1) := by decide +kernel
theorem dX8_behind_137 : decode cX8_behind 137 = .ok (.getfield 31, 3) := by decide +kernel
theorem dX8_behind_140 : decode cX8_behind 140 = .ok (.getfield 262, 3) := by decide +kernel
theorem dX8_behind_143 : decode cX8_behind 143 = .ok (.ireturn, 1) := by decide +kernel
theorem dX8_behind_144 : decode cX8_behind 144 = .ok (.aload_n 0, 1) := by decide +kernel
theorem dX8_behind_145 : decode cX8_behind 145 = .ok (.getfield 31, 3) := by decide +kernel
theorem dX8_behind_148 : decode cX8_behind 148 = .ok (.getfield 265, 3) := by decide +kernel
theorem dX8_behind_151 : decode cX8_behind 151 = .ok (.ireturn, 1) := by decide +kernel
theorem dX8_comesIn_0 : decode cX8_comesIn 0 = .ok (.aload_n 0, 1) := by decide +kernel
theorem dX8_comesIn_1 : decode cX8_comesIn 1 = .ok (.getfield 10, 3) := by decide +kernel
theorem dX8_comesIn_4 : decode cX8_comesIn 4 = .ok (.iload_n 1, 1) := by decide +kernel
theorem dX8_comesIn_5 : decode cX8_comesIn 5 = .ok (.invokevirtual 126, 3) := by decide +kernel
theorem dX8_comesIn_8 : decode cX8_comesIn 8 = .ok (.ifCond .eq 11, 3) := by decide +kernel
theorem dX8_comesIn_11 : decode cX8_comesIn 11 = .ok (.aload_n 0, 1) := by decide +kernel
theorem dX8_comesIn_12 : decode cX8_comesIn 12 = .ok (.iload_n 1, 1) := by decide +kernel
theorem dX8_comesIn_13 : decode cX8_comesIn 13 = .ok (.invokevirtual 268, 3) := by decide +kernel
theorem dX8_comesIn_16 : decode cX8_comesIn 16 = .ok (.goto 8, 3) := by decide +kernel
theorem dX8_comesIn_19 : decode cX8_comesIn 19 = .ok (.aload_n 0, 1) := by decide +kernel
theorem dX8_comesIn_20 : decode cX8_comesIn 20 = .ok (.iconst (-1), 1) := by decide +kernel
theorem dX8_comesIn_21 : decode cX8_comesIn 21 = .ok (.invokevirtual 79, 3) := by decide +kernel
theorem dX8_comesIn_24 : decode cX8_comesIn 24 = .ok (.ireturn, 1) := by decide +kernel
theorem dX8_wins_0 : decode cX8_wins 0 = .ok (.iload_n 1, 1) := by decide +kernel
theorem dX8_wins_1 : decode cX8_wins 1 = .ok (.ifCond .lt 18, 3) := by decide +kernel
theorem dX8_wins_4 : decode cX8_wins 4 = .ok (.iload_n 1, 1) := by decide +kernel
theorem dX8_wins_5 : decode cX8_wins 5 = .ok (.iconst 1, 1) := by decide +kernel
theorem dX8_wins_6 : decode cX8_wins 6 = .ok (.if_icmp .gt 13, 3) := by decide +kernel
theorem dX8_wins_9 : decode cX8_wins 9 = .ok (.aload_n 0, 1) := by decide +kernel
theorem dX8_wins_10 : decode cX8_wins 10 = .ok (.getfield 10, 3) := by decide +kernel
theorem dX8_wins_13 : decode cX8_wins 13 = .ok (.getfield 154, 3) := by decide +kernel
theorem dX8_wins_16 : decode cX8_wins 16 = .ok (.ifCond .ne 10, 3) := by decide +kernel
theorem dX8_wins_19 : decode cX8_wins 19 = .ok (.aload_n 0, 1) := by decide +kernel
theorem dX8_wins_20 : decode cX8_wins 20 = .ok (.bipush (-5), 2) := by decide +kernel
theorem dX8_wins_22 : decode cX8_wins 22 = .ok (.invokevirtual 79, 3) := by decide +kernel
theorem dX8_wins_25 : decode cX8_wins 25 = .ok (.ireturn, 1) := by decide +kernel
theorem dX8_wins_26 : decode cX8_wins 26 = .ok (.aload_n 0, 1) := by decide +kernel
theorem dX8_wins_27 : decode cX8_wins 27 = .ok (.invokevirtual 271, 3) := by decide +kernel
theorem dX8_wins_30 : decode cX8_wins 30 = .ok (.aload_n 0, 1) := by decide +kernel
theorem dX8_wins_31 : decode cX8_wins 31 = .ok (.invokevirtual 274, 3) := by decide +kernel
theorem dX8_wins_34 : decode cX8_wins 34 = .ok (.istore_n 2, 1) := by decide +kernel
theorem dX8_wins_35 : decode cX8_wins 35 = .ok (.iload_n 1, 1) := by decide +kernel
theorem dX8_wins_36 : decode cX8_wins 36 = .ok (.ifCond .ne 7, 3) := by decide +kernel
theorem dX8_wins_39 : decode cX8_wins 39 = .ok (.iload_n 2, 1) := by decide +kernel
theorem dX8_wins_40 : decode cX8_wins 40 = .ok (.goto 8, 3) := by decide +kernel
theorem dX8_wins_43 : decode cX8_wins 43 = .ok (.aload_n 0, 1) := by decide +kernel
theorem dX8_wins_44 : decode cX8_wins 44 = .ok (.iload_n 2, 1) := by decide +kernel
theorem dX8_wins_45 : decode cX8_wins 45 = .ok (.invokevirtual 278, 3) := by decide +kernel
theorem dX8_wins_48 : decode cX8_wins 48 = .ok (.ireturn, 1) := by decide +kernel
theorem dX8_best_0 : decode cX8_best 0 = .ok (.aload_n 0, 1) := by decide +kernel
theorem dX8_best_1 : decode cX8_best 1 = .ok (.getfield 10, 3) := by decide +kernel
theorem dX8_best_4 : decode cX8_best 4 = .ok (.iload_n 1, 1) := by decide +kernel
theorem dX8_best_5 : decode cX8_best 5 = .ok (.invokevirtual 126, 3) := by decide +kernel
theorem dX8_best_8 : decode cX8_best 8 = .ok (.ifCond .ne 9, 3) := by decide +kernel
theorem dX8_best_11 : decode cX8_best 11 = .ok (.aload_n 0, 1) := by decide +kernel
theorem dX8_best_12 : decode cX8_best 12 = .ok (.iconst (-1), 1) := by decide +kernel
theorem dX8_best_13 : decode cX8_best 13 = .ok (.invokevirtual 79, 3) := by decide +kernel
theorem dX8_best_16 : decode cX8_best 16 = .ok (.ireturn, 1) := by decide +kernel
theorem dX8_best_17 : decode cX8_best 17 = .ok (.iload_n 2, 1) := by decide +kernel
theorem dX8_best_18 : decode cX8_best 18 = .ok (.ifCond .lt 23, 3) := by decide +kernel
theorem dX8_best_21 : decode cX8_best 21 = .ok (.iload_n 2, 1) := by decide +kernel
theorem dX8_best_22 : decode cX8_best 22 = .ok (.iconst 3, 1) := by decide +kernel
theorem dX8_best_23 : decode cX8_best 23 = .ok (.if_icmp .gt 18, 3) := by decide +kernel
theorem dX8_best_26 : decode cX8_best 26 = .ok (.iload_n 2, 1) := by decide +kernel
theorem dX8_best_27 : decode cX8_best 27 = .ok (.iconst 2, 1) := by decide +kernel
theorem dX8_best_28 : decode cX8_best 28 = .ok (.if_icmp .ne 20, 3) := by decide +kernel
theorem dX8_best_31 : decode cX8_best 31 = .ok (.aload_n 0, 1) := by decide +kernel
theorem dX8_best_32 : decode cX8_best 32 = .ok (.getfield 10, 3) := by decide +kernel
theorem dX8_best_35 : decode cX8_best 35 = .ok (.getfield 161, 3) := by decide +kernel
theorem dX8_best_38 : decode cX8_best 38 = .ok (.ifCond .ne 10, 3) := by decide +kernel
theorem dX8_best_41 : decode cX8_best 41 = .ok (.aload_n 0, 1) := by decide +kernel
theorem dX8_best_42 : decode cX8_best 42 = .ok (.bipush (-5), 2) := by decide +kernel
theorem dX8_best_44 : decode cX8_best 44 = .ok (.invokevirtual 79, 3) := by decide +kernel
theorem dX8_best_47 : decode cX8_best 47 = .ok (.ireturn, 1) := by decide +kernel
theorem dX8_best_48 : decode cX8_best 48 = .ok (.iload_n 2, 1) := by decide +kernel
theorem dX8_best_49 : decode cX8_best 49 = .ok (.tableswitch 63 0 2 #[27, 33, 57], 27) := by decide +kernel
theorem dX8_best_76 : decode cX8_best 76 = .ok (.aload_n 0, 1) := by decide +kernel
theorem dX8_best_77 : decode cX8_best 77 = .ok (.iload_n 1, 1) := by decide +kernel
theorem dX8_best_78 : decode cX8_best 78 = .ok (.invokevirtual 281, 3) := by decide +kernel
theorem dX8_best_81 : decode cX8_best 81 = .ok (.ireturn, 1) := by decide +kernel
theorem dX8_best_82 : decode cX8_best 82 = .ok (.aload_n 0, 1) := by decide +kernel
theorem dX8_best_83 : decode cX8_best 83 = .ok (.iload_n 1, 1) := by decide +kernel
theorem dX8_best_84 : decode cX8_best 84 = .ok (.iconst 3, 1) := by decide +kernel
theorem dX8_best_85 : decode cX8_best 85 = .ok (.invokevirtual 284, 3) := by decide +kernel
theorem dX8_best_88 : decode cX8_best 88 = .ok (.aload_n 0, 1) := by decide +kernel
theorem dX8_best_89 : decode cX8_best 89 = .ok (.iload_n 1, 1) := by decide +kernel
theorem dX8_best_90 : decode cX8_best 90 = .ok (.iconst 5, 1) := by decide +kernel
theorem dX8_best_91 : decode cX8_best 91 = .ok (.invokevirtual 284, 3) := by decide +kernel
theorem dX8_best_94 : decode cX8_best 94 = .ok (.if_icmp .ge 7, 3) := by decide +kernel
theorem dX8_best_97 : decode cX8_best 97 = .ok (.iconst 1, 1) := by decide +kernel
theorem dX8_best_98 : decode cX8_best 98 = .ok (.goto 4, 3) := by decide +kernel
theorem dX8_best_101 : decode cX8_best 101 = .ok (.iconst 0, 1) := by decide +kernel
theorem dX8_best_102 : decode cX8_best 102 = .ok (.invokestatic 237, 3) := by decide +kernel
theorem dX8_best_105 : decode cX8_best 105 = .ok (.ireturn, 1) := by decide +kernel
theorem dX8_best_106 : decode cX8_best 106 = .ok (.aload_n 0, 1) := by decide +kernel
theorem dX8_best_107 : decode cX8_best 107 = .ok (.iload_n 1, 1) := by decide +kernel
theorem dX8_best_108 : decode cX8_best 108 = .ok (.invokevirtual 287, 3) := by decide +kernel
theorem dX8_best_111 : decode cX8_best 111 = .ok (.ireturn, 1) := by decide +kernel
theorem dX8_best_112 : decode cX8_best 112 = .ok (.aload_n 0, 1) := by decide +kernel
theorem dX8_best_113 : decode cX8_best 113 = .ok (.iload_n 1, 1) := by decide +kernel
theorem dX8_best_114 : decode cX8_best 114 = .ok (.iconst 1, 1) := by decide +kernel
theorem dX8_best_115 : decode cX8_best 115 = .ok (.invokevirtual 290, 3) := by decide +kernel
theorem dX8_best_118 : decode cX8_best 118 = .ok (.aload_n 0, 1) := by decide +kernel
theorem dX8_best_119 : decode cX8_best 119 = .ok (.iload_n 1, 1) := by decide +kernel
theorem dX8_best_120 : decode cX8_best 120 = .ok (.iconst 0, 1) := by decide +kernel
theorem dX8_best_121 : decode cX8_best 121 = .ok (.invokevirtual 290, 3) := by decide +kernel
theorem dX8_best_124 : decode cX8_best 124 = .ok (.if_icmp .ge 7, 3) := by decide +kernel
theorem dX8_best_127 : decode cX8_best 127 = .ok (.iconst 1, 1) := by decide +kernel
theorem dX8_best_128 : decode cX8_best 128 = .ok (.goto 4, 3) := by decide +kernel
theorem dX8_best_131 : decode cX8_best 131 = .ok (.iconst 0, 1) := by decide +kernel
theorem dX8_best_132 : decode cX8_best 132 = .ok (.invokestatic 237, 3) := by decide +kernel
theorem dX8_best_135 : decode cX8_best 135 = .ok (.ireturn, 1) := by decide +kernel
theorem dX8_given_0 : decode cX8_given 0 = .ok (.iload_n 1, 1) := by decide +kernel
theorem dX8_given_1 : decode cX8_given 1 = .ok (.ifCond .lt 40, 3) := by decide +kernel
theorem dX8_given_4 : decode cX8_given 4 = .ok (.iload_n 1, 1) := by decide +kernel
theorem dX8_given_5 : decode cX8_given 5 = .ok (.iconst 2, 1) := by decide +kernel
theorem dX8_given_6 : decode cX8_given 6 = .ok (.if_icmp .gt 35, 3) := by decide +kernel
theorem dX8_given_9 : decode cX8_given 9 = .ok (.iload_n 2, 1) := by decide +kernel
theorem dX8_given_10 : decode cX8_given 10 = .ok (.iconst 1, 1) := by decide +kernel
theorem dX8_given_11 : decode cX8_given 11 = .ok (.if_icmp .lt 30, 3) := by decide +kernel
theorem dX8_given_14 : decode cX8_given 14 = .ok (.iload_n 2, 1) := by decide +kernel
theorem dX8_given_15 : decode cX8_given 15 = .ok (.iconst 5, 1) := by decide +kernel
theorem dX8_given_16 : decode cX8_given 16 = .ok (.if_icmp .gt 25, 3) := by decide +kernel
theorem dX8_given_19 : decode cX8_given 19 = .ok (.iload_n 2, 1) := by decide +kernel
theorem dX8_given_20 : decode cX8_given 20 = .ok (.aload_n 0, 1) := by decide +kernel
theorem dX8_given_21 : decode cX8_given 21 = .ok (.getfield 10, 3) := by decide +kernel
theorem dX8_given_24 : decode cX8_given 24 = .ok (.getfield 154, 3) := by decide +kernel
theorem dX8_given_27 : decode cX8_given 27 = .ok (.if_icmp .gt 14, 3) := by decide +kernel
theorem dX8_given_30 : decode cX8_given 30 = .ok (.iload_n 2, 1) := by decide +kernel
theorem dX8_given_31 : decode cX8_given 31 = .ok (.aload_n 0, 1) := by decide +kernel
theorem dX8_given_32 : decode cX8_given 32 = .ok (.getfield 10, 3) := by decide +kernel
theorem dX8_given_35 : decode cX8_given 35 = .ok (.getfield 161, 3) := by decide +kernel
theorem dX8_given_38 : decode cX8_given 38 = .ok (.if_icmp .le 10, 3) := by decide +kernel
theorem dX8_given_41 : decode cX8_given 41 = .ok (.aload_n 0, 1) := by decide +kernel
theorem dX8_given_42 : decode cX8_given 42 = .ok (.bipush (-6), 2) := by decide +kernel
theorem dX8_given_44 : decode cX8_given 44 = .ok (.invokevirtual 79, 3) := by decide +kernel
theorem dX8_given_47 : decode cX8_given 47 = .ok (.ireturn, 1) := by decide +kernel
theorem dX8_given_48 : decode cX8_given 48 = .ok (.iload_n 3, 1) := by decide +kernel
theorem dX8_given_49 : decode cX8_given 49 = .ok (.iconst (-1), 1) := by decide +kernel
theorem dX8_given_50 : decode cX8_given 50 = .ok (.if_icmp .eq 19, 3) := by decide +kernel
theorem dX8_given_53 : decode cX8_given 53 = .ok (.iload_n 3, 1) := by decide +kernel
theorem dX8_given_54 : decode cX8_given 54 = .ok (.ifCond .lt 8, 3) := by decide +kernel
theorem dX8_given_57 : decode cX8_given 57 = .ok (.iload_n 3, 1) := by decide +kernel
theorem dX8_given_58 : decode cX8_given 58 = .ok (.iload_n 2, 1) := by decide +kernel
theorem dX8_given_59 : decode cX8_given 59 = .ok (.if_icmp .lt 10, 3) := by decide +kernel
theorem dX8_given_62 : decode cX8_given 62 = .ok (.aload_n 0, 1) := by decide +kernel
theorem dX8_given_63 : decode cX8_given 63 = .ok (.bipush (-5), 2) := by decide +kernel
theorem dX8_given_65 : decode cX8_given 65 = .ok (.invokevirtual 79, 3) := by decide +kernel
theorem dX8_given_68 : decode cX8_given 68 = .ok (.ireturn, 1) := by decide +kernel
theorem dX8_given_69 : decode cX8_given 69 = .ok (.iconst 0, 1) := by decide +kernel
theorem dX8_given_70 : decode cX8_given 70 = .ok (.istore 4, 2) := by decide +kernel
theorem dX8_given_72 : decode cX8_given 72 = .ok (.iload 4, 2) := by decide +kernel
theorem dX8_given_74 : decode cX8_given 74 = .ok (.iload_n 2, 1) := by decide +kernel
theorem dX8_given_75 : decode cX8_given 75 = .ok (.if_icmp .ge 49, 3) := by decide +kernel
theorem dX8_given_78 : decode cX8_given 78 = .ok (.iconst 0, 1) := by decide +kernel
theorem dX8_given_79 : decode cX8_given 79 = .ok (.istore 5, 2) := by decide +kernel
theorem dX8_given_81 : decode cX8_given 81 = .ok (.iload 5, 2) := by decide +kernel
theorem dX8_given_83 : decode cX8_given 83 = .ok (.aload_n 0, 1) := by decide +kernel
theorem dX8_given_84 : decode cX8_given 84 = .ok (.getfield 10, 3) := by decide +kernel
theorem dX8_given_87 : decode cX8_given 87 = .ok (.getfield 161, 3) := by decide +kernel
theorem dX8_given_90 : decode cX8_given 90 = .ok (.if_icmp .ge 28, 3) := by decide +kernel
theorem dX8_given_93 : decode cX8_given 93 = .ok (.aload_n 0, 1) := by decide +kernel
theorem dX8_given_94 : decode cX8_given 94 = .ok (.getfield 49, 3) := by decide +kernel
theorem dX8_given_97 : decode cX8_given 97 = .ok (.iload 4, 2) := by decide +kernel
theorem dX8_given_99 : decode cX8_given 99 = .ok (.iload 5, 2) := by decide +kernel
theorem dX8_given_101 : decode cX8_given 101 = .ok (.aload_n 0, 1) := by decide +kernel
theorem dX8_given_102 : decode cX8_given 102 = .ok (.iload 4, 2) := by decide +kernel
theorem dX8_given_104 : decode cX8_given 104 = .ok (.iload 5, 2) := by decide +kernel
theorem dX8_given_106 : decode cX8_given 106 = .ok (.invokevirtual 294, 3) := by decide +kernel
theorem dX8_given_109 : decode cX8_given 109 = .ok (.invokevirtual 297, 3) := by decide +kernel
theorem dX8_given_112 : decode cX8_given 112 = .ok (.iinc 5 1, 3) := by decide +kernel
theorem dX8_given_115 : decode cX8_given 115 = .ok (.goto (-34), 3) := by decide +kernel
theorem dX8_given_118 : decode cX8_given 118 = .ok (.iinc 4 1, 3) := by decide +kernel
theorem dX8_given_121 : decode cX8_given 121 = .ok (.goto (-49), 3) := by decide +kernel
theorem dX8_given_124 : decode cX8_given 124 = .ok (.aload_n 0, 1) := by decide +kernel
theorem dX8_given_125 : decode cX8_given 125 = .ok (.getfield 49, 3) := by decide +kernel
theorem dX8_given_128 : decode cX8_given 128 = .ok (.iload_n 1, 1) := by decide +kernel
theorem dX8_given_129 : decode cX8_given 129 = .ok (.iload_n 2, 1) := by decide +kernel
theorem dX8_given_130 : decode cX8_given 130 = .ok (.aload_n 0, 1) := by decide +kernel
theorem dX8_given_131 : decode cX8_given 131 = .ok (.getfield 10, 3) := by decide +kernel
theorem dX8_given_134 : decode cX8_given 134 = .ok (.getfield 161, 3) := by decide +kernel
theorem dX8_given_137 : decode cX8_given 137 = .ok (.invokevirtual 301, 3) := by decide +kernel
theorem dX8_given_140 : decode cX8_given 140 = .ok (.iload_n 3, 1) := by decide +kernel
theorem dX8_given_141 : decode cX8_given 141 = .ok (.iconst (-1), 1) := by decide +kernel
theorem dX8_given_142 : decode cX8_given 142 = .ok (.if_icmp .ne 13, 3) := by decide +kernel
theorem dX8_given_145 : decode cX8_given 145 = .ok (.aload_n 0, 1) := by decide +kernel
theorem dX8_given_146 : decode cX8_given 146 = .ok (.getfield 49, 3) := by decide +kernel
theorem dX8_given_149 : decode cX8_given 149 = .ok (.getfield 304, 3) := by decide +kernel
theorem dX8_given_152 : decode cX8_given 152 = .ok (.goto 12, 3) := by decide +kernel
theorem dX8_given_155 : decode cX8_given 155 = .ok (.aload_n 0, 1) := by decide +kernel
theorem dX8_given_156 : decode cX8_given 156 = .ok (.getfield 49, 3) := by decide +kernel
theorem dX8_given_159 : decode cX8_given 159 = .ok (.getfield 307, 3) := by decide +kernel
theorem dX8_given_162 : decode cX8_given 162 = .ok (.iload_n 3, 1) := by decide +kernel
theorem dX8_given_163 : decode cX8_given 163 = .ok (.iaload, 1) := by decide +kernel
theorem dX8_given_164 : decode cX8_given 164 = .ok (.ireturn, 1) := by decide +kernel
theorem dX8_two_0 : decode cX8_two 0 = .ok (.aload_n 0, 1) := by decide +kernel
theorem dX8_two_1 : decode cX8_two 1 = .ok (.getfield 10, 3) := by decide +kernel
theorem dX8_two_4 : decode cX8_two 4 = .ok (.iload_n 1, 1) := by decide +kernel
theorem dX8_two_5 : decode cX8_two 5 = .ok (.invokevirtual 126, 3) := by decide +kernel
theorem dX8_two_8 : decode cX8_two 8 = .ok (.ifCond .eq 25, 3) := by decide +kernel
theorem dX8_two_11 : decode cX8_two 11 = .ok (.aload_n 0, 1) := by decide +kernel
theorem dX8_two_12 : decode cX8_two 12 = .ok (.getfield 10, 3) := by decide +kernel
theorem dX8_two_15 : decode cX8_two 15 = .ok (.iload_n 2, 1) := by decide +kernel
theorem dX8_two_16 : decode cX8_two 16 = .ok (.invokevirtual 126, 3) := by decide +kernel
theorem dX8_two_19 : decode cX8_two 19 = .ok (.ifCond .eq 14, 3) := by decide +kernel
theorem dX8_two_22 : decode cX8_two 22 = .ok (.aload_n 0, 1) := by decide +kernel
theorem dX8_two_23 : decode cX8_two 23 = .ok (.getfield 10, 3) := by decide +kernel
theorem dX8_two_26 : decode cX8_two 26 = .ok (.iload_n 3, 1) := by decide +kernel
theorem dX8_two_27 : decode cX8_two 27 = .ok (.invokevirtual 203, 3) := by decide +kernel
theorem dX8_two_30 : decode cX8_two 30 = .ok (.ifCond .ne 9, 3) := by decide +kernel
theorem dX8_two_33 : decode cX8_two 33 = .ok (.aload_n 0, 1) := by decide +kernel
theorem dX8_two_34 : decode cX8_two 34 = .ok (.iconst (-1), 1) := by decide +kernel
theorem dX8_two_35 : decode cX8_two 35 = .ok (.invokevirtual 79, 3) := by decide +kernel
theorem dX8_two_38 : decode cX8_two 38 = .ok (.ireturn, 1) := by decide +kernel
theorem dX8_two_39 : decode cX8_two 39 = .ok (.iload_n 1, 1) := by decide +kernel
theorem dX8_two_40 : decode cX8_two 40 = .ok (.iload_n 2, 1) := by decide +kernel
theorem dX8_two_41 : decode cX8_two 41 = .ok (.if_icmp .ne 12, 3) := by decide +kernel
theorem dX8_two_44 : decode cX8_two 44 = .ok (.aload_n 0, 1) := by decide +kernel
theorem dX8_two_45 : decode cX8_two 45 = .ok (.bipush (-6), 2) := by decide +kernel
theorem dX8_two_47 : decode cX8_two 47 = .ok (.invokevirtual 79, 3) := by decide +kernel
theorem dX8_two_50 : decode cX8_two 50 = .ok (.goto 10, 3) := by decide +kernel
theorem dX8_two_53 : decode cX8_two 53 = .ok (.aload_n 0, 1) := by decide +kernel
theorem dX8_two_54 : decode cX8_two 54 = .ok (.iload_n 1, 1) := by decide +kernel
theorem dX8_two_55 : decode cX8_two 55 = .ok (.iload_n 2, 1) := by decide +kernel
theorem dX8_two_56 : decode cX8_two 56 = .ok (.iload_n 3, 1) := by decide +kernel
theorem dX8_two_57 : decode cX8_two 57 = .ok (.invokevirtual 310, 3) := by decide +kernel
theorem dX8_two_60 : decode cX8_two 60 = .ok (.ireturn, 1) := by decide +kernel
theorem dX8_pair_0 : decode cX8_pair 0 = .ok (.aload_n 0, 1) := by decide +kernel
theorem dX8_pair_1 : decode cX8_pair 1 = .ok (.getfield 10, 3) := by decide +kernel
theorem dX8_pair_4 : decode cX8_pair 4 = .ok (.getfield 154, 3) := by decide +kernel
theorem dX8_pair_7 : decode cX8_pair 7 = .ok (.iconst 2, 1) := by decide +kernel
theorem dX8_pair_8 : decode cX8_pair 8 = .ok (.if_icmp .lt 13, 3) := by decide +kernel
theorem dX8_pair_11 : decode cX8_pair 11 = .ok (.aload_n 0, 1) := by decide +kernel
theorem dX8_pair_12 : decode cX8_pair 12 = .ok (.getfield 10, 3) := by decide +kernel
theorem dX8_pair_15 : decode cX8_pair 15 = .ok (.getfield 161, 3) := by decide +kernel
theorem dX8_pair_18 : decode cX8_pair 18 = .ok (.ifCond .ne 10, 3) := by decide +kernel
theorem dX8_pair_21 : decode cX8_pair 21 = .ok (.aload_n 0, 1) := by decide +kernel
theorem dX8_pair_22 : decode cX8_pair 22 = .ok (.bipush (-5), 2) := by decide +kernel
theorem dX8_pair_24 : decode cX8_pair 24 = .ok (.invokevirtual 79, 3) := by decide +kernel
theorem dX8_pair_27 : decode cX8_pair 27 = .ok (.ireturn, 1) := by decide +kernel
theorem dX8_pair_28 : decode cX8_pair 28 = .ok (.iconst (-1), 1) := by decide +kernel
theorem dX8_pair_29 : decode cX8_pair 29 = .ok (.istore_n 1, 1) := by decide +kernel
theorem dX8_pair_30 : decode cX8_pair 30 = .ok (.sipush 1000, 3) := by decide +kernel
theorem dX8_pair_33 : decode cX8_pair 33 = .ok (.istore_n 2, 1) := by decide +kernel
theorem dX8_pair_34 : decode cX8_pair 34 = .ok (.iconst 0, 1) := by decide +kernel
theorem dX8_pair_35 : decode cX8_pair 35 = .ok (.istore_n 3, 1) := by decide +kernel
theorem dX8_pair_36 : decode cX8_pair 36 = .ok (.iload_n 3, 1) := by decide +kernel
theorem dX8_pair_37 : decode cX8_pair 37 = .ok (.aload_n 0, 1) := by decide +kernel
theorem dX8_pair_38 : decode cX8_pair 38 = .ok (.getfield 10, 3) := by decide +kernel
theorem dX8_pair_41 : decode cX8_pair 41 = .ok (.getfield 154, 3) := by decide +kernel
theorem dX8_pair_44 : decode cX8_pair 44 = .ok (.if_icmp .ge 70, 3) := by decide +kernel
theorem dX8_pair_47 : decode cX8_pair 47 = .ok (.iload_n 3, 1) := by decide +kernel
theorem dX8_pair_48 : decode cX8_pair 48 = .ok (.iconst 1, 1) := by decide +kernel
theorem dX8_pair_49 : decode cX8_pair 49 = .ok (.iadd, 1) := by decide +kernel
theorem dX8_pair_50 : decode cX8_pair 50 = .ok (.istore 4, 2) := by decide +kernel
theorem dX8_pair_52 : decode cX8_pair 52 = .ok (.iload 4, 2) := by decide +kernel
theorem dX8_pair_54 : decode cX8_pair 54 = .ok (.aload_n 0, 1) := by decide +kernel
theorem dX8_pair_55 : decode cX8_pair 55 = .ok (.getfield 10, 3) := by decide +kernel
theorem dX8_pair_58 : decode cX8_pair 58 = .ok (.getfield 154, 3) := by decide +kernel
theorem dX8_pair_61 : decode cX8_pair 61 = .ok (.if_icmp .ge 47, 3) := by decide +kernel
theorem dX8_pair_64 : decode cX8_pair 64 = .ok (.aload_n 0, 1) := by decide +kernel
theorem dX8_pair_65 : decode cX8_pair 65 = .ok (.iload_n 3, 1) := by decide +kernel
theorem dX8_pair_66 : decode cX8_pair 66 = .ok (.iload 4, 2) := by decide +kernel
theorem dX8_pair_68 : decode cX8_pair 68 = .ok (.aload_n 0, 1) := by decide +kernel
theorem dX8_pair_69 : decode cX8_pair 69 = .ok (.getfield 10, 3) := by decide +kernel
theorem dX8_pair_72 : decode cX8_pair 72 = .ok (.getfield 138, 3) := by decide +kernel
theorem dX8_pair_75 : decode cX8_pair 75 = .ok (.iload_n 3, 1) := by decide +kernel
theorem dX8_pair_76 : decode cX8_pair 76 = .ok (.aaload, 1) := by decide +kernel
theorem dX8_pair_77 : decode cX8_pair 77 = .ok (.getfield 185, 3) := by decide +kernel
theorem dX8_pair_80 : decode cX8_pair 80 = .ok (.invokevirtual 310, 3) := by decide +kernel
theorem dX8_pair_83 : decode cX8_pair 83 = .ok (.istore 5, 2) := by decide +kernel
theorem dX8_pair_85 : decode cX8_pair 85 = .ok (.iload 5, 2) := by decide +kernel
theorem dX8_pair_87 : decode cX8_pair 87 = .ok (.iload_n 2, 1) := by decide +kernel
theorem dX8_pair_88 : decode cX8_pair 88 = .ok (.if_icmp .ge 14, 3) := by decide +kernel
theorem dX8_pair_91 : decode cX8_pair 91 = .ok (.iload 5, 2) := by decide +kernel
theorem dX8_pair_93 : decode cX8_pair 93 = .ok (.istore_n 2, 1) := by decide +kernel
theorem dX8_pair_94 : decode cX8_pair 94 = .ok (.bipush 100, 2) := by decide +kernel
theorem dX8_pair_96 : decode cX8_pair 96 = .ok (.iload_n 3, 1) := by decide +kernel
theorem dX8_pair_97 : decode cX8_pair 97 = .ok (.imul, 1) := by decide +kernel
theorem dX8_pair_98 : decode cX8_pair 98 = .ok (.iload 4, 2) := by decide +kernel
theorem dX8_pair_100 : decode cX8_pair 100 = .ok (.iadd, 1) := by decide +kernel
theorem dX8_pair_101 : decode cX8_pair 101 = .ok (.istore_n 1, 1) := by decide +kernel
theorem dX8_pair_102 : decode cX8_pair 102 = .ok (.iinc 4 1, 3) := by decide +kernel
theorem dX8_pair_105 : decode cX8_pair 105 = .ok (.goto (-53), 3) := by decide +kernel
theorem dX8_pair_108 : decode cX8_pair 108 = .ok (.iinc 3 1, 3) := by decide +kernel
theorem dX8_pair_111 : decode cX8_pair 111 = .ok (.goto (-75), 3) := by decide +kernel
theorem dX8_pair_114 : decode cX8_pair 114 = .ok (.iload_n 1, 1) := by decide +kernel
theorem dX8_pair_115 : decode cX8_pair 115 = .ok (.ireturn, 1) := by decide +kernel
theorem dX8_start_0 : decode cX8_start 0 = .ok (.aload_n 0, 1) := by decide +kernel
theorem dX8_start_1 : decode cX8_start 1 = .ok (.getfield 10, 3) := by decide +kernel
theorem dX8_start_4 : decode cX8_start 4 = .ok (.iload_n 1, 1) := by decide +kernel
theorem dX8_start_5 : decode cX8_start 5 = .ok (.invokevirtual 126, 3) := by decide +kernel
theorem dX8_start_8 : decode cX8_start 8 = .ok (.ifCond .eq 14, 3) := by decide +kernel
theorem dX8_start_11 : decode cX8_start 11 = .ok (.aload_n 0, 1) := by decide +kernel
theorem dX8_start_12 : decode cX8_start 12 = .ok (.getfield 10, 3) := by decide +kernel
theorem dX8_start_15 : decode cX8_start 15 = .ok (.iload_n 2, 1) := by decide +kernel
theorem dX8_start_16 : decode cX8_start 16 = .ok (.invokevirtual 126, 3) := by decide +kernel
theorem dX8_start_19 : decode cX8_start 19 = .ok (.ifCond .ne 10, 3) := by decide +kernel
theorem dX8_start_22 : decode cX8_start 22 = .ok (.aload_n 0, 1) := by decide +kernel
theorem dX8_start_23 : decode cX8_start 23 = .ok (.bipush (-11), 2) := by decide +kernel
theorem dX8_start_25 : decode cX8_start 25 = .ok (.invokevirtual 79, 3) := by decide +kernel
theorem dX8_start_28 : decode cX8_start 28 = .ok (.ireturn, 1) := by decide +kernel
theorem dX8_start_29 : decode cX8_start 29 = .ok (.aload_n 0, 1) := by decide +kernel
theorem dX8_start_30 : decode cX8_start 30 = .ok (.iload_n 1, 1) := by decide +kernel
theorem dX8_start_31 : decode cX8_start 31 = .ok (.aload_n 0, 1) := by decide +kernel
theorem dX8_start_32 : decode cX8_start 32 = .ok (.iload_n 2, 1) := by decide +kernel
theorem dX8_start_33 : decode cX8_start 33 = .ok (.invokevirtual 268, 3) := by decide +kernel
theorem dX8_start_36 : decode cX8_start 36 = .ok (.invokevirtual 313, 3) := by decide +kernel
theorem dX8_start_39 : decode cX8_start 39 = .ok (.ireturn, 1) := by decide +kernel
theorem dX8_atOnce_0 : decode cX8_atOnce 0 = .ok (.aload_n 0, 1) := by decide +kernel
theorem dX8_atOnce_1 : decode cX8_atOnce 1 = .ok (.getfield 10, 3) := by decide +kernel
theorem dX8_atOnce_4 : decode cX8_atOnce 4 = .ok (.getfield 154, 3) := by decide +kernel
theorem dX8_atOnce_7 : decode cX8_atOnce 7 = .ok (.ifCond .ne 5, 3) := by decide +kernel
theorem dX8_atOnce_10 : decode cX8_atOnce 10 = .ok (.iconst 0, 1) := by decide +kernel
theorem dX8_atOnce_11 : decode cX8_atOnce 11 = .ok (.ireturn, 1) := by decide +kernel
theorem dX8_atOnce_12 : decode cX8_atOnce 12 = .ok (.aload_n 0, 1) := by decide +kernel
theorem dX8_atOnce_13 : decode cX8_atOnce 13 = .ok (.invokevirtual 271, 3) := by decide +kernel
theorem dX8_atOnce_16 : decode cX8_atOnce 16 = .ok (.aload_n 0, 1) := by decide +kernel
theorem dX8_atOnce_17 : decode cX8_atOnce 17 = .ok (.getfield 60, 3) := by decide +kernel
theorem dX8_atOnce_20 : decode cX8_atOnce 20 = .ok (.aload_n 0, 1) := by decide +kernel
theorem dX8_atOnce_21 : decode cX8_atOnce 21 = .ok (.invokevirtual 274, 3) := by decide +kernel
theorem dX8_atOnce_24 : decode cX8_atOnce 24 = .ok (.iaload, 1) := by decide +kernel
theorem dX8_atOnce_25 : decode cX8_atOnce 25 = .ok (.istore_n 1, 1) := by decide +kernel
theorem dX8_atOnce_26 : decode cX8_atOnce 26 = .ok (.iconst 0, 1) := by decide +kernel
theorem dX8_atOnce_27 : decode cX8_atOnce 27 = .ok (.istore_n 2, 1) := by decide +kernel
theorem dX8_atOnce_28 : decode cX8_atOnce 28 = .ok (.iconst 0, 1) := by decide +kernel
theorem dX8_atOnce_29 : decode cX8_atOnce 29 = .ok (.istore_n 3, 1) := by decide +kernel
theorem dX8_atOnce_30 : decode cX8_atOnce 30 = .ok (.iload_n 3, 1) := by decide +kernel
theorem dX8_atOnce_31 : decode cX8_atOnce 31 = .ok (.aload_n 0, 1) := by decide +kernel
theorem dX8_atOnce_32 : decode cX8_atOnce 32 = .ok (.getfield 10, 3) := by decide +kernel
theorem dX8_atOnce_35 : decode cX8_atOnce 35 = .ok (.getfield 154, 3) := by decide +kernel
theorem dX8_atOnce_38 : decode cX8_atOnce 38 = .ok (.if_icmp .ge 30, 3) := by decide +kernel
theorem dX8_atOnce_41 : decode cX8_atOnce 41 = .ok (.aload_n 0, 1) := by decide +kernel
theorem dX8_atOnce_42 : decode cX8_atOnce 42 = .ok (.iload_n 3, 1) := by decide +kernel
theorem dX8_atOnce_43 : decode cX8_atOnce 43 = .ok (.iload_n 1, 1) := by decide +kernel
theorem dX8_atOnce_44 : decode cX8_atOnce 44 = .ok (.invokevirtual 313, 3) := by decide +kernel
theorem dX8_atOnce_47 : decode cX8_atOnce 47 = .ok (.istore 4, 2) := by decide +kernel
theorem dX8_atOnce_49 : decode cX8_atOnce 49 = .ok (.iload 4, 2) := by decide +kernel
theorem dX8_atOnce_51 : decode cX8_atOnce 51 = .ok (.iconst (-1), 1) := by decide +kernel
theorem dX8_atOnce_52 : decode cX8_atOnce 52 = .ok (.if_icmp .ne 5, 3) := by decide +kernel
theorem dX8_atOnce_55 : decode cX8_atOnce 55 = .ok (.iconst (-1), 1) := by decide +kernel
theorem dX8_atOnce_56 : decode cX8_atOnce 56 = .ok (.ireturn, 1) := by decide +kernel
theorem dX8_atOnce_57 : decode cX8_atOnce 57 = .ok (.iload_n 2, 1) := by decide +kernel
theorem dX8_atOnce_58 : decode cX8_atOnce 58 = .ok (.iload 4, 2) := by decide +kernel
theorem dX8_atOnce_60 : decode cX8_atOnce 60 = .ok (.iadd, 1) := by decide +kernel
theorem dX8_atOnce_61 : decode cX8_atOnce 61 = .ok (.istore_n 2, 1) := by decide +kernel
theorem dX8_atOnce_62 : decode cX8_atOnce 62 = .ok (.iinc 3 1, 3) := by decide +kernel
theorem dX8_atOnce_65 : decode cX8_atOnce 65 = .ok (.goto (-35), 3) := by decide +kernel
theorem dX8_atOnce_68 : decode cX8_atOnce 68 = .ok (.iload_n 2, 1) := by decide +kernel
theorem dX8_atOnce_69 : decode cX8_atOnce 69 = .ok (.ireturn, 1) := by decide +kernel
theorem dX8_heats_0 : decode cX8_heats 0 = .ok (.iload_n 2, 1) := by decide +kernel
theorem dX8_heats_1 : decode cX8_heats 1 = .ok (.ifCond .lt 18, 3) := by decide +kernel
theorem dX8_heats_4 : decode cX8_heats 4 = .ok (.iload_n 2, 1) := by decide +kernel
theorem dX8_heats_5 : decode cX8_heats 5 = .ok (.iconst 1, 1) := by decide +kernel
theorem dX8_heats_6 : decode cX8_heats 6 = .ok (.if_icmp .gt 13, 3) := by decide +kernel
theorem dX8_heats_9 : decode cX8_heats 9 = .ok (.aload_n 0, 1) := by decide +kernel
theorem dX8_heats_10 : decode cX8_heats 10 = .ok (.getfield 10, 3) := by decide +kernel
theorem dX8_heats_13 : decode cX8_heats 13 = .ok (.getfield 154, 3) := by decide +kernel
theorem dX8_heats_16 : decode cX8_heats 16 = .ok (.ifCond .ne 10, 3) := by decide +kernel
theorem dX8_heats_19 : decode cX8_heats 19 = .ok (.aload_n 0, 1) := by decide +kernel
theorem dX8_heats_20 : decode cX8_heats 20 = .ok (.bipush (-5), 2) := by decide +kernel
theorem dX8_heats_22 : decode cX8_heats 22 = .ok (.invokevirtual 79, 3) := by decide +kernel
theorem dX8_heats_25 : decode cX8_heats 25 = .ok (.ireturn, 1) := by decide +kernel
theorem dX8_heats_26 : decode cX8_heats 26 = .ok (.iload_n 1, 1) := by decide +kernel
theorem dX8_heats_27 : decode cX8_heats 27 = .ok (.iconst 2, 1) := by decide +kernel
theorem dX8_heats_28 : decode cX8_heats 28 = .ok (.if_icmp .lt 8, 3) := by decide +kernel
theorem dX8_heats_31 : decode cX8_heats 31 = .ok (.iload_n 1, 1) := by decide +kernel
theorem dX8_heats_32 : decode cX8_heats 32 = .ok (.iconst 4, 1) := by decide +kernel
theorem dX8_heats_33 : decode cX8_heats 33 = .ok (.if_icmp .le 10, 3) := by decide +kernel
theorem dX8_heats_36 : decode cX8_heats 36 = .ok (.aload_n 0, 1) := by decide +kernel
theorem dX8_heats_37 : decode cX8_heats 37 = .ok (.bipush (-6), 2) := by decide +kernel
theorem dX8_heats_39 : decode cX8_heats 39 = .ok (.invokevirtual 79, 3) := by decide +kernel
theorem dX8_heats_42 : decode cX8_heats 42 = .ok (.ireturn, 1) := by decide +kernel
theorem dX8_heats_43 : decode cX8_heats 43 = .ok (.aload_n 0, 1) := by decide +kernel
theorem dX8_heats_44 : decode cX8_heats 44 = .ok (.invokevirtual 271, 3) := by decide +kernel
theorem dX8_heats_47 : decode cX8_heats 47 = .ok (.iconst 0, 1) := by decide +kernel
theorem dX8_heats_48 : decode cX8_heats 48 = .ok (.istore_n 3, 1) := by decide +kernel
theorem dX8_heats_49 : decode cX8_heats 49 = .ok (.iload_n 3, 1) := by decide +kernel
theorem dX8_heats_50 : decode cX8_heats 50 = .ok (.aload_n 0, 1) := by decide +kernel
theorem dX8_heats_51 : decode cX8_heats 51 = .ok (.getfield 10, 3) := by decide +kernel
theorem dX8_heats_54 : decode cX8_heats 54 = .ok (.getfield 154, 3) := by decide +kernel
theorem dX8_heats_57 : decode cX8_heats 57 = .ok (.if_icmp .ge 16, 3) := by decide +kernel
theorem dX8_heats_60 : decode cX8_heats 60 = .ok (.aload_n 0, 1) := by decide +kernel
theorem dX8_heats_61 : decode cX8_heats 61 = .ok (.getfield 64, 3) := by decide +kernel
theorem dX8_heats_64 : decode cX8_heats 64 = .ok (.iload_n 3, 1) := by decide +kernel
theorem dX8_heats_65 : decode cX8_heats 65 = .ok (.iload_n 3, 1) := by decide +kernel
theorem dX8_heats_66 : decode cX8_heats 66 = .ok (.iastore, 1) := by decide +kernel
theorem dX8_heats_67 : decode cX8_heats 67 = .ok (.iinc 3 1, 3) := by decide +kernel
theorem dX8_heats_70 : decode cX8_heats 70 = .ok (.goto (-21), 3) := by decide +kernel
theorem dX8_heats_73 : decode cX8_heats 73 = .ok (.aload_n 0, 1) := by decide +kernel
theorem dX8_heats_74 : decode cX8_heats 74 = .ok (.getfield 10, 3) := by decide +kernel
theorem dX8_heats_77 : decode cX8_heats 77 = .ok (.getfield 154, 3) := by decide +kernel
theorem dX8_heats_80 : decode cX8_heats 80 = .ok (.istore_n 3, 1) := by decide +kernel
theorem dX8_heats_81 : decode cX8_heats 81 = .ok (.iconst 0, 1) := by decide +kernel
theorem dX8_heats_82 : decode cX8_heats 82 = .ok (.istore 4, 2) := by decide +kernel
theorem dX8_heats_84 : decode cX8_heats 84 = .ok (.iconst 0, 1) := by decide +kernel
theorem dX8_heats_85 : decode cX8_heats 85 = .ok (.istore 5, 2) := by decide +kernel
theorem dX8_heats_87 : decode cX8_heats 87 = .ok (.iload 5, 2) := by decide +kernel
theorem dX8_heats_89 : decode cX8_heats 89 = .ok (.bipush 8, 2) := by decide +kernel
theorem dX8_heats_91 : decode cX8_heats 91 = .ok (.if_icmp .ge 27, 3) := by decide +kernel
theorem dX8_heats_94 : decode cX8_heats 94 = .ok (.iload_n 3, 1) := by decide +kernel
theorem dX8_heats_95 : decode cX8_heats 95 = .ok (.iconst 1, 1) := by decide +kernel
theorem dX8_heats_96 : decode cX8_heats 96 = .ok (.if_icmp .le 22, 3) := by decide +kernel
theorem dX8_heats_99 : decode cX8_heats 99 = .ok (.aload_n 0, 1) := by decide +kernel
theorem dX8_heats_100 : decode cX8_heats 100 = .ok (.iload_n 3, 1) := by decide +kernel
theorem dX8_heats_101 : decode cX8_heats 101 = .ok (.iload_n 1, 1) := by decide +kernel
theorem dX8_heats_102 : decode cX8_heats 102 = .ok (.invokevirtual 316, 3) := by decide +kernel
theorem dX8_heats_105 : decode cX8_heats 105 = .ok (.istore_n 3, 1) := by decide +kernel
theorem dX8_heats_106 : decode cX8_heats 106 = .ok (.iload 4, 2) := by decide +kernel
theorem dX8_heats_108 : decode cX8_heats 108 = .ok (.iload_n 3, 1) := by decide +kernel
theorem dX8_heats_109 : decode cX8_heats 109 = .ok (.iadd, 1) := by decide +kernel
theorem dX8_heats_110 : decode cX8_heats 110 = .ok (.istore 4, 2) := by decide +kernel
theorem dX8_heats_112 : decode cX8_heats 112 = .ok (.iinc 5 1, 3) := by decide +kernel
theorem dX8_heats_115 : decode cX8_heats 115 = .ok (.goto (-28), 3) := by decide +kernel
theorem dX8_heats_118 : decode cX8_heats 118 = .ok (.iload_n 2, 1) := by decide +kernel
theorem dX8_heats_119 : decode cX8_heats 119 = .ok (.ifCond .ne 12, 3) := by decide +kernel
theorem dX8_heats_122 : decode cX8_heats 122 = .ok (.aload_n 0, 1) := by decide +kernel
theorem dX8_heats_123 : decode cX8_heats 123 = .ok (.getfield 64, 3) := by decide +kernel
theorem dX8_heats_126 : decode cX8_heats 126 = .ok (.iconst 0, 1) := by decide +kernel
theorem dX8_heats_127 : decode cX8_heats 127 = .ok (.iaload, 1) := by decide +kernel
theorem dX8_heats_128 : decode cX8_heats 128 = .ok (.goto 5, 3) := by decide +kernel
theorem dX8_heats_131 : decode cX8_heats 131 = .ok (.iload 4, 2) := by decide +kernel
theorem dX8_heats_133 : decode cX8_heats 133 = .ok (.ireturn, 1) := by decide +kernel
theorem dX8_legs_0 : decode cX8_legs 0 = .ok (.aload_n 0, 1) := by decide +kernel
theorem dX8_legs_1 : decode cX8_legs 1 = .ok (.getfield 10, 3) := by decide +kernel
theorem dX8_legs_4 : decode cX8_legs 4 = .ok (.iload_n 1, 1) := by decide +kernel
theorem dX8_legs_5 : decode cX8_legs 5 = .ok (.invokevirtual 126, 3) := by decide +kernel
theorem dX8_legs_8 : decode cX8_legs 8 = .ok (.ifCond .ne 10, 3) := by decide +kernel
theorem dX8_legs_11 : decode cX8_legs 11 = .ok (.aload_n 0, 1) := by decide +kernel
theorem dX8_legs_12 : decode cX8_legs 12 = .ok (.bipush (-11), 2) := by decide +kernel
theorem dX8_legs_14 : decode cX8_legs 14 = .ok (.invokevirtual 79, 3) := by decide +kernel
theorem dX8_legs_17 : decode cX8_legs 17 = .ok (.ireturn, 1) := by decide +kernel
theorem dX8_legs_18 : decode cX8_legs 18 = .ok (.iload_n 2, 1) := by decide +kernel
theorem dX8_legs_19 : decode cX8_legs 19 = .ok (.ifCond .ge 10, 3) := by decide +kernel
theorem dX8_legs_22 : decode cX8_legs 22 = .ok (.aload_n 0, 1) := by decide +kernel
theorem dX8_legs_23 : decode cX8_legs 23 = .ok (.bipush (-16), 2) := by decide +kernel
theorem dX8_legs_25 : decode cX8_legs 25 = .ok (.invokevirtual 79, 3) := by decide +kernel
theorem dX8_legs_28 : decode cX8_legs 28 = .ok (.ireturn, 1) := by decide +kernel
theorem dX8_legs_29 : decode cX8_legs 29 = .ok (.iconst 1, 1) := by decide +kernel
theorem dX8_legs_30 : decode cX8_legs 30 = .ok (.istore_n 3, 1) := by decide +kernel
theorem dX8_legs_31 : decode cX8_legs 31 = .ok (.iload_n 3, 1) := by decide +kernel
theorem dX8_legs_32 : decode cX8_legs 32 = .ok (.bipush 9, 2) := by decide +kernel
theorem dX8_legs_34 : decode cX8_legs 34 = .ok (.if_icmp .gt 49, 3) := by decide +kernel
theorem dX8_legs_37 : decode cX8_legs 37 = .ok (.aload_n 0, 1) := by decide +kernel
theorem dX8_legs_38 : decode cX8_legs 38 = .ok (.getfield 31, 3) := by decide +kernel
theorem dX8_legs_41 : decode cX8_legs 41 = .ok (.aload_n 0, 1) := by decide +kernel
theorem dX8_legs_42 : decode cX8_legs 42 = .ok (.getfield 10, 3) := by decide +kernel
theorem dX8_legs_45 : decode cX8_legs 45 = .ok (.iload_n 1, 1) := by decide +kernel
theorem dX8_legs_46 : decode cX8_legs 46 = .ok (.invokevirtual 167, 3) := by decide +kernel
theorem dX8_legs_49 : decode cX8_legs 49 = .ok (.aload_n 0, 1) := by decide +kernel
theorem dX8_legs_50 : decode cX8_legs 50 = .ok (.getfield 31, 3) := by decide +kernel
theorem dX8_legs_53 : decode cX8_legs 53 = .ok (.getfield 175, 3) := by decide +kernel
theorem dX8_legs_56 : decode cX8_legs 56 = .ok (.iload_n 3, 1) := by decide +kernel
theorem dX8_legs_57 : decode cX8_legs 57 = .ok (.putfield 182, 3) := by decide +kernel
theorem dX8_legs_60 : decode cX8_legs 60 = .ok (.aload_n 0, 1) := by decide +kernel
theorem dX8_legs_61 : decode cX8_legs 61 = .ok (.getfield 31, 3) := by decide +kernel
theorem dX8_legs_64 : decode cX8_legs 64 = .ok (.aload_n 0, 1) := by decide +kernel
theorem dX8_legs_65 : decode cX8_legs 65 = .ok (.getfield 10, 3) := by decide +kernel
theorem dX8_legs_68 : decode cX8_legs 68 = .ok (.invokevirtual 319, 3) := by decide +kernel
theorem dX8_legs_71 : decode cX8_legs 71 = .ok (.iload_n 2, 1) := by decide +kernel
theorem dX8_legs_72 : decode cX8_legs 72 = .ok (.if_icmp .gt 5, 3) := by decide +kernel
theorem dX8_legs_75 : decode cX8_legs 75 = .ok (.iload_n 3, 1) := by decide +kernel
theorem dX8_legs_76 : decode cX8_legs 76 = .ok (.ireturn, 1) := by decide +kernel
theorem dX8_legs_77 : decode cX8_legs 77 = .ok (.iinc 3 1, 3) := by decide +kernel
theorem dX8_legs_80 : decode cX8_legs 80 = .ok (.goto (-49), 3) := by decide +kernel
theorem dX8_legs_83 : decode cX8_legs 83 = .ok (.iconst (-1), 1) := by decide +kernel
theorem dX8_legs_84 : decode cX8_legs 84 = .ok (.ireturn, 1) := by decide +kernel
theorem dX8_wall_0 : decode cX8_wall 0 = .ok (.aload_n 0, 1) := by decide +kernel
theorem dX8_wall_1 : decode cX8_wall 1 = .ok (.getfield 10, 3) := by decide +kernel
theorem dX8_wall_4 : decode cX8_wall 4 = .ok (.iload_n 1, 1) := by decide +kernel
theorem dX8_wall_5 : decode cX8_wall 5 = .ok (.invokevirtual 126, 3) := by decide +kernel
theorem dX8_wall_8 : decode cX8_wall 8 = .ok (.ifCond .ne 10, 3) := by decide +kernel
theorem dX8_wall_11 : decode cX8_wall 11 = .ok (.aload_n 0, 1) := by decide +kernel
theorem dX8_wall_12 : decode cX8_wall 12 = .ok (.bipush (-11), 2) := by decide +kernel
theorem dX8_wall_14 : decode cX8_wall 14 = .ok (.invokevirtual 79, 3) := by decide +kernel
theorem dX8_wall_17 : decode cX8_wall 17 = .ok (.ireturn, 1) := by decide +kernel
theorem dX8_wall_18 : decode cX8_wall 18 = .ok (.aload_n 0, 1) := by decide +kernel
theorem dX8_wall_19 : decode cX8_wall 19 = .ok (.getfield 31, 3) := by decide +kernel
theorem dX8_wall_22 : decode cX8_wall 22 = .ok (.aload_n 0, 1) := by decide +kernel
theorem dX8_wall_23 : decode cX8_wall 23 = .ok (.getfield 10, 3) := by decide +kernel
theorem dX8_wall_26 : decode cX8_wall 26 = .ok (.iload_n 1, 1) := by decide +kernel
theorem dX8_wall_27 : decode cX8_wall 27 = .ok (.invokevirtual 167, 3) := by decide +kernel
theorem dX8_wall_30 : decode cX8_wall 30 = .ok (.aload_n 0, 1) := by decide +kernel
theorem dX8_wall_31 : decode cX8_wall 31 = .ok (.getfield 31, 3) := by decide +kernel
theorem dX8_wall_34 : decode cX8_wall 34 = .ok (.aload_n 0, 1) := by decide +kernel
theorem dX8_wall_35 : decode cX8_wall 35 = .ok (.getfield 10, 3) := by decide +kernel
theorem dX8_wall_38 : decode cX8_wall 38 = .ok (.invokevirtual 171, 3) := by decide +kernel
theorem dX8_wall_41 : decode cX8_wall 41 = .ok (.aload_n 0, 1) := by decide +kernel
theorem dX8_wall_42 : decode cX8_wall 42 = .ok (.getfield 31, 3) := by decide +kernel
theorem dX8_wall_45 : decode cX8_wall 45 = .ok (.sipush 999, 3) := by decide +kernel
theorem dX8_wall_48 : decode cX8_wall 48 = .ok (.invokevirtual 251, 3) := by decide +kernel
theorem dX8_wall_51 : decode cX8_wall 51 = .ok (.aload_n 0, 1) := by decide +kernel
theorem dX8_wall_52 : decode cX8_wall 52 = .ok (.getfield 31, 3) := by decide +kernel
theorem dX8_wall_55 : decode cX8_wall 55 = .ok (.getfield 323, 3) := by decide +kernel
theorem dX8_wall_58 : decode cX8_wall 58 = .ok (.ireturn, 1) := by decide +kernel
theorem dX8_judge_0 : decode cX8_judge 0 = .ok (.aload_n 0, 1) := by decide +kernel
theorem dX8_judge_1 : decode cX8_judge 1 = .ok (.iload_n 1, 1) := by decide +kernel
theorem dX8_judge_2 : decode cX8_judge 2 = .ok (.invokevirtual 87, 3) := by decide +kernel
theorem dX8_judge_5 : decode cX8_judge 5 = .ok (.istore_n 3, 1) := by decide +kernel
theorem dX8_judge_6 : decode cX8_judge 6 = .ok (.iload_n 3, 1) := by decide +kernel
theorem dX8_judge_7 : decode cX8_judge 7 = .ok (.ifCond .eq 12, 3) := by decide +kernel
theorem dX8_judge_10 : decode cX8_judge 10 = .ok (.aload_n 0, 1) := by decide +kernel
theorem dX8_judge_11 : decode cX8_judge 11 = .ok (.bipush (-10), 2) := by decide +kernel
theorem dX8_judge_13 : decode cX8_judge 13 = .ok (.iload_n 3, 1) := by decide +kernel
theorem dX8_judge_14 : decode cX8_judge 14 = .ok (.iadd, 1) := by decide +kernel
theorem dX8_judge_15 : decode cX8_judge 15 = .ok (.invokevirtual 79, 3) := by decide +kernel
theorem dX8_judge_18 : decode cX8_judge 18 = .ok (.ireturn, 1) := by decide +kernel
theorem dX8_judge_19 : decode cX8_judge 19 = .ok (.iload_n 2, 1) := by decide +kernel
theorem dX8_judge_20 : decode cX8_judge 20 = .ok (.ifCond .ge 10, 3) := by decide +kernel
theorem dX8_judge_23 : decode cX8_judge 23 = .ok (.aload_n 0, 1) := by decide +kernel
theorem dX8_judge_24 : decode cX8_judge 24 = .ok (.bipush (-14), 2) := by decide +kernel
theorem dX8_judge_26 : decode cX8_judge 26 = .ok (.invokevirtual 79, 3) := by decide +kernel
theorem dX8_judge_29 : decode cX8_judge 29 = .ok (.ireturn, 1) := by decide +kernel
theorem dX8_judge_30 : decode cX8_judge 30 = .ok (.iload_n 2, 1) := by decide +kernel
theorem dX8_judge_31 : decode cX8_judge 31 = .ok (.aload_n 0, 1) := by decide +kernel
theorem dX8_judge_32 : decode cX8_judge 32 = .ok (.getfield 24, 3) := by decide +kernel
theorem dX8_judge_35 : decode cX8_judge 35 = .ok (.iload_n 1, 1) := by decide +kernel
theorem dX8_judge_36 : decode cX8_judge 36 = .ok (.aaload, 1) := by decide +kernel
theorem dX8_judge_37 : decode cX8_judge 37 = .ok (.getfield 326, 3) := by decide +kernel
theorem dX8_judge_40 : decode cX8_judge 40 = .ok (.if_icmp .le 10, 3) := by decide +kernel
theorem dX8_judge_43 : decode cX8_judge 43 = .ok (.aload_n 0, 1) := by decide +kernel
theorem dX8_judge_44 : decode cX8_judge 44 = .ok (.bipush (-15), 2) := by decide +kernel
theorem dX8_judge_46 : decode cX8_judge 46 = .ok (.invokevirtual 79, 3) := by decide +kernel
theorem dX8_judge_49 : decode cX8_judge 49 = .ok (.ireturn, 1) := by decide +kernel
theorem dX8_judge_50 : decode cX8_judge 50 = .ok (.iload_n 2, 1) := by decide +kernel
theorem dX8_judge_51 : decode cX8_judge 51 = .ok (.bipush 8, 2) := by decide +kernel
theorem dX8_judge_53 : decode cX8_judge 53 = .ok (.if_icmp .le 10, 3) := by decide +kernel
theorem dX8_judge_56 : decode cX8_judge 56 = .ok (.aload_n 0, 1) := by decide +kernel
theorem dX8_judge_57 : decode cX8_judge 57 = .ok (.bipush (-16), 2) := by decide +kernel
theorem dX8_judge_59 : decode cX8_judge 59 = .ok (.invokevirtual 79, 3) := by decide +kernel
theorem dX8_judge_62 : decode cX8_judge 62 = .ok (.ireturn, 1) := by decide +kernel
theorem dX8_judge_63 : decode cX8_judge 63 = .ok (.aload_n 0, 1) := by decide +kernel
theorem dX8_judge_64 : decode cX8_judge 64 = .ok (.aload_n 0, 1) := by decide +kernel
theorem dX8_judge_65 : decode cX8_judge 65 = .ok (.getfield 24, 3) := by decide +kernel
theorem dX8_judge_68 : decode cX8_judge 68 = .ok (.iload_n 1, 1) := by decide +kernel
theorem dX8_judge_69 : decode cX8_judge 69 = .ok (.aaload, 1) := by decide +kernel
theorem dX8_judge_70 : decode cX8_judge 70 = .ok (.iload_n 2, 1) := by decide +kernel
theorem dX8_judge_71 : decode cX8_judge 71 = .ok (.invokevirtual 329, 3) := by decide +kernel
theorem dX8_judge_74 : decode cX8_judge 74 = .ok (.ireturn, 1) := by decide +kernel
theorem dX8_meant_0 : decode cX8_meant 0 = .ok (.aload_n 0, 1) := by decide +kernel
theorem dX8_meant_1 : decode cX8_meant 1 = .ok (.iload_n 1, 1) := by decide +kernel
theorem dX8_meant_2 : decode cX8_meant 2 = .ok (.invokevirtual 87, 3) := by decide +kernel
theorem dX8_meant_5 : decode cX8_meant 5 = .ok (.istore_n 2, 1) := by decide +kernel
theorem dX8_meant_6 : decode cX8_meant 6 = .ok (.iload_n 2, 1) := by decide +kernel
theorem dX8_meant_7 : decode cX8_meant 7 = .ok (.ifCond .eq 9, 3) := by decide +kernel
theorem dX8_meant_10 : decode cX8_meant 10 = .ok (.aload_n 0, 1) := by decide +kernel
theorem dX8_meant_11 : decode cX8_meant 11 = .ok (.iload_n 2, 1) := by decide +kernel
theorem dX8_meant_12 : decode cX8_meant 12 = .ok (.invokevirtual 79, 3) := by decide +kernel
theorem dX8_meant_15 : decode cX8_meant 15 = .ok (.ireturn, 1) := by decide +kernel
theorem dX8_meant_16 : decode cX8_meant 16 = .ok (.aload_n 0, 1) := by decide +kernel
theorem dX8_meant_17 : decode cX8_meant 17 = .ok (.getfield 24, 3) := by decide +kernel
theorem dX8_meant_20 : decode cX8_meant 20 = .ok (.iload_n 1, 1) := by decide +kernel
theorem dX8_meant_21 : decode cX8_meant 21 = .ok (.aaload, 1) := by decide +kernel
theorem dX8_meant_22 : decode cX8_meant 22 = .ok (.getfield 326, 3) := by decide +kernel
theorem dX8_meant_25 : decode cX8_meant 25 = .ok (.aload_n 0, 1) := by decide +kernel
theorem dX8_meant_26 : decode cX8_meant 26 = .ok (.getfield 10, 3) := by decide +kernel
theorem dX8_meant_29 : decode cX8_meant 29 = .ok (.getfield 154, 3) := by decide +kernel
theorem dX8_meant_32 : decode cX8_meant 32 = .ok (.if_icmp .ge 10, 3) := by decide +kernel
theorem dX8_meant_35 : decode cX8_meant 35 = .ok (.aload_n 0, 1) := by decide +kernel
theorem dX8_meant_36 : decode cX8_meant 36 = .ok (.bipush (-5), 2) := by decide +kernel
theorem dX8_meant_38 : decode cX8_meant 38 = .ok (.invokevirtual 79, 3) := by decide +kernel
theorem dX8_meant_41 : decode cX8_meant 41 = .ok (.ireturn, 1) := by decide +kernel
theorem dX8_meant_42 : decode cX8_meant 42 = .ok (.iconst 0, 1) := by decide +kernel
theorem dX8_meant_43 : decode cX8_meant 43 = .ok (.istore_n 3, 1) := by decide +kernel
theorem dX8_meant_44 : decode cX8_meant 44 = .ok (.iconst 0, 1) := by decide +kernel
theorem dX8_meant_45 : decode cX8_meant 45 = .ok (.istore 4, 2) := by decide +kernel
theorem dX8_meant_47 : decode cX8_meant 47 = .ok (.iload 4, 2) := by decide +kernel
theorem dX8_meant_49 : decode cX8_meant 49 = .ok (.bipush 7, 2) := by decide +kernel
theorem dX8_meant_51 : decode cX8_meant 51 = .ok (.if_icmp .ge 31, 3) := by decide +kernel
theorem dX8_meant_54 : decode cX8_meant 54 = .ok (.aload_n 0, 1) := by decide +kernel
theorem dX8_meant_55 : decode cX8_meant 55 = .ok (.aload_n 0, 1) := by decide +kernel
theorem dX8_meant_56 : decode cX8_meant 56 = .ok (.getfield 24, 3) := by decide +kernel
theorem dX8_meant_59 : decode cX8_meant 59 = .ok (.iload_n 1, 1) := by decide +kernel
theorem dX8_meant_60 : decode cX8_meant 60 = .ok (.aaload, 1) := by decide +kernel
theorem dX8_meant_61 : decode cX8_meant 61 = .ok (.iload 4, 2) := by decide +kernel
theorem dX8_meant_63 : decode cX8_meant 63 = .ok (.invokevirtual 333, 3) := by decide +kernel
theorem dX8_meant_66 : decode cX8_meant 66 = .ok (.ifCond .eq 10, 3) := by decide +kernel
theorem dX8_meant_69 : decode cX8_meant 69 = .ok (.iload_n 3, 1) := by decide +kernel
theorem dX8_meant_70 : decode cX8_meant 70 = .ok (.iconst 1, 1) := by decide +kernel
theorem dX8_meant_71 : decode cX8_meant 71 = .ok (.iload 4, 2) := by decide +kernel
theorem dX8_meant_73 : decode cX8_meant 73 = .ok (.ishl, 1) := by decide +kernel
theorem dX8_meant_74 : decode cX8_meant 74 = .ok (.ior, 1) := by decide +kernel
theorem dX8_meant_75 : decode cX8_meant 75 = .ok (.istore_n 3, 1) := by decide +kernel
theorem dX8_meant_76 : decode cX8_meant 76 = .ok (.iinc 4 1, 3) := by decide +kernel
theorem dX8_meant_79 : decode cX8_meant 79 = .ok (.goto (-32), 3) := by decide +kernel
theorem dX8_meant_82 : decode cX8_meant 82 = .ok (.iload_n 3, 1) := by decide +kernel
theorem dX8_meant_83 : decode cX8_meant 83 = .ok (.ireturn, 1) := by decide +kernel
theorem dX8_worn_0 : decode cX8_worn 0 = .ok (.aload_n 0, 1) := by decide +kernel
theorem dX8_worn_1 : decode cX8_worn 1 = .ok (.getfield 10, 3) := by decide +kernel
theorem dX8_worn_4 : decode cX8_worn 4 = .ok (.iload_n 1, 1) := by decide +kernel
theorem dX8_worn_5 : decode cX8_worn 5 = .ok (.invokevirtual 126, 3) := by decide +kernel
theorem dX8_worn_8 : decode cX8_worn 8 = .ok (.ifCond .ne 9, 3) := by decide +kernel
theorem dX8_worn_11 : decode cX8_worn 11 = .ok (.aload_n 0, 1) := by decide +kernel
theorem dX8_worn_12 : decode cX8_worn 12 = .ok (.iconst (-1), 1) := by decide +kernel
theorem dX8_worn_13 : decode cX8_worn 13 = .ok (.invokevirtual 79, 3) := by decide +kernel
theorem dX8_worn_16 : decode cX8_worn 16 = .ok (.ireturn, 1) := by decide +kernel
theorem dX8_worn_17 : decode cX8_worn 17 = .ok (.iconst 0, 1) := by decide +kernel
theorem dX8_worn_18 : decode cX8_worn 18 = .ok (.istore_n 3, 1) := by decide +kernel
theorem dX8_worn_19 : decode cX8_worn 19 = .ok (.iconst 0, 1) := by decide +kernel
theorem dX8_worn_20 : decode cX8_worn 20 = .ok (.istore 4, 2) := by decide +kernel
theorem dX8_worn_22 : decode cX8_worn 22 = .ok (.iload 4, 2) := by decide +kernel
theorem dX8_worn_24 : decode cX8_worn 24 = .ok (.aload_n 0, 1) := by decide +kernel
theorem dX8_worn_25 : decode cX8_worn 25 = .ok (.getfield 10, 3) := by decide +kernel
theorem dX8_worn_28 : decode cX8_worn 28 = .ok (.getfield 161, 3) := by decide +kernel
theorem dX8_worn_31 : decode cX8_worn 31 = .ok (.if_icmp .ge 27, 3) := by decide +kernel
theorem dX8_worn_34 : decode cX8_worn 34 = .ok (.aload_n 0, 1) := by decide +kernel
theorem dX8_worn_35 : decode cX8_worn 35 = .ok (.iload_n 1, 1) := by decide +kernel
theorem dX8_worn_36 : decode cX8_worn 36 = .ok (.iload 4, 2) := by decide +kernel
theorem dX8_worn_38 : decode cX8_worn 38 = .ok (.invokevirtual 294, 3) := by decide +kernel
theorem dX8_worn_41 : decode cX8_worn 41 = .ok (.iload_n 2, 1) := by decide +kernel
theorem dX8_worn_42 : decode cX8_worn 42 = .ok (.if_icmp .ne 10, 3) := by decide +kernel
theorem dX8_worn_45 : decode cX8_worn 45 = .ok (.iload_n 3, 1) := by decide +kernel
theorem dX8_worn_46 : decode cX8_worn 46 = .ok (.iconst 1, 1) := by decide +kernel
theorem dX8_worn_47 : decode cX8_worn 47 = .ok (.iload 4, 2) := by decide +kernel
theorem dX8_worn_49 : decode cX8_worn 49 = .ok (.ishl, 1) := by decide +kernel
theorem dX8_worn_50 : decode cX8_worn 50 = .ok (.ior, 1) := by decide +kernel
theorem dX8_worn_51 : decode cX8_worn 51 = .ok (.istore_n 3, 1) := by decide +kernel
theorem dX8_worn_52 : decode cX8_worn 52 = .ok (.iinc 4 1, 3) := by decide +kernel
theorem dX8_worn_55 : decode cX8_worn 55 = .ok (.goto (-33), 3) := by decide +kernel
theorem dX8_worn_58 : decode cX8_worn 58 = .ok (.iload_n 3, 1) := by decide +kernel
theorem dX8_worn_59 : decode cX8_worn 59 = .ok (.ireturn, 1) := by decide +kernel
theorem dX8_race_0 : decode cX8_race 0 = .ok (.aload_n 0, 1) := by decide +kernel
theorem dX8_race_1 : decode cX8_race 1 = .ok (.getfield 10, 3) := by decide +kernel
theorem dX8_race_4 : decode cX8_race 4 = .ok (.getfield 154, 3) := by decide +kernel
theorem dX8_race_7 : decode cX8_race 7 = .ok (.ifCond .ne 12, 3) := by decide +kernel
theorem dX8_race_10 : decode cX8_race 10 = .ok (.aload_n 0, 1) := by decide +kernel
theorem dX8_race_11 : decode cX8_race 11 = .ok (.bipush (-15), 2) := by decide +kernel
theorem dX8_race_13 : decode cX8_race 13 = .ok (.invokevirtual 79, 3) := by decide +kernel
theorem dX8_race_16 : decode cX8_race 16 = .ok (.goto 7, 3) := by decide +kernel
theorem dX8_race_19 : decode cX8_race 19 = .ok (.aload_n 0, 1) := by decide +kernel
theorem dX8_race_20 : decode cX8_race 20 = .ok (.invokevirtual 337, 3) := by decide +kernel
theorem dX8_race_23 : decode cX8_race 23 = .ok (.ireturn, 1) := by decide +kernel
theorem dX8_summer_0 : decode cX8_summer 0 = .ok (.aload_n 0, 1) := by decide +kernel
theorem dX8_summer_1 : decode cX8_summer 1 = .ok (.getfield 10, 3) := by decide +kernel
theorem dX8_summer_4 : decode cX8_summer 4 = .ok (.iload_n 2, 1) := by decide +kernel
theorem dX8_summer_5 : decode cX8_summer 5 = .ok (.invokevirtual 126, 3) := by decide +kernel
theorem dX8_summer_8 : decode cX8_summer 8 = .ok (.ifCond .ne 9, 3) := by decide +kernel
theorem dX8_summer_11 : decode cX8_summer 11 = .ok (.aload_n 0, 1) := by decide +kernel
theorem dX8_summer_12 : decode cX8_summer 12 = .ok (.iconst (-1), 1) := by decide +kernel
theorem dX8_summer_13 : decode cX8_summer 13 = .ok (.invokevirtual 79, 3) := by decide +kernel
theorem dX8_summer_16 : decode cX8_summer 16 = .ok (.ireturn, 1) := by decide +kernel
theorem dX8_summer_17 : decode cX8_summer 17 = .ok (.iload_n 1, 1) := by decide +kernel
theorem dX8_summer_18 : decode cX8_summer 18 = .ok (.iconst 1, 1) := by decide +kernel
theorem dX8_summer_19 : decode cX8_summer 19 = .ok (.if_icmp .lt 9, 3) := by decide +kernel
theorem dX8_summer_22 : decode cX8_summer 22 = .ok (.iload_n 1, 1) := by decide +kernel
theorem dX8_summer_23 : decode cX8_summer 23 = .ok (.bipush 30, 2) := by decide +kernel
theorem dX8_summer_25 : decode cX8_summer 25 = .ok (.if_icmp .le 10, 3) := by decide +kernel
theorem dX8_summer_28 : decode cX8_summer 28 = .ok (.aload_n 0, 1) := by decide +kernel
theorem dX8_summer_29 : decode cX8_summer 29 = .ok (.bipush (-6), 2) := by decide +kernel
theorem dX8_summer_31 : decode cX8_summer 31 = .ok (.invokevirtual 79, 3) := by decide +kernel
theorem dX8_summer_34 : decode cX8_summer 34 = .ok (.ireturn, 1) := by decide +kernel
theorem dX8_summer_35 : decode cX8_summer 35 = .ok (.iconst 0, 1) := by decide +kernel
theorem dX8_summer_36 : decode cX8_summer 36 = .ok (.istore_n 3, 1) := by decide +kernel
theorem dX8_summer_37 : decode cX8_summer 37 = .ok (.iconst 0, 1) := by decide +kernel
theorem dX8_summer_38 : decode cX8_summer 38 = .ok (.istore 4, 2) := by decide +kernel
theorem dX8_summer_40 : decode cX8_summer 40 = .ok (.iload 4, 2) := by decide +kernel
theorem dX8_summer_42 : decode cX8_summer 42 = .ok (.iload_n 1, 1) := by decide +kernel
theorem dX8_summer_43 : decode cX8_summer 43 = .ok (.if_icmp .ge 20, 3) := by decide +kernel
theorem dX8_summer_46 : decode cX8_summer 46 = .ok (.aload_n 0, 1) := by decide +kernel
theorem dX8_summer_47 : decode cX8_summer 47 = .ok (.invokevirtual 337, 3) := by decide +kernel
theorem dX8_summer_50 : decode cX8_summer 50 = .ok (.iload_n 2, 1) := by decide +kernel
theorem dX8_summer_51 : decode cX8_summer 51 = .ok (.if_icmp .ne 6, 3) := by decide +kernel
theorem dX8_summer_54 : decode cX8_summer 54 = .ok (.iinc 3 1, 3) := by decide +kernel
theorem dX8_summer_57 : decode cX8_summer 57 = .ok (.iinc 4 1, 3) := by decide +kernel
theorem dX8_summer_60 : decode cX8_summer 60 = .ok (.goto (-20), 3) := by decide +kernel
theorem dX8_summer_63 : decode cX8_summer 63 = .ok (.iload_n 3, 1) := by decide +kernel
theorem dX8_summer_64 : decode cX8_summer 64 = .ok (.ireturn, 1) := by decide +kernel
theorem dX8_seed_0 : decode cX8_seed 0 = .ok (.aload_n 0, 1) := by decide +kernel
theorem dX8_seed_1 : decode cX8_seed 1 = .ok (.getfield 10, 3) := by decide +kernel
theorem dX8_seed_4 : decode cX8_seed 4 = .ok (.getfield 340, 3) := by decide +kernel
theorem dX8_seed_7 : decode cX8_seed 7 = .ok (.istore_n 2, 1) := by decide +kernel
theorem dX8_seed_8 : decode cX8_seed 8 = .ok (.aload_n 0, 1) := by decide +kernel
theorem dX8_seed_9 : decode cX8_seed 9 = .ok (.getfield 10, 3) := by decide +kernel
theorem dX8_seed_12 : decode cX8_seed 12 = .ok (.iload_n 1, 1) := by decide +kernel
theorem dX8_seed_13 : decode cX8_seed 13 = .ok (.putfield 340, 3) := by decide +kernel
theorem dX8_seed_16 : decode cX8_seed 16 = .ok (.iload_n 2, 1) := by decide +kernel
theorem dX8_seed_17 : decode cX8_seed 17 = .ok (.ireturn, 1) := by decide +kernel
theorem dX8_act_0 : decode cX8_act 0 = .ok (.aload_n 0, 1) := by decide +kernel
theorem dX8_act_1 : decode cX8_act 1 = .ok (.getfield 56, 3) := by decide +kernel
theorem dX8_act_4 : decode cX8_act 4 = .ok (.invokevirtual 343, 3) := by decide +kernel
theorem dX8_act_7 : decode cX8_act 7 = .ok (.aload_n 0, 1) := by decide +kernel
theorem dX8_act_8 : decode cX8_act 8 = .ok (.getfield 10, 3) := by decide +kernel
theorem dX8_act_11 : decode cX8_act 11 = .ok (.iload_n 1, 1) := by decide +kernel
theorem dX8_act_12 : decode cX8_act 12 = .ok (.invokevirtual 126, 3) := by decide +kernel
theorem dX8_act_15 : decode cX8_act 15 = .ok (.ifCond .eq 12, 3) := by decide +kernel
theorem dX8_act_18 : decode cX8_act 18 = .ok (.iload_n 2, 1) := by decide +kernel
theorem dX8_act_19 : decode cX8_act 19 = .ok (.ifCond .lt 8, 3) := by decide +kernel
theorem dX8_act_22 : decode cX8_act 22 = .ok (.iload_n 2, 1) := by decide +kernel
theorem dX8_act_23 : decode cX8_act 23 = .ok (.iconst 3, 1) := by decide +kernel
theorem dX8_act_24 : decode cX8_act 24 = .ok (.if_icmp .lt 5, 3) := by decide +kernel
theorem dX8_act_27 : decode cX8_act 27 = .ok (.iconst 0, 1) := by decide +kernel
theorem dX8_act_28 : decode cX8_act 28 = .ok (.ireturn, 1) := by decide +kernel
theorem dX8_act_29 : decode cX8_act 29 = .ok (.aload_n 0, 1) := by decide +kernel
theorem dX8_act_30 : decode cX8_act 30 = .ok (.getfield 56, 3) := by decide +kernel
theorem dX8_act_33 : decode cX8_act 33 = .ok (.aload_n 0, 1) := by decide +kernel
theorem dX8_act_34 : decode cX8_act 34 = .ok (.getfield 10, 3) := by decide +kernel
theorem dX8_act_37 : decode cX8_act 37 = .ok (.getfield 138, 3) := by decide +kernel
theorem dX8_act_40 : decode cX8_act 40 = .ok (.iload_n 1, 1) := by decide +kernel
theorem dX8_act_41 : decode cX8_act 41 = .ok (.aaload, 1) := by decide +kernel
theorem dX8_act_42 : decode cX8_act 42 = .ok (.iload_n 1, 1) := by decide +kernel
theorem dX8_act_43 : decode cX8_act 43 = .ok (.iload_n 2, 1) := by decide +kernel
theorem dX8_act_44 : decode cX8_act 44 = .ok (.iload_n 3, 1) := by decide +kernel
theorem dX8_act_45 : decode cX8_act 45 = .ok (.invokevirtual 346, 3) := by decide +kernel
theorem dX8_act_48 : decode cX8_act 48 = .ok (.ireturn, 1) := by decide +kernel
theorem dX8_trace_0 : decode cX8_trace 0 = .ok (.aload_n 0, 1) := by decide +kernel
theorem dX8_trace_1 : decode cX8_trace 1 = .ok (.getfield 56, 3) := by decide +kernel
theorem dX8_trace_4 : decode cX8_trace 4 = .ok (.iload_n 1, 1) := by decide +kernel
theorem dX8_trace_5 : decode cX8_trace 5 = .ok (.invokevirtual 350, 3) := by decide +kernel
theorem dX8_trace_8 : decode cX8_trace 8 = .ok (.ireturn, 1) := by decide +kernel
theorem dX8_image_0 : decode cX8_image 0 = .ok (.aload_n 0, 1) := by decide +kernel
theorem dX8_image_1 : decode cX8_image 1 = .ok (.getfield 19, 3) := by decide +kernel
theorem dX8_image_4 : decode cX8_image 4 = .ok (.aload_n 0, 1) := by decide +kernel
theorem dX8_image_5 : decode cX8_image 5 = .ok (.getfield 10, 3) := by decide +kernel
theorem dX8_image_8 : decode cX8_image 8 = .ok (.invokevirtual 241, 3) := by decide +kernel
theorem dX8_image_11 : decode cX8_image 11 = .ok (.aload_n 0, 1) := by decide +kernel
theorem dX8_image_12 : decode cX8_image 12 = .ok (.iconst 1, 1) := by decide +kernel
theorem dX8_image_13 : decode cX8_image 13 = .ok (.putfield 353, 3) := by decide +kernel
theorem dX8_image_16 : decode cX8_image 16 = .ok (.aload_n 0, 1) := by decide +kernel
theorem dX8_image_17 : decode cX8_image 17 = .ok (.getfield 19, 3) := by decide +kernel
theorem dX8_image_20 : decode cX8_image 20 = .ok (.getfield 154, 3) := by decide +kernel
theorem dX8_image_23 : decode cX8_image 23 = .ok (.ireturn, 1) := by decide +kernel
theorem dX8_restore_0 : decode cX8_restore 0 = .ok (.aload_n 0, 1) := by decide +kernel
theorem dX8_restore_1 : decode cX8_restore 1 = .ok (.getfield 353, 3) := by decide +kernel
theorem dX8_restore_4 : decode cX8_restore 4 = .ok (.ifCond .ne 10, 3) := by decide +kernel
theorem dX8_restore_7 : decode cX8_restore 7 = .ok (.aload_n 0, 1) := by decide +kernel
theorem dX8_restore_8 : decode cX8_restore 8 = .ok (.bipush (-6), 2) := by decide +kernel
theorem dX8_restore_10 : decode cX8_restore 10 = .ok (.invokevirtual 79, 3) := by decide +kernel
theorem dX8_restore_13 : decode cX8_restore 13 = .ok (.ireturn, 1) := by decide +kernel
theorem dX8_restore_14 : decode cX8_restore 14 = .ok (.aload_n 0, 1) := by decide +kernel
theorem dX8_restore_15 : decode cX8_restore 15 = .ok (.getfield 10, 3) := by decide +kernel
theorem dX8_restore_18 : decode cX8_restore 18 = .ok (.aload_n 0, 1) := by decide +kernel
theorem dX8_restore_19 : decode cX8_restore 19 = .ok (.getfield 19, 3) := by decide +kernel
theorem dX8_restore_22 : decode cX8_restore 22 = .ok (.invokevirtual 241, 3) := by decide +kernel
theorem dX8_restore_25 : decode cX8_restore 25 = .ok (.iconst 0, 1) := by decide +kernel
theorem dX8_restore_26 : decode cX8_restore 26 = .ok (.istore_n 1, 1) := by decide +kernel
theorem dX8_restore_27 : decode cX8_restore 27 = .ok (.iload_n 1, 1) := by decide +kernel
theorem dX8_restore_28 : decode cX8_restore 28 = .ok (.bipush 8, 2) := by decide +kernel
theorem dX8_restore_30 : decode cX8_restore 30 = .ok (.if_icmp .ge 50, 3) := by decide +kernel
theorem dX8_restore_33 : decode cX8_restore 33 = .ok (.aload_n 0, 1) := by decide +kernel
theorem dX8_restore_34 : decode cX8_restore 34 = .ok (.getfield 24, 3) := by decide +kernel
theorem dX8_restore_37 : decode cX8_restore 37 = .ok (.iload_n 1, 1) := by decide +kernel
theorem dX8_restore_38 : decode cX8_restore 38 = .ok (.aaload, 1) := by decide +kernel
theorem dX8_restore_39 : decode cX8_restore 39 = .ok (.invokevirtual 97, 3) := by decide +kernel
theorem dX8_restore_42 : decode cX8_restore 42 = .ok (.ifCond .eq 32, 3) := by decide +kernel
theorem dX8_restore_45 : decode cX8_restore 45 = .ok (.aload_n 0, 1) := by decide +kernel
theorem dX8_restore_46 : decode cX8_restore 46 = .ok (.getfield 10, 3) := by decide +kernel
theorem dX8_restore_49 : decode cX8_restore 49 = .ok (.aload_n 0, 1) := by decide +kernel
theorem dX8_restore_50 : decode cX8_restore 50 = .ok (.getfield 24, 3) := by decide +kernel
theorem dX8_restore_53 : decode cX8_restore 53 = .ok (.iload_n 1, 1) := by decide +kernel
theorem dX8_restore_54 : decode cX8_restore 54 = .ok (.aaload, 1) := by decide +kernel
theorem dX8_restore_55 : decode cX8_restore 55 = .ok (.getfield 132, 3) := by decide +kernel
theorem dX8_restore_58 : decode cX8_restore 58 = .ok (.invokevirtual 126, 3) := by decide +kernel
theorem dX8_restore_61 : decode cX8_restore 61 = .ok (.ifCond .ne 13, 3) := by decide +kernel
theorem dX8_restore_64 : decode cX8_restore 64 = .ok (.aload_n 0, 1) := by decide +kernel
theorem dX8_restore_65 : decode cX8_restore 65 = .ok (.getfield 24, 3) := by decide +kernel
theorem dX8_restore_68 : decode cX8_restore 68 = .ok (.iload_n 1, 1) := by decide +kernel
theorem dX8_restore_69 : decode cX8_restore 69 = .ok (.aaload, 1) := by decide +kernel
theorem dX8_restore_70 : decode cX8_restore 70 = .ok (.iconst (-1), 1) := by decide +kernel
theorem dX8_restore_71 : decode cX8_restore 71 = .ok (.invokevirtual 128, 3) := by decide +kernel
theorem dX8_restore_74 : decode cX8_restore 74 = .ok (.iinc 1 1, 3) := by decide +kernel
theorem dX8_restore_77 : decode cX8_restore 77 = .ok (.goto (-50), 3) := by decide +kernel
theorem dX8_restore_80 : decode cX8_restore 80 = .ok (.aload_n 0, 1) := by decide +kernel
theorem dX8_restore_81 : decode cX8_restore 81 = .ok (.getfield 10, 3) := by decide +kernel
theorem dX8_restore_84 : decode cX8_restore 84 = .ok (.getfield 154, 3) := by decide +kernel
theorem dX8_restore_87 : decode cX8_restore 87 = .ok (.ireturn, 1) := by decide +kernel
theorem dX8_status_0 : decode cX8_status 0 = .ok (.iload_n 1, 1) := by decide +kernel
theorem dX8_status_1 : decode cX8_status 1 = .ok (.bipush 10, 2) := by decide +kernel
theorem dX8_status_3 : decode cX8_status 3 = .ok (.if_icmp .le 19, 3) := by decide +kernel
theorem dX8_status_6 : decode cX8_status 6 = .ok (.iload_n 1, 1) := by decide +kernel
theorem dX8_status_7 : decode cX8_status 7 = .ok (.bipush 17, 2) := by decide +kernel
theorem dX8_status_9 : decode cX8_status 9 = .ok (.if_icmp .gt 13, 3) := by decide +kernel
theorem dX8_status_12 : decode cX8_status 12 = .ok (.aload_n 0, 1) := by decide +kernel
theorem dX8_status_13 : decode cX8_status 13 = .ok (.getfield 67, 3) := by decide +kernel
theorem dX8_status_16 : decode cX8_status 16 = .ok (.iload_n 1, 1) := by decide +kernel
theorem dX8_status_17 : decode cX8_status 17 = .ok (.bipush 10, 2) := by decide +kernel
theorem dX8_status_19 : decode cX8_status 19 = .ok (.isub, 1) := by decide +kernel
theorem dX8_status_20 : decode cX8_status 20 = .ok (.iaload, 1) := by decide +kernel
theorem dX8_status_21 : decode cX8_status 21 = .ok (.ireturn, 1) := by decide +kernel
theorem dX8_status_22 : decode cX8_status 22 = .ok (.iload_n 1, 1) := by decide +kernel
theorem dX8_status_23 : decode cX8_status 23 = .ok (.tableswitch 144 0 9 #[53, 61, 69, 79, 89, 99, 109, 120, 128, 136], 53) := by decide +kernel
theorem dX8_status_76 : decode cX8_status 76 = .ok (.aload_n 0, 1) := by decide +kernel
theorem dX8_status_77 : decode cX8_status 77 = .ok (.getfield 10, 3) := by decide +kernel
theorem dX8_status_80 : decode cX8_status 80 = .ok (.getfield 154, 3) := by decide +kernel
theorem dX8_status_83 : decode cX8_status 83 = .ok (.ireturn, 1) := by decide +kernel
theorem dX8_status_84 : decode cX8_status 84 = .ok (.aload_n 0, 1) := by decide +kernel
theorem dX8_status_85 : decode cX8_status 85 = .ok (.getfield 10, 3) := by decide +kernel
theorem dX8_status_88 : decode cX8_status 88 = .ok (.getfield 161, 3) := by decide +kernel
theorem dX8_status_91 : decode cX8_status 91 = .ok (.ireturn, 1) := by decide +kernel
theorem dX8_status_92 : decode cX8_status 92 = .ok (.aload_n 0, 1) := by decide +kernel
theorem dX8_status_93 : decode cX8_status 93 = .ok (.getfield 10, 3) := by decide +kernel
theorem dX8_status_96 : decode cX8_status 96 = .ok (.getfield 227, 3) := by decide +kernel
theorem dX8_status_99 : decode cX8_status 99 = .ok (.iconst 0, 1) := by decide +kernel
theorem dX8_status_100 : decode cX8_status 100 = .ok (.iaload, 1) := by decide +kernel
theorem dX8_status_101 : decode cX8_status 101 = .ok (.ireturn, 1) := by decide +kernel
theorem dX8_status_102 : decode cX8_status 102 = .ok (.aload_n 0, 1) := by decide +kernel
theorem dX8_status_103 : decode cX8_status 103 = .ok (.getfield 10, 3) := by decide +kernel
theorem dX8_status_106 : decode cX8_status 106 = .ok (.getfield 227, 3) := by decide +kernel
theorem dX8_status_109 : decode cX8_status 109 = .ok (.iconst 1, 1) := by decide +kernel
theorem dX8_status_110 : decode cX8_status 110 = .ok (.iaload, 1) := by decide +kernel
theorem dX8_status_111 : decode cX8_status 111 = .ok (.ireturn, 1) := by decide +kernel
theorem dX8_status_112 : decode cX8_status 112 = .ok (.aload_n 0, 1) := by decide +kernel
theorem dX8_status_113 : decode cX8_status 113 = .ok (.getfield 10, 3) := by decide +kernel
theorem dX8_status_116 : decode cX8_status 116 = .ok (.getfield 227, 3) := by decide +kernel
theorem dX8_status_119 : decode cX8_status 119 = .ok (.iconst 2, 1) := by decide +kernel
theorem dX8_status_120 : decode cX8_status 120 = .ok (.iaload, 1) := by decide +kernel
