theorem dX0_init_0 : decode cX0_init 0 = .ok (.aload_n 0, 1) := by decide +kernel
theorem dX0_init_1 : decode cX0_init 1 = .ok (.invokespecial 1, 3) := by decide +kernel
theorem dX0_init_4 : decode cX0_init 4 = .ok (.return_, 1) := by decide +kernel
theorem dX0_become_0 : decode cX0_become 0 = .ok (.aload_n 0, 1) := by decide +kernel
theorem dX0_become_1 : decode cX0_become 1 = .ok (.aload_n 1, 1) := by decide +kernel
theorem dX0_become_2 : decode cX0_become 2 = .ok (.getfield 7, 3) := by decide +kernel
theorem dX0_become_5 : decode cX0_become 5 = .ok (.putfield 7, 3) := by decide +kernel
theorem dX0_become_8 : decode cX0_become 8 = .ok (.aload_n 0, 1) := by decide +kernel
theorem dX0_become_9 : decode cX0_become 9 = .ok (.aload_n 1, 1) := by decide +kernel
theorem dX0_become_10 : decode cX0_become 10 = .ok (.getfield 13, 3) := by decide +kernel
theorem dX0_become_13 : decode cX0_become 13 = .ok (.putfield 13, 3) := by decide +kernel
theorem dX0_become_16 : decode cX0_become 16 = .ok (.aload_n 0, 1) := by decide +kernel
theorem dX0_become_17 : decode cX0_become 17 = .ok (.aload_n 1, 1) := by decide +kernel
theorem dX0_become_18 : decode cX0_become 18 = .ok (.getfield 16, 3) := by decide +kernel
theorem dX0_become_21 : decode cX0_become 21 = .ok (.putfield 16, 3) := by decide +kernel
theorem dX0_become_24 : decode cX0_become 24 = .ok (.aload_n 0, 1) := by decide +kernel
theorem dX0_become_25 : decode cX0_become 25 = .ok (.aload_n 1, 1) := by decide +kernel
theorem dX0_become_26 : decode cX0_become 26 = .ok (.getfield 19, 3) := by decide +kernel
theorem dX0_become_29 : decode cX0_become 29 = .ok (.putfield 19, 3) := by decide +kernel
theorem dX0_become_32 : decode cX0_become 32 = .ok (.aload_n 0, 1) := by decide +kernel
theorem dX0_become_33 : decode cX0_become 33 = .ok (.aload_n 1, 1) := by decide +kernel
theorem dX0_become_34 : decode cX0_become 34 = .ok (.getfield 22, 3) := by decide +kernel
theorem dX0_become_37 : decode cX0_become 37 = .ok (.putfield 22, 3) := by decide +kernel
theorem dX0_become_40 : decode cX0_become 40 = .ok (.aload_n 0, 1) := by decide +kernel
theorem dX0_become_41 : decode cX0_become 41 = .ok (.aload_n 1, 1) := by decide +kernel
theorem dX0_become_42 : decode cX0_become 42 = .ok (.getfield 25, 3) := by decide +kernel
theorem dX0_become_45 : decode cX0_become 45 = .ok (.putfield 25, 3) := by decide +kernel
theorem dX0_become_48 : decode cX0_become 48 = .ok (.return_, 1) := by decide +kernel
theorem dX1_init_0 : decode cX1_init 0 = .ok (.aload_n 0, 1) := by decide +kernel
theorem dX1_init_1 : decode cX1_init 1 = .ok (.invokespecial 3, 3) := by decide +kernel
theorem dX1_init_4 : decode cX1_init 4 = .ok (.aload_n 0, 1) := by decide +kernel
theorem dX1_init_5 : decode cX1_init 5 = .ok (.bipush 8, 2) := by decide +kernel
theorem dX1_init_7 : decode cX1_init 7 = .ok (.anewarray 9, 3) := by decide +kernel
theorem dX1_init_10 : decode cX1_init 10 = .ok (.putfield 11, 3) := by decide +kernel
theorem dX1_init_13 : decode cX1_init 13 = .ok (.aload_n 0, 1) := by decide +kernel
theorem dX1_init_14 : decode cX1_init 14 = .ok (.bipush 8, 2) := by decide +kernel
theorem dX1_init_16 : decode cX1_init 16 = .ok (.anewarray 17, 3) := by decide +kernel
theorem dX1_init_19 : decode cX1_init 19 = .ok (.putfield 19, 3) := by decide +kernel
theorem dX1_init_22 : decode cX1_init 22 = .ok (.aload_n 0, 1) := by decide +kernel
theorem dX1_init_23 : decode cX1_init 23 = .ok (.iconst 4, 1) := by decide +kernel
theorem dX1_init_24 : decode cX1_init 24 = .ok (.newarray .int, 2) := by decide +kernel
theorem dX1_init_26 : decode cX1_init 26 = .ok (.dup, 1) := by decide +kernel
theorem dX1_init_27 : decode cX1_init 27 = .ok (.iconst 0, 1) := by decide +kernel
theorem dX1_init_28 : decode cX1_init 28 = .ok (.bipush 40, 2) := by decide +kernel
theorem dX1_init_30 : decode cX1_init 30 = .ok (.iastore, 1) := by decide +kernel
theorem dX1_init_31 : decode cX1_init 31 = .ok (.dup, 1) := by decide +kernel
theorem dX1_init_32 : decode cX1_init 32 = .ok (.iconst 1, 1) := by decide +kernel
theorem dX1_init_33 : decode cX1_init 33 = .ok (.iconst 5, 1) := by decide +kernel
theorem dX1_init_34 : decode cX1_init 34 = .ok (.iastore, 1) := by decide +kernel
theorem dX1_init_35 : decode cX1_init 35 = .ok (.dup, 1) := by decide +kernel
theorem dX1_init_36 : decode cX1_init 36 = .ok (.iconst 2, 1) := by decide +kernel
theorem dX1_init_37 : decode cX1_init 37 = .ok (.iconst 3, 1) := by decide +kernel
theorem dX1_init_38 : decode cX1_init 38 = .ok (.iastore, 1) := by decide +kernel
theorem dX1_init_39 : decode cX1_init 39 = .ok (.dup, 1) := by decide +kernel
theorem dX1_init_40 : decode cX1_init 40 = .ok (.iconst 3, 1) := by decide +kernel
theorem dX1_init_41 : decode cX1_init 41 = .ok (.bipush 20, 2) := by decide +kernel
theorem dX1_init_43 : decode cX1_init 43 = .ok (.iastore, 1) := by decide +kernel
theorem dX1_init_44 : decode cX1_init 44 = .ok (.putfield 23, 3) := by decide +kernel
theorem dX1_init_47 : decode cX1_init 47 = .ok (.aload_n 0, 1) := by decide +kernel
theorem dX1_init_48 : decode cX1_init 48 = .ok (.iconst 1, 1) := by decide +kernel
theorem dX1_init_49 : decode cX1_init 49 = .ok (.putfield 27, 3) := by decide +kernel
theorem dX1_init_52 : decode cX1_init 52 = .ok (.iconst 0, 1) := by decide +kernel
theorem dX1_init_53 : decode cX1_init 53 = .ok (.istore_n 1, 1) := by decide +kernel
theorem dX1_init_54 : decode cX1_init 54 = .ok (.iload_n 1, 1) := by decide +kernel
theorem dX1_init_55 : decode cX1_init 55 = .ok (.bipush 8, 2) := by decide +kernel
theorem dX1_init_57 : decode cX1_init 57 = .ok (.if_icmp .ge 22, 3) := by decide +kernel
theorem dX1_init_60 : decode cX1_init 60 = .ok (.aload_n 0, 1) := by decide +kernel
theorem dX1_init_61 : decode cX1_init 61 = .ok (.getfield 11, 3) := by decide +kernel
theorem dX1_init_64 : decode cX1_init 64 = .ok (.iload_n 1, 1) := by decide +kernel
theorem dX1_init_65 : decode cX1_init 65 = .ok (.new 9, 3) := by decide +kernel
theorem dX1_init_68 : decode cX1_init 68 = .ok (.dup, 1) := by decide +kernel
theorem dX1_init_69 : decode cX1_init 69 = .ok (.invokespecial 31, 3) := by decide +kernel
theorem dX1_init_72 : decode cX1_init 72 = .ok (.aastore, 1) := by decide +kernel
theorem dX1_init_73 : decode cX1_init 73 = .ok (.iinc 1 1, 3) := by decide +kernel
theorem dX1_init_76 : decode cX1_init 76 = .ok (.goto (-22), 3) := by decide +kernel
theorem dX1_init_79 : decode cX1_init 79 = .ok (.iconst 0, 1) := by decide +kernel
theorem dX1_init_80 : decode cX1_init 80 = .ok (.istore_n 1, 1) := by decide +kernel
theorem dX1_init_81 : decode cX1_init 81 = .ok (.iload_n 1, 1) := by decide +kernel
theorem dX1_init_82 : decode cX1_init 82 = .ok (.bipush 8, 2) := by decide +kernel
theorem dX1_init_84 : decode cX1_init 84 = .ok (.if_icmp .ge 22, 3) := by decide +kernel
theorem dX1_init_87 : decode cX1_init 87 = .ok (.aload_n 0, 1) := by decide +kernel
theorem dX1_init_88 : decode cX1_init 88 = .ok (.getfield 19, 3) := by decide +kernel
theorem dX1_init_91 : decode cX1_init 91 = .ok (.iload_n 1, 1) := by decide +kernel
theorem dX1_init_92 : decode cX1_init 92 = .ok (.new 17, 3) := by decide +kernel
theorem dX1_init_95 : decode cX1_init 95 = .ok (.dup, 1) := by decide +kernel
theorem dX1_init_96 : decode cX1_init 96 = .ok (.invokespecial 32, 3) := by decide +kernel
theorem dX1_init_99 : decode cX1_init 99 = .ok (.aastore, 1) := by decide +kernel
theorem dX1_init_100 : decode cX1_init 100 = .ok (.iinc 1 1, 3) := by decide +kernel
theorem dX1_init_103 : decode cX1_init 103 = .ok (.goto (-22), 3) := by decide +kernel
theorem dX1_init_106 : decode cX1_init 106 = .ok (.return_, 1) := by decide +kernel
theorem dX1_hasChild_0 : decode cX1_hasChild 0 = .ok (.iload_n 1, 1) := by decide +kernel
theorem dX1_hasChild_1 : decode cX1_hasChild 1 = .ok (.ifCond .lt 15, 3) := by decide +kernel
theorem dX1_hasChild_4 : decode cX1_hasChild 4 = .ok (.iload_n 1, 1) := by decide +kernel
theorem dX1_hasChild_5 : decode cX1_hasChild 5 = .ok (.aload_n 0, 1) := by decide +kernel
theorem dX1_hasChild_6 : decode cX1_hasChild 6 = .ok (.getfield 33, 3) := by decide +kernel
theorem dX1_hasChild_9 : decode cX1_hasChild 9 = .ok (.if_icmp .ge 7, 3) := by decide +kernel
theorem dX1_hasChild_12 : decode cX1_hasChild 12 = .ok (.iconst 1, 1) := by decide +kernel
theorem dX1_hasChild_13 : decode cX1_hasChild 13 = .ok (.goto 4, 3) := by decide +kernel
theorem dX1_hasChild_16 : decode cX1_hasChild 16 = .ok (.iconst 0, 1) := by decide +kernel
theorem dX1_hasChild_17 : decode cX1_hasChild 17 = .ok (.ireturn, 1) := by decide +kernel
theorem dX1_hasSack_0 : decode cX1_hasSack 0 = .ok (.iload_n 1, 1) := by decide +kernel
theorem dX1_hasSack_1 : decode cX1_hasSack 1 = .ok (.ifCond .lt 15, 3) := by decide +kernel
theorem dX1_hasSack_4 : decode cX1_hasSack 4 = .ok (.iload_n 1, 1) := by decide +kernel
theorem dX1_hasSack_5 : decode cX1_hasSack 5 = .ok (.aload_n 0, 1) := by decide +kernel
theorem dX1_hasSack_6 : decode cX1_hasSack 6 = .ok (.getfield 36, 3) := by decide +kernel
theorem dX1_hasSack_9 : decode cX1_hasSack 9 = .ok (.if_icmp .ge 7, 3) := by decide +kernel
theorem dX1_hasSack_12 : decode cX1_hasSack 12 = .ok (.iconst 1, 1) := by decide +kernel
theorem dX1_hasSack_13 : decode cX1_hasSack 13 = .ok (.goto 4, 3) := by decide +kernel
theorem dX1_hasSack_16 : decode cX1_hasSack 16 = .ok (.iconst 0, 1) := by decide +kernel
theorem dX1_hasSack_17 : decode cX1_hasSack 17 = .ok (.ireturn, 1) := by decide +kernel
theorem dX1_addChild_0 : decode cX1_addChild 0 = .ok (.aload_n 0, 1) := by decide +kernel
theorem dX1_addChild_1 : decode cX1_addChild 1 = .ok (.getfield 33, 3) := by decide +kernel
theorem dX1_addChild_4 : decode cX1_addChild 4 = .ok (.bipush 8, 2) := by decide +kernel
theorem dX1_addChild_6 : decode cX1_addChild 6 = .ok (.if_icmp .lt 5, 3) := by decide +kernel
theorem dX1_addChild_9 : decode cX1_addChild 9 = .ok (.iconst (-1), 1) := by decide +kernel
theorem dX1_addChild_10 : decode cX1_addChild 10 = .ok (.ireturn, 1) := by decide +kernel
theorem dX1_addChild_11 : decode cX1_addChild 11 = .ok (.aload_n 0, 1) := by decide +kernel
theorem dX1_addChild_12 : decode cX1_addChild 12 = .ok (.getfield 33, 3) := by decide +kernel
theorem dX1_addChild_15 : decode cX1_addChild 15 = .ok (.istore 4, 2) := by decide +kernel
theorem dX1_addChild_17 : decode cX1_addChild 17 = .ok (.aload_n 0, 1) := by decide +kernel
theorem dX1_addChild_18 : decode cX1_addChild 18 = .ok (.getfield 11, 3) := by decide +kernel
theorem dX1_addChild_21 : decode cX1_addChild 21 = .ok (.iload 4, 2) := by decide +kernel
theorem dX1_addChild_23 : decode cX1_addChild 23 = .ok (.aaload, 1) := by decide +kernel
theorem dX1_addChild_24 : decode cX1_addChild 24 = .ok (.astore 5, 2) := by decide +kernel
theorem dX1_addChild_26 : decode cX1_addChild 26 = .ok (.aload 5, 2) := by decide +kernel
theorem dX1_addChild_28 : decode cX1_addChild 28 = .ok (.iload_n 1, 1) := by decide +kernel
theorem dX1_addChild_29 : decode cX1_addChild 29 = .ok (.putfield 39, 3) := by decide +kernel
theorem dX1_addChild_32 : decode cX1_addChild 32 = .ok (.aload 5, 2) := by decide +kernel
theorem dX1_addChild_34 : decode cX1_addChild 34 = .ok (.iload_n 2, 1) := by decide +kernel
theorem dX1_addChild_35 : decode cX1_addChild 35 = .ok (.putfield 42, 3) := by decide +kernel
theorem dX1_addChild_38 : decode cX1_addChild 38 = .ok (.aload 5, 2) := by decide +kernel
theorem dX1_addChild_40 : decode cX1_addChild 40 = .ok (.iload_n 3, 1) := by decide +kernel
theorem dX1_addChild_41 : decode cX1_addChild 41 = .ok (.putfield 45, 3) := by decide +kernel
theorem dX1_addChild_44 : decode cX1_addChild 44 = .ok (.aload 5, 2) := by decide +kernel
theorem dX1_addChild_46 : decode cX1_addChild 46 = .ok (.aload_n 0, 1) := by decide +kernel
theorem dX1_addChild_47 : decode cX1_addChild 47 = .ok (.iload 4, 2) := by decide +kernel
theorem dX1_addChild_49 : decode cX1_addChild 49 = .ok (.invokevirtual 48, 3) := by decide +kernel
theorem dX1_addChild_52 : decode cX1_addChild 52 = .ok (.ifCond .eq 8, 3) := by decide +kernel
theorem dX1_addChild_55 : decode cX1_addChild 55 = .ok (.iload 4, 2) := by decide +kernel
theorem dX1_addChild_57 : decode cX1_addChild 57 = .ok (.goto 4, 3) := by decide +kernel
theorem dX1_addChild_60 : decode cX1_addChild 60 = .ok (.iconst 0, 1) := by decide +kernel
theorem dX1_addChild_61 : decode cX1_addChild 61 = .ok (.putfield 52, 3) := by decide +kernel
theorem dX1_addChild_64 : decode cX1_addChild 64 = .ok (.aload 5, 2) := by decide +kernel
theorem dX1_addChild_66 : decode cX1_addChild 66 = .ok (.iconst 0, 1) := by decide +kernel
theorem dX1_addChild_67 : decode cX1_addChild 67 = .ok (.putfield 55, 3) := by decide +kernel
theorem dX1_addChild_70 : decode cX1_addChild 70 = .ok (.aload 5, 2) := by decide +kernel
theorem dX1_addChild_72 : decode cX1_addChild 72 = .ok (.iconst 0, 1) := by decide +kernel
theorem dX1_addChild_73 : decode cX1_addChild 73 = .ok (.putfield 58, 3) := by decide +kernel
theorem dX1_addChild_76 : decode cX1_addChild 76 = .ok (.aload_n 0, 1) := by decide +kernel
theorem dX1_addChild_77 : decode cX1_addChild 77 = .ok (.dup, 1) := by decide +kernel
theorem dX1_addChild_78 : decode cX1_addChild 78 = .ok (.getfield 33, 3) := by decide +kernel
theorem dX1_addChild_81 : decode cX1_addChild 81 = .ok (.iconst 1, 1) := by decide +kernel
theorem dX1_addChild_82 : decode cX1_addChild 82 = .ok (.iadd, 1) := by decide +kernel
theorem dX1_addChild_83 : decode cX1_addChild 83 = .ok (.putfield 33, 3) := by decide +kernel
theorem dX1_addChild_86 : decode cX1_addChild 86 = .ok (.iload 4, 2) := by decide +kernel
theorem dX1_addChild_88 : decode cX1_addChild 88 = .ok (.ireturn, 1) := by decide +kernel
theorem dX1_addSack_0 : decode cX1_addSack 0 = .ok (.aload_n 0, 1) := by decide +kernel
theorem dX1_addSack_1 : decode cX1_addSack 1 = .ok (.getfield 36, 3) := by decide +kernel
theorem dX1_addSack_4 : decode cX1_addSack 4 = .ok (.bipush 8, 2) := by decide +kernel
theorem dX1_addSack_6 : decode cX1_addSack 6 = .ok (.if_icmp .lt 5, 3) := by decide +kernel
theorem dX1_addSack_9 : decode cX1_addSack 9 = .ok (.iconst (-1), 1) := by decide +kernel
theorem dX1_addSack_10 : decode cX1_addSack 10 = .ok (.ireturn, 1) := by decide +kernel
theorem dX1_addSack_11 : decode cX1_addSack 11 = .ok (.aload_n 0, 1) := by decide +kernel
theorem dX1_addSack_12 : decode cX1_addSack 12 = .ok (.getfield 19, 3) := by decide +kernel
theorem dX1_addSack_15 : decode cX1_addSack 15 = .ok (.aload_n 0, 1) := by decide +kernel
theorem dX1_addSack_16 : decode cX1_addSack 16 = .ok (.getfield 36, 3) := by decide +kernel
theorem dX1_addSack_19 : decode cX1_addSack 19 = .ok (.aaload, 1) := by decide +kernel
theorem dX1_addSack_20 : decode cX1_addSack 20 = .ok (.iload_n 1, 1) := by decide +kernel
theorem dX1_addSack_21 : decode cX1_addSack 21 = .ok (.putfield 61, 3) := by decide +kernel
theorem dX1_addSack_24 : decode cX1_addSack 24 = .ok (.aload_n 0, 1) := by decide +kernel
theorem dX1_addSack_25 : decode cX1_addSack 25 = .ok (.getfield 19, 3) := by decide +kernel
theorem dX1_addSack_28 : decode cX1_addSack 28 = .ok (.aload_n 0, 1) := by decide +kernel
theorem dX1_addSack_29 : decode cX1_addSack 29 = .ok (.getfield 36, 3) := by decide +kernel
theorem dX1_addSack_32 : decode cX1_addSack 32 = .ok (.aaload, 1) := by decide +kernel
theorem dX1_addSack_33 : decode cX1_addSack 33 = .ok (.iload_n 2, 1) := by decide +kernel
theorem dX1_addSack_34 : decode cX1_addSack 34 = .ok (.putfield 64, 3) := by decide +kernel
theorem dX1_addSack_37 : decode cX1_addSack 37 = .ok (.aload_n 0, 1) := by decide +kernel
theorem dX1_addSack_38 : decode cX1_addSack 38 = .ok (.dup, 1) := by decide +kernel
theorem dX1_addSack_39 : decode cX1_addSack 39 = .ok (.getfield 36, 3) := by decide +kernel
theorem dX1_addSack_42 : decode cX1_addSack 42 = .ok (.iconst 1, 1) := by decide +kernel
theorem dX1_addSack_43 : decode cX1_addSack 43 = .ok (.iadd, 1) := by decide +kernel
theorem dX1_addSack_44 : decode cX1_addSack 44 = .ok (.putfield 36, 3) := by decide +kernel
theorem dX1_addSack_47 : decode cX1_addSack 47 = .ok (.aload_n 0, 1) := by decide +kernel
theorem dX1_addSack_48 : decode cX1_addSack 48 = .ok (.getfield 36, 3) := by decide +kernel
theorem dX1_addSack_51 : decode cX1_addSack 51 = .ok (.iconst 1, 1) := by decide +kernel
theorem dX1_addSack_52 : decode cX1_addSack 52 = .ok (.isub, 1) := by decide +kernel
theorem dX1_addSack_53 : decode cX1_addSack 53 = .ok (.ireturn, 1) := by decide +kernel
theorem dX1_setTerm_0 : decode cX1_setTerm 0 = .ok (.iload_n 1, 1) := by decide +kernel
theorem dX1_setTerm_1 : decode cX1_setTerm 1 = .ok (.invokestatic 67, 3) := by decide +kernel
theorem dX1_setTerm_4 : decode cX1_setTerm 4 = .ok (.ifCond .eq 10, 3) := by decide +kernel
theorem dX1_setTerm_7 : decode cX1_setTerm 7 = .ok (.aload_n 0, 1) := by decide +kernel
theorem dX1_setTerm_8 : decode cX1_setTerm 8 = .ok (.getfield 23, 3) := by decide +kernel
theorem dX1_setTerm_11 : decode cX1_setTerm 11 = .ok (.iload_n 1, 1) := by decide +kernel
theorem dX1_setTerm_12 : decode cX1_setTerm 12 = .ok (.iload_n 2, 1) := by decide +kernel
theorem dX1_setTerm_13 : decode cX1_setTerm 13 = .ok (.iastore, 1) := by decide +kernel
theorem dX1_setTerm_14 : decode cX1_setTerm 14 = .ok (.return_, 1) := by decide +kernel
theorem dX1_draw_0 : decode cX1_draw 0 = .ok (.aload_n 0, 1) := by decide +kernel
theorem dX1_draw_1 : decode cX1_draw 1 = .ok (.aload_n 0, 1) := by decide +kernel
theorem dX1_draw_2 : decode cX1_draw 2 = .ok (.getfield 27, 3) := by decide +kernel
theorem dX1_draw_5 : decode cX1_draw 5 = .ok (.ldc 70, 2) := by decide +kernel
theorem dX1_draw_7 : decode cX1_draw 7 = .ok (.imul, 1) := by decide +kernel
theorem dX1_draw_8 : decode cX1_draw 8 = .ok (.sipush 12345, 3) := by decide +kernel
theorem dX1_draw_11 : decode cX1_draw 11 = .ok (.iadd, 1) := by decide +kernel
theorem dX1_draw_12 : decode cX1_draw 12 = .ok (.putfield 27, 3) := by decide +kernel
theorem dX1_draw_15 : decode cX1_draw 15 = .ok (.iload_n 1, 1) := by decide +kernel
theorem dX1_draw_16 : decode cX1_draw 16 = .ok (.ifCond .le 15, 3) := by decide +kernel
theorem dX1_draw_19 : decode cX1_draw 19 = .ok (.aload_n 0, 1) := by decide +kernel
theorem dX1_draw_20 : decode cX1_draw 20 = .ok (.getfield 27, 3) := by decide +kernel
theorem dX1_draw_23 : decode cX1_draw 23 = .ok (.bipush 16, 2) := by decide +kernel
theorem dX1_draw_25 : decode cX1_draw 25 = .ok (.iushr, 1) := by decide +kernel
theorem dX1_draw_26 : decode cX1_draw 26 = .ok (.iload_n 1, 1) := by decide +kernel
theorem dX1_draw_27 : decode cX1_draw 27 = .ok (.irem, 1) := by decide +kernel
theorem dX1_draw_28 : decode cX1_draw 28 = .ok (.goto 4, 3) := by decide +kernel
theorem dX1_draw_31 : decode cX1_draw 31 = .ok (.iconst 0, 1) := by decide +kernel
theorem dX1_draw_32 : decode cX1_draw 32 = .ok (.ireturn, 1) := by decide +kernel
theorem dX1_become_0 : decode cX1_become 0 = .ok (.aload_n 0, 1) := by decide +kernel
theorem dX1_become_1 : decode cX1_become 1 = .ok (.aload_n 1, 1) := by decide +kernel
theorem dX1_become_2 : decode cX1_become 2 = .ok (.getfield 33, 3) := by decide +kernel
theorem dX1_become_5 : decode cX1_become 5 = .ok (.putfield 33, 3) := by decide +kernel
theorem dX1_become_8 : decode cX1_become 8 = .ok (.iconst 0, 1) := by decide +kernel
theorem dX1_become_9 : decode cX1_become 9 = .ok (.istore_n 2, 1) := by decide +kernel
theorem dX1_become_10 : decode cX1_become 10 = .ok (.iload_n 2, 1) := by decide +kernel
theorem dX1_become_11 : decode cX1_become 11 = .ok (.bipush 8, 2) := by decide +kernel
theorem dX1_become_13 : decode cX1_become 13 = .ok (.if_icmp .ge 24, 3) := by decide +kernel
theorem dX1_become_16 : decode cX1_become 16 = .ok (.aload_n 0, 1) := by decide +kernel
theorem dX1_become_17 : decode cX1_become 17 = .ok (.getfield 11, 3) := by decide +kernel
theorem dX1_become_20 : decode cX1_become 20 = .ok (.iload_n 2, 1) := by decide +kernel
theorem dX1_become_21 : decode cX1_become 21 = .ok (.aaload, 1) := by decide +kernel
theorem dX1_become_22 : decode cX1_become 22 = .ok (.aload_n 1, 1) := by decide +kernel
theorem dX1_become_23 : decode cX1_become 23 = .ok (.getfield 11, 3) := by decide +kernel
theorem dX1_become_26 : decode cX1_become 26 = .ok (.iload_n 2, 1) := by decide +kernel
theorem dX1_become_27 : decode cX1_become 27 = .ok (.aaload, 1) := by decide +kernel
theorem dX1_become_28 : decode cX1_become 28 = .ok (.invokevirtual 71, 3) := by decide +kernel
theorem dX1_become_31 : decode cX1_become 31 = .ok (.iinc 2 1, 3) := by decide +kernel
theorem dX1_become_34 : decode cX1_become 34 = .ok (.goto (-24), 3) := by decide +kernel
theorem dX1_become_37 : decode cX1_become 37 = .ok (.aload_n 0, 1) := by decide +kernel
theorem dX1_become_38 : decode cX1_become 38 = .ok (.aload_n 1, 1) := by decide +kernel
theorem dX1_become_39 : decode cX1_become 39 = .ok (.getfield 36, 3) := by decide +kernel
theorem dX1_become_42 : decode cX1_become 42 = .ok (.putfield 36, 3) := by decide +kernel
theorem dX1_become_45 : decode cX1_become 45 = .ok (.iconst 0, 1) := by decide +kernel
theorem dX1_become_46 : decode cX1_become 46 = .ok (.istore_n 2, 1) := by decide +kernel
theorem dX1_become_47 : decode cX1_become 47 = .ok (.iload_n 2, 1) := by decide +kernel
theorem dX1_become_48 : decode cX1_become 48 = .ok (.bipush 8, 2) := by decide +kernel
theorem dX1_become_50 : decode cX1_become 50 = .ok (.if_icmp .ge 45, 3) := by decide +kernel
theorem dX1_become_53 : decode cX1_become 53 = .ok (.aload_n 0, 1) := by decide +kernel
theorem dX1_become_54 : decode cX1_become 54 = .ok (.getfield 19, 3) := by decide +kernel
theorem dX1_become_57 : decode cX1_become 57 = .ok (.iload_n 2, 1) := by decide +kernel
theorem dX1_become_58 : decode cX1_become 58 = .ok (.aaload, 1) := by decide +kernel
theorem dX1_become_59 : decode cX1_become 59 = .ok (.aload_n 1, 1) := by decide +kernel
theorem dX1_become_60 : decode cX1_become 60 = .ok (.getfield 19, 3) := by decide +kernel
theorem dX1_become_63 : decode cX1_become 63 = .ok (.iload_n 2, 1) := by decide +kernel
theorem dX1_become_64 : decode cX1_become 64 = .ok (.aaload, 1) := by decide +kernel
theorem dX1_become_65 : decode cX1_become 65 = .ok (.getfield 61, 3) := by decide +kernel
theorem dX1_become_68 : decode cX1_become 68 = .ok (.putfield 61, 3) := by decide +kernel
theorem dX1_become_71 : decode cX1_become 71 = .ok (.aload_n 0, 1) := by decide +kernel
theorem dX1_become_72 : decode cX1_become 72 = .ok (.getfield 19, 3) := by decide +kernel
theorem dX1_become_75 : decode cX1_become 75 = .ok (.iload_n 2, 1) := by decide +kernel
theorem dX1_become_76 : decode cX1_become 76 = .ok (.aaload, 1) := by decide +kernel
theorem dX1_become_77 : decode cX1_become 77 = .ok (.aload_n 1, 1) := by decide +kernel
theorem dX1_become_78 : decode cX1_become 78 = .ok (.getfield 19, 3) := by decide +kernel
theorem dX1_become_81 : decode cX1_become 81 = .ok (.iload_n 2, 1) := by decide +kernel
theorem dX1_become_82 : decode cX1_become 82 = .ok (.aaload, 1) := by decide +kernel
theorem dX1_become_83 : decode cX1_become 83 = .ok (.getfield 64, 3) := by decide +kernel
theorem dX1_become_86 : decode cX1_become 86 = .ok (.putfield 64, 3) := by decide +kernel
theorem dX1_become_89 : decode cX1_become 89 = .ok (.iinc 2 1, 3) := by decide +kernel
theorem dX1_become_92 : decode cX1_become 92 = .ok (.goto (-45), 3) := by decide +kernel
theorem dX1_become_95 : decode cX1_become 95 = .ok (.aload_n 1, 1) := by decide +kernel
theorem dX1_become_96 : decode cX1_become 96 = .ok (.getfield 23, 3) := by decide +kernel
theorem dX1_become_99 : decode cX1_become 99 = .ok (.iconst 0, 1) := by decide +kernel
theorem dX1_become_100 : decode cX1_become 100 = .ok (.aload_n 0, 1) := by decide +kernel
theorem dX1_become_101 : decode cX1_become 101 = .ok (.getfield 23, 3) := by decide +kernel
theorem dX1_become_104 : decode cX1_become 104 = .ok (.iconst 0, 1) := by decide +kernel
theorem dX1_become_105 : decode cX1_become 105 = .ok (.iconst 4, 1) := by decide +kernel
theorem dX1_become_106 : decode cX1_become 106 = .ok (.invokestatic 75, 3) := by decide +kernel
theorem dX1_become_109 : decode cX1_become 109 = .ok (.aload_n 0, 1) := by decide +kernel
theorem dX1_become_110 : decode cX1_become 110 = .ok (.aload_n 1, 1) := by decide +kernel
theorem dX1_become_111 : decode cX1_become 111 = .ok (.getfield 81, 3) := by decide +kernel
theorem dX1_become_114 : decode cX1_become 114 = .ok (.putfield 81, 3) := by decide +kernel
theorem dX1_become_117 : decode cX1_become 117 = .ok (.aload_n 0, 1) := by decide +kernel
theorem dX1_become_118 : decode cX1_become 118 = .ok (.aload_n 1, 1) := by decide +kernel
theorem dX1_become_119 : decode cX1_become 119 = .ok (.getfield 85, 3) := by decide +kernel
theorem dX1_become_122 : decode cX1_become 122 = .ok (.putfield 85, 3) := by decide +kernel
theorem dX1_become_125 : decode cX1_become 125 = .ok (.aload_n 0, 1) := by decide +kernel
theorem dX1_become_126 : decode cX1_become 126 = .ok (.aload_n 1, 1) := by decide +kernel
theorem dX1_become_127 : decode cX1_become 127 = .ok (.getfield 27, 3) := by decide +kernel
theorem dX1_become_130 : decode cX1_become 130 = .ok (.putfield 27, 3) := by decide +kernel
theorem dX1_become_133 : decode cX1_become 133 = .ok (.return_, 1) := by decide +kernel
theorem dX2_init_0 : decode cX2_init 0 = .ok (.aload_n 0, 1) := by decide +kernel
theorem dX2_init_1 : decode cX2_init 1 = .ok (.invokespecial 3, 3) := by decide +kernel
theorem dX2_init_4 : decode cX2_init 4 = .ok (.aload_n 0, 1) := by decide +kernel
theorem dX2_init_5 : decode cX2_init 5 = .ok (.bipush 40, 2) := by decide +kernel
theorem dX2_init_7 : decode cX2_init 7 = .ok (.newarray .int, 2) := by decide +kernel
theorem dX2_init_9 : decode cX2_init 9 = .ok (.putfield 9, 3) := by decide +kernel
theorem dX2_init_12 : decode cX2_init 12 = .ok (.aload_n 0, 1) := by decide +kernel
theorem dX2_init_13 : decode cX2_init 13 = .ok (.iconst 5, 1) := by decide +kernel
theorem dX2_init_14 : decode cX2_init 14 = .ok (.newarray .int, 2) := by decide +kernel
theorem dX2_init_16 : decode cX2_init 16 = .ok (.putfield 15, 3) := by decide +kernel
theorem dX2_init_19 : decode cX2_init 19 = .ok (.aload_n 0, 1) := by decide +kernel
theorem dX2_init_20 : decode cX2_init 20 = .ok (.iconst 5, 1) := by decide +kernel
theorem dX2_init_21 : decode cX2_init 21 = .ok (.newarray .int, 2) := by decide +kernel
theorem dX2_init_23 : decode cX2_init 23 = .ok (.putfield 18, 3) := by decide +kernel
theorem dX2_init_26 : decode cX2_init 26 = .ok (.return_, 1) := by decide +kernel
theorem dX2_tell_0 : decode cX2_tell 0 = .ok (.iload_n 1, 1) := by decide +kernel
theorem dX2_tell_1 : decode cX2_tell 1 = .ok (.ifCond .lt 30, 3) := by decide +kernel
theorem dX2_tell_4 : decode cX2_tell 4 = .ok (.iload_n 1, 1) := by decide +kernel
theorem dX2_tell_5 : decode cX2_tell 5 = .ok (.iconst 5, 1) := by decide +kernel
theorem dX2_tell_6 : decode cX2_tell 6 = .ok (.if_icmp .ge 25, 3) := by decide +kernel
theorem dX2_tell_9 : decode cX2_tell 9 = .ok (.iload_n 2, 1) := by decide +kernel
theorem dX2_tell_10 : decode cX2_tell 10 = .ok (.ifCond .lt 21, 3) := by decide +kernel
theorem dX2_tell_13 : decode cX2_tell 13 = .ok (.iload_n 2, 1) := by decide +kernel
theorem dX2_tell_14 : decode cX2_tell 14 = .ok (.bipush 8, 2) := by decide +kernel
theorem dX2_tell_16 : decode cX2_tell 16 = .ok (.if_icmp .ge 15, 3) := by decide +kernel
theorem dX2_tell_19 : decode cX2_tell 19 = .ok (.aload_n 0, 1) := by decide +kernel
theorem dX2_tell_20 : decode cX2_tell 20 = .ok (.getfield 9, 3) := by decide +kernel
theorem dX2_tell_23 : decode cX2_tell 23 = .ok (.iload_n 1, 1) := by decide +kernel
theorem dX2_tell_24 : decode cX2_tell 24 = .ok (.bipush 8, 2) := by decide +kernel
theorem dX2_tell_26 : decode cX2_tell 26 = .ok (.imul, 1) := by decide +kernel
theorem dX2_tell_27 : decode cX2_tell 27 = .ok (.iload_n 2, 1) := by decide +kernel
theorem dX2_tell_28 : decode cX2_tell 28 = .ok (.iadd, 1) := by decide +kernel
theorem dX2_tell_29 : decode cX2_tell 29 = .ok (.iload_n 3, 1) := by decide +kernel
theorem dX2_tell_30 : decode cX2_tell 30 = .ok (.iastore, 1) := by decide +kernel
theorem dX2_tell_31 : decode cX2_tell 31 = .ok (.return_, 1) := by decide +kernel
theorem dX2_find_0 : decode cX2_find 0 = .ok (.aload_n 0, 1) := by decide +kernel
theorem dX2_find_1 : decode cX2_find 1 = .ok (.iload_n 1, 1) := by decide +kernel
theorem dX2_find_2 : decode cX2_find 2 = .ok (.putfield 21, 3) := by decide +kernel
theorem dX2_find_5 : decode cX2_find 5 = .ok (.aload_n 0, 1) := by decide +kernel
theorem dX2_find_6 : decode cX2_find 6 = .ok (.iload_n 2, 1) := by decide +kernel
theorem dX2_find_7 : decode cX2_find 7 = .ok (.iconst 5, 1) := by decide +kernel
theorem dX2_find_8 : decode cX2_find 8 = .ok (.invokestatic 25, 3) := by decide +kernel
theorem dX2_find_11 : decode cX2_find 11 = .ok (.putfield 31, 3) := by decide +kernel
theorem dX2_find_14 : decode cX2_find 14 = .ok (.aload_n 0, 1) := by decide +kernel
theorem dX2_find_15 : decode cX2_find 15 = .ok (.iload_n 3, 1) := by decide +kernel
theorem dX2_find_16 : decode cX2_find 16 = .ok (.bipush 8, 2) := by decide +kernel
theorem dX2_find_18 : decode cX2_find 18 = .ok (.invokestatic 25, 3) := by decide +kernel
theorem dX2_find_21 : decode cX2_find 21 = .ok (.putfield 34, 3) := by decide +kernel
theorem dX2_find_24 : decode cX2_find 24 = .ok (.aload_n 0, 1) := by decide +kernel
theorem dX2_find_25 : decode cX2_find 25 = .ok (.ldc 39, 2) := by decide +kernel
theorem dX2_find_27 : decode cX2_find 27 = .ok (.putfield 40, 3) := by decide +kernel
theorem dX2_find_30 : decode cX2_find 30 = .ok (.aload_n 0, 1) := by decide +kernel
theorem dX2_find_31 : decode cX2_find 31 = .ok (.iconst 0, 1) := by decide +kernel
theorem dX2_find_32 : decode cX2_find 32 = .ok (.iconst 0, 1) := by decide +kernel
theorem dX2_find_33 : decode cX2_find 33 = .ok (.iconst 0, 1) := by decide +kernel
theorem dX2_find_34 : decode cX2_find 34 = .ok (.iconst 0, 1) := by decide +kernel
theorem dX2_find_35 : decode cX2_find 35 = .ok (.sipush 999, 3) := by decide +kernel
theorem dX2_find_38 : decode cX2_find 38 = .ok (.invokestatic 43, 3) := by decide +kernel
theorem dX2_find_41 : decode cX2_find 41 = .ok (.return_, 1) := by decide +kernel
theorem dX2_giveFrom_0 : decode cX2_giveFrom 0 = .ok (.aload_n 0, 1) := by decide +kernel
theorem dX2_giveFrom_1 : decode cX2_giveFrom 1 = .ok (.getfield 21, 3) := by decide +kernel
theorem dX2_giveFrom_4 : decode cX2_giveFrom 4 = .ok (.ifCond .ne 7, 3) := by decide +kernel
theorem dX2_giveFrom_7 : decode cX2_giveFrom 7 = .ok (.iload_n 3, 1) := by decide +kernel
theorem dX2_giveFrom_8 : decode cX2_giveFrom 8 = .ok (.goto 21, 3) := by decide +kernel
theorem dX2_giveFrom_11 : decode cX2_giveFrom 11 = .ok (.aload_n 0, 1) := by decide +kernel
theorem dX2_giveFrom_12 : decode cX2_giveFrom 12 = .ok (.getfield 21, 3) := by decide +kernel
theorem dX2_giveFrom_15 : decode cX2_giveFrom 15 = .ok (.iconst 1, 1) := by decide +kernel
theorem dX2_giveFrom_16 : decode cX2_giveFrom 16 = .ok (.if_icmp .ne 8, 3) := by decide +kernel
theorem dX2_giveFrom_19 : decode cX2_giveFrom 19 = .ok (.iload 4, 2) := by decide +kernel
theorem dX2_giveFrom_21 : decode cX2_giveFrom 21 = .ok (.goto 8, 3) := by decide +kernel
theorem dX2_giveFrom_24 : decode cX2_giveFrom 24 = .ok (.iload 4, 2) := by decide +kernel
theorem dX2_giveFrom_26 : decode cX2_giveFrom 26 = .ok (.iload 5, 2) := by decide +kernel
theorem dX2_giveFrom_28 : decode cX2_giveFrom 28 = .ok (.isub, 1) := by decide +kernel
theorem dX2_giveFrom_29 : decode cX2_giveFrom 29 = .ok (.istore 6, 2) := by decide +kernel
theorem dX2_giveFrom_31 : decode cX2_giveFrom 31 = .ok (.iload 6, 2) := by decide +kernel
theorem dX2_giveFrom_33 : decode cX2_giveFrom 33 = .ok (.aload_n 0, 1) := by decide +kernel
theorem dX2_giveFrom_34 : decode cX2_giveFrom 34 = .ok (.getfield 40, 3) := by decide +kernel
theorem dX2_giveFrom_37 : decode cX2_giveFrom 37 = .ok (.if_icmp .lt 4, 3) := by decide +kernel
theorem dX2_giveFrom_40 : decode cX2_giveFrom 40 = .ok (.return_, 1) := by decide +kernel
theorem dX2_giveFrom_41 : decode cX2_giveFrom 41 = .ok (.iload_n 1, 1) := by decide +kernel
theorem dX2_giveFrom_42 : decode cX2_giveFrom 42 = .ok (.aload_n 0, 1) := by decide +kernel
theorem dX2_giveFrom_43 : decode cX2_giveFrom 43 = .ok (.getfield 31, 3) := by decide +kernel
theorem dX2_giveFrom_46 : decode cX2_giveFrom 46 = .ok (.if_icmp .ge 8, 3) := by decide +kernel
theorem dX2_giveFrom_49 : decode cX2_giveFrom 49 = .ok (.iload_n 1, 1) := by decide +kernel
theorem dX2_giveFrom_50 : decode cX2_giveFrom 50 = .ok (.iconst 5, 1) := by decide +kernel
theorem dX2_giveFrom_51 : decode cX2_giveFrom 51 = .ok (.if_icmp .lt 24, 3) := by decide +kernel
theorem dX2_giveFrom_54 : decode cX2_giveFrom 54 = .ok (.aload_n 0, 1) := by decide +kernel
theorem dX2_giveFrom_55 : decode cX2_giveFrom 55 = .ok (.iload 6, 2) := by decide +kernel
theorem dX2_giveFrom_57 : decode cX2_giveFrom 57 = .ok (.putfield 40, 3) := by decide +kernel
theorem dX2_giveFrom_60 : decode cX2_giveFrom 60 = .ok (.aload_n 0, 1) := by decide +kernel
theorem dX2_giveFrom_61 : decode cX2_giveFrom 61 = .ok (.getfield 15, 3) := by decide +kernel
theorem dX2_giveFrom_64 : decode cX2_giveFrom 64 = .ok (.iconst 0, 1) := by decide +kernel
theorem dX2_giveFrom_65 : decode cX2_giveFrom 65 = .ok (.aload_n 0, 1) := by decide +kernel
theorem dX2_giveFrom_66 : decode cX2_giveFrom 66 = .ok (.getfield 18, 3) := by decide +kernel
theorem dX2_giveFrom_69 : decode cX2_giveFrom 69 = .ok (.iconst 0, 1) := by decide +kernel
theorem dX2_giveFrom_70 : decode cX2_giveFrom 70 = .ok (.iconst 5, 1) := by decide +kernel
theorem dX2_giveFrom_71 : decode cX2_giveFrom 71 = .ok (.invokestatic 47, 3) := by decide +kernel
theorem dX2_giveFrom_74 : decode cX2_giveFrom 74 = .ok (.return_, 1) := by decide +kernel
theorem dX2_giveFrom_75 : decode cX2_giveFrom 75 = .ok (.iconst 0, 1) := by decide +kernel
theorem dX2_giveFrom_76 : decode cX2_giveFrom 76 = .ok (.istore 7, 2) := by decide +kernel
theorem dX2_giveFrom_78 : decode cX2_giveFrom 78 = .ok (.iload 7, 2) := by decide +kernel
theorem dX2_giveFrom_80 : decode cX2_giveFrom 80 = .ok (.aload_n 0, 1) := by decide +kernel
theorem dX2_giveFrom_81 : decode cX2_giveFrom 81 = .ok (.getfield 34, 3) := by decide +kernel
theorem dX2_giveFrom_84 : decode cX2_giveFrom 84 = .ok (.if_icmp .ge 71, 3) := by decide +kernel
theorem dX2_giveFrom_87 : decode cX2_giveFrom 87 = .ok (.iload_n 2, 1) := by decide +kernel
theorem dX2_giveFrom_88 : decode cX2_giveFrom 88 = .ok (.iload 7, 2) := by decide +kernel
theorem dX2_giveFrom_90 : decode cX2_giveFrom 90 = .ok (.ishr, 1) := by decide +kernel
theorem dX2_giveFrom_91 : decode cX2_giveFrom 91 = .ok (.iconst 1, 1) := by decide +kernel
theorem dX2_giveFrom_92 : decode cX2_giveFrom 92 = .ok (.iand, 1) := by decide +kernel
theorem dX2_giveFrom_93 : decode cX2_giveFrom 93 = .ok (.ifCond .ne 56, 3) := by decide +kernel
theorem dX2_giveFrom_96 : decode cX2_giveFrom 96 = .ok (.aload_n 0, 1) := by decide +kernel
theorem dX2_giveFrom_97 : decode cX2_giveFrom 97 = .ok (.getfield 9, 3) := by decide +kernel
theorem dX2_giveFrom_100 : decode cX2_giveFrom 100 = .ok (.iload_n 1, 1) := by decide +kernel
theorem dX2_giveFrom_101 : decode cX2_giveFrom 101 = .ok (.bipush 8, 2) := by decide +kernel
theorem dX2_giveFrom_103 : decode cX2_giveFrom 103 = .ok (.imul, 1) := by decide +kernel
theorem dX2_giveFrom_104 : decode cX2_giveFrom 104 = .ok (.iload 7, 2) := by decide +kernel
theorem dX2_giveFrom_106 : decode cX2_giveFrom 106 = .ok (.iadd, 1) := by decide +kernel
theorem dX2_giveFrom_107 : decode cX2_giveFrom 107 = .ok (.iaload, 1) := by decide +kernel
theorem dX2_giveFrom_108 : decode cX2_giveFrom 108 = .ok (.istore 8, 2) := by decide +kernel
theorem dX2_giveFrom_110 : decode cX2_giveFrom 110 = .ok (.aload_n 0, 1) := by decide +kernel
theorem dX2_giveFrom_111 : decode cX2_giveFrom 111 = .ok (.getfield 15, 3) := by decide +kernel
theorem dX2_giveFrom_114 : decode cX2_giveFrom 114 = .ok (.iload_n 1, 1) := by decide +kernel
theorem dX2_giveFrom_115 : decode cX2_giveFrom 115 = .ok (.iload 7, 2) := by decide +kernel
theorem dX2_giveFrom_117 : decode cX2_giveFrom 117 = .ok (.iastore, 1) := by decide +kernel
theorem dX2_giveFrom_118 : decode cX2_giveFrom 118 = .ok (.aload_n 0, 1) := by decide +kernel
theorem dX2_giveFrom_119 : decode cX2_giveFrom 119 = .ok (.iload_n 1, 1) := by decide +kernel
theorem dX2_giveFrom_120 : decode cX2_giveFrom 120 = .ok (.iconst 1, 1) := by decide +kernel
theorem dX2_giveFrom_121 : decode cX2_giveFrom 121 = .ok (.iadd, 1) := by decide +kernel
theorem dX2_giveFrom_122 : decode cX2_giveFrom 122 = .ok (.iload_n 2, 1) := by decide +kernel
theorem dX2_giveFrom_123 : decode cX2_giveFrom 123 = .ok (.iconst 1, 1) := by decide +kernel
theorem dX2_giveFrom_124 : decode cX2_giveFrom 124 = .ok (.iload 7, 2) := by decide +kernel
theorem dX2_giveFrom_126 : decode cX2_giveFrom 126 = .ok (.ishl, 1) := by decide +kernel
theorem dX2_giveFrom_127 : decode cX2_giveFrom 127 = .ok (.ior, 1) := by decide +kernel
theorem dX2_giveFrom_128 : decode cX2_giveFrom 128 = .ok (.iload_n 3, 1) := by decide +kernel
theorem dX2_giveFrom_129 : decode cX2_giveFrom 129 = .ok (.iload 8, 2) := by decide +kernel
theorem dX2_giveFrom_131 : decode cX2_giveFrom 131 = .ok (.iadd, 1) := by decide +kernel
theorem dX2_giveFrom_132 : decode cX2_giveFrom 132 = .ok (.iload 4, 2) := by decide +kernel
theorem dX2_giveFrom_134 : decode cX2_giveFrom 134 = .ok (.iload 8, 2) := by decide +kernel
theorem dX2_giveFrom_136 : decode cX2_giveFrom 136 = .ok (.invokestatic 53, 3) := by decide +kernel
theorem dX2_giveFrom_139 : decode cX2_giveFrom 139 = .ok (.iload 5, 2) := by decide +kernel
theorem dX2_giveFrom_141 : decode cX2_giveFrom 141 = .ok (.iload 8, 2) := by decide +kernel
theorem dX2_giveFrom_143 : decode cX2_giveFrom 143 = .ok (.invokestatic 25, 3) := by decide +kernel
theorem dX2_giveFrom_146 : decode cX2_giveFrom 146 = .ok (.invokestatic 43, 3) := by decide +kernel
theorem dX2_giveFrom_149 : decode cX2_giveFrom 149 = .ok (.iinc 7 1, 3) := by decide +kernel
theorem dX2_giveFrom_152 : decode cX2_giveFrom 152 = .ok (.goto (-74), 3) := by decide +kernel
theorem dX2_giveFrom_155 : decode cX2_giveFrom 155 = .ok (.return_, 1) := by decide +kernel
theorem dX3_init_0 : decode cX3_init 0 = .ok (.aload_n 0, 1) := by decide +kernel
theorem dX3_init_1 : decode cX3_init 1 = .ok (.invokespecial 3, 3) := by decide +kernel
theorem dX3_init_4 : decode cX3_init 4 = .ok (.aload_n 0, 1) := by decide +kernel
theorem dX3_init_5 : decode cX3_init 5 = .ok (.bipush 20, 2) := by decide +kernel
theorem dX3_init_7 : decode cX3_init 7 = .ok (.newarray .int, 2) := by decide +kernel
theorem dX3_init_9 : decode cX3_init 9 = .ok (.putfield 11, 3) := by decide +kernel
theorem dX3_init_12 : decode cX3_init 12 = .ok (.return_, 1) := by decide +kernel
theorem dX3_run_0 : decode cX3_run 0 = .ok (.aload_n 0, 1) := by decide +kernel
theorem dX3_run_1 : decode cX3_run 1 = .ok (.aload_n 1, 1) := by decide +kernel
theorem dX3_run_2 : decode cX3_run 2 = .ok (.getfield 15, 3) := by decide +kernel
theorem dX3_run_5 : decode cX3_run 5 = .ok (.putfield 21, 3) := by decide +kernel
theorem dX3_run_8 : decode cX3_run 8 = .ok (.aload_n 0, 1) := by decide +kernel
theorem dX3_run_9 : decode cX3_run 9 = .ok (.iload_n 2, 1) := by decide +kernel
theorem dX3_run_10 : decode cX3_run 10 = .ok (.putfield 22, 3) := by decide +kernel
theorem dX3_run_13 : decode cX3_run 13 = .ok (.aload_n 0, 1) := by decide +kernel
theorem dX3_run_14 : decode cX3_run 14 = .ok (.aload_n 1, 1) := by decide +kernel
theorem dX3_run_15 : decode cX3_run 15 = .ok (.getfield 25, 3) := by decide +kernel
theorem dX3_run_18 : decode cX3_run 18 = .ok (.putfield 28, 3) := by decide +kernel
theorem dX3_run_21 : decode cX3_run 21 = .ok (.aload_n 0, 1) := by decide +kernel
theorem dX3_run_22 : decode cX3_run 22 = .ok (.iload_n 3, 1) := by decide +kernel
theorem dX3_run_23 : decode cX3_run 23 = .ok (.aload_n 0, 1) := by decide +kernel
theorem dX3_run_24 : decode cX3_run 24 = .ok (.getfield 21, 3) := by decide +kernel
theorem dX3_run_27 : decode cX3_run 27 = .ok (.iload 4, 2) := by decide +kernel
theorem dX3_run_29 : decode cX3_run 29 = .ok (.iconst 0, 1) := by decide +kernel
theorem dX3_run_30 : decode cX3_run 30 = .ok (.invokestatic 31, 3) := by decide +kernel
theorem dX3_run_33 : decode cX3_run 33 = .ok (.ireturn, 1) := by decide +kernel
theorem dX3_forget_0 : decode cX3_forget 0 = .ok (.aload_n 0, 1) := by decide +kernel
theorem dX3_forget_1 : decode cX3_forget 1 = .ok (.iconst 0, 1) := by decide +kernel
theorem dX3_forget_2 : decode cX3_forget 2 = .ok (.putfield 35, 3) := by decide +kernel
theorem dX3_forget_5 : decode cX3_forget 5 = .ok (.return_, 1) := by decide +kernel
theorem dX3_noted_0 : decode cX3_noted 0 = .ok (.iload_n 1, 1) := by decide +kernel
theorem dX3_noted_1 : decode cX3_noted 1 = .ok (.ifCond .lt 26, 3) := by decide +kernel
theorem dX3_noted_4 : decode cX3_noted 4 = .ok (.iload_n 1, 1) := by decide +kernel
theorem dX3_noted_5 : decode cX3_noted 5 = .ok (.aload_n 0, 1) := by decide +kernel
theorem dX3_noted_6 : decode cX3_noted 6 = .ok (.getfield 35, 3) := by decide +kernel
theorem dX3_noted_9 : decode cX3_noted 9 = .ok (.if_icmp .ge 18, 3) := by decide +kernel
theorem dX3_noted_12 : decode cX3_noted 12 = .ok (.iload_n 1, 1) := by decide +kernel
theorem dX3_noted_13 : decode cX3_noted 13 = .ok (.bipush 20, 2) := by decide +kernel
theorem dX3_noted_15 : decode cX3_noted 15 = .ok (.if_icmp .ge 12, 3) := by decide +kernel
theorem dX3_noted_18 : decode cX3_noted 18 = .ok (.aload_n 0, 1) := by decide +kernel
theorem dX3_noted_19 : decode cX3_noted 19 = .ok (.getfield 11, 3) := by decide +kernel
theorem dX3_noted_22 : decode cX3_noted 22 = .ok (.iload_n 1, 1) := by decide +kernel
theorem dX3_noted_23 : decode cX3_noted 23 = .ok (.iaload, 1) := by decide +kernel
theorem dX3_noted_24 : decode cX3_noted 24 = .ok (.goto 4, 3) := by decide +kernel
theorem dX3_noted_27 : decode cX3_noted 27 = .ok (.iconst (-1), 1) := by decide +kernel
theorem dX3_noted_28 : decode cX3_noted 28 = .ok (.ireturn, 1) := by decide +kernel
theorem dX3_note_0 : decode cX3_note 0 = .ok (.aload_n 0, 1) := by decide +kernel
theorem dX3_note_1 : decode cX3_note 1 = .ok (.getfield 35, 3) := by decide +kernel
theorem dX3_note_4 : decode cX3_note 4 = .ok (.bipush 20, 2) := by decide +kernel
theorem dX3_note_6 : decode cX3_note 6 = .ok (.if_icmp .ge 13, 3) := by decide +kernel
theorem dX3_note_9 : decode cX3_note 9 = .ok (.aload_n 0, 1) := by decide +kernel
theorem dX3_note_10 : decode cX3_note 10 = .ok (.getfield 11, 3) := by decide +kernel
theorem dX3_note_13 : decode cX3_note 13 = .ok (.aload_n 0, 1) := by decide +kernel
theorem dX3_note_14 : decode cX3_note 14 = .ok (.getfield 35, 3) := by decide +kernel
theorem dX3_note_17 : decode cX3_note 17 = .ok (.iload_n 1, 1) := by decide +kernel
theorem dX3_note_18 : decode cX3_note 18 = .ok (.iastore, 1) := by decide +kernel
theorem dX3_note_19 : decode cX3_note 19 = .ok (.aload_n 0, 1) := by decide +kernel
theorem dX3_note_20 : decode cX3_note 20 = .ok (.dup, 1) := by decide +kernel
theorem dX3_note_21 : decode cX3_note 21 = .ok (.getfield 35, 3) := by decide +kernel
theorem dX3_note_24 : decode cX3_note 24 = .ok (.iconst 1, 1) := by decide +kernel
theorem dX3_note_25 : decode cX3_note 25 = .ok (.iadd, 1) := by decide +kernel
theorem dX3_note_26 : decode cX3_note 26 = .ok (.putfield 35, 3) := by decide +kernel
theorem dX3_note_29 : decode cX3_note 29 = .ok (.return_, 1) := by decide +kernel
theorem dX3_holderOf_0 : decode cX3_holderOf 0 = .ok (.iload_n 1, 1) := by decide +kernel
theorem dX3_holderOf_1 : decode cX3_holderOf 1 = .ok (.istore_n 2, 1) := by decide +kernel
theorem dX3_holderOf_2 : decode cX3_holderOf 2 = .ok (.iconst 0, 1) := by decide +kernel
theorem dX3_holderOf_3 : decode cX3_holderOf 3 = .ok (.istore_n 3, 1) := by decide +kernel
theorem dX3_holderOf_4 : decode cX3_holderOf 4 = .ok (.iload_n 3, 1) := by decide +kernel
theorem dX3_holderOf_5 : decode cX3_holderOf 5 = .ok (.bipush 7, 2) := by decide +kernel
theorem dX3_holderOf_7 : decode cX3_holderOf 7 = .ok (.if_icmp .ge 35, 3) := by decide +kernel
theorem dX3_holderOf_10 : decode cX3_holderOf 10 = .ok (.iload_n 2, 1) := by decide +kernel
theorem dX3_holderOf_11 : decode cX3_holderOf 11 = .ok (.invokestatic 38, 3) := by decide +kernel
theorem dX3_holderOf_14 : decode cX3_holderOf 14 = .ok (.ifCond .eq 28, 3) := by decide +kernel
theorem dX3_holderOf_17 : decode cX3_holderOf 17 = .ok (.getstatic 42, 3) := by decide +kernel
theorem dX3_holderOf_20 : decode cX3_holderOf 20 = .ok (.iload_n 0, 1) := by decide +kernel
theorem dX3_holderOf_21 : decode cX3_holderOf 21 = .ok (.bipush 7, 2) := by decide +kernel
theorem dX3_holderOf_23 : decode cX3_holderOf 23 = .ok (.imul, 1) := by decide +kernel
theorem dX3_holderOf_24 : decode cX3_holderOf 24 = .ok (.iload_n 2, 1) := by decide +kernel
theorem dX3_holderOf_25 : decode cX3_holderOf 25 = .ok (.iadd, 1) := by decide +kernel
theorem dX3_holderOf_26 : decode cX3_holderOf 26 = .ok (.iaload, 1) := by decide +kernel
theorem dX3_holderOf_27 : decode cX3_holderOf 27 = .ok (.ifCond .ne 15, 3) := by decide +kernel
theorem dX3_holderOf_30 : decode cX3_holderOf 30 = .ok (.getstatic 45, 3) := by decide +kernel
theorem dX3_holderOf_33 : decode cX3_holderOf 33 = .ok (.iload_n 2, 1) := by decide +kernel
theorem dX3_holderOf_34 : decode cX3_holderOf 34 = .ok (.iaload, 1) := by decide +kernel
theorem dX3_holderOf_35 : decode cX3_holderOf 35 = .ok (.istore_n 2, 1) := by decide +kernel
theorem dX3_holderOf_36 : decode cX3_holderOf 36 = .ok (.iinc 3 1, 3) := by decide +kernel
theorem dX3_holderOf_39 : decode cX3_holderOf 39 = .ok (.goto (-35), 3) := by decide +kernel
theorem dX3_holderOf_42 : decode cX3_holderOf 42 = .ok (.iload_n 2, 1) := by decide +kernel
theorem dX3_holderOf_43 : decode cX3_holderOf 43 = .ok (.ireturn, 1) := by decide +kernel
theorem dX3_runFrom_0 : decode cX3_runFrom 0 = .ok (.iload 4, 2) := by decide +kernel
theorem dX3_runFrom_2 : decode cX3_runFrom 2 = .ok (.bipush 12, 2) := by decide +kernel
theorem dX3_runFrom_4 : decode cX3_runFrom 4 = .ok (.if_icmp .gt 19, 3) := by decide +kernel
theorem dX3_runFrom_7 : decode cX3_runFrom 7 = .ok (.iload_n 1, 1) := by decide +kernel
theorem dX3_runFrom_8 : decode cX3_runFrom 8 = .ok (.ifCond .lt 15, 3) := by decide +kernel
theorem dX3_runFrom_11 : decode cX3_runFrom 11 = .ok (.iload_n 1, 1) := by decide +kernel
theorem dX3_runFrom_12 : decode cX3_runFrom 12 = .ok (.iconst 3, 1) := by decide +kernel
theorem dX3_runFrom_13 : decode cX3_runFrom 13 = .ok (.if_icmp .ge 10, 3) := by decide +kernel
theorem dX3_runFrom_16 : decode cX3_runFrom 16 = .ok (.iload_n 2, 1) := by decide +kernel
theorem dX3_runFrom_17 : decode cX3_runFrom 17 = .ok (.invokestatic 38, 3) := by decide +kernel
theorem dX3_runFrom_20 : decode cX3_runFrom 20 = .ok (.ifCond .ne 5, 3) := by decide +kernel
theorem dX3_runFrom_23 : decode cX3_runFrom 23 = .ok (.iconst 0, 1) := by decide +kernel
theorem dX3_runFrom_24 : decode cX3_runFrom 24 = .ok (.ireturn, 1) := by decide +kernel
theorem dX3_runFrom_25 : decode cX3_runFrom 25 = .ok (.iload_n 1, 1) := by decide +kernel
theorem dX3_runFrom_26 : decode cX3_runFrom 26 = .ok (.iload_n 2, 1) := by decide +kernel
theorem dX3_runFrom_27 : decode cX3_runFrom 27 = .ok (.invokestatic 48, 3) := by decide +kernel
theorem dX3_runFrom_30 : decode cX3_runFrom 30 = .ok (.istore 5, 2) := by decide +kernel
theorem dX3_runFrom_32 : decode cX3_runFrom 32 = .ok (.iload 5, 2) := by decide +kernel
theorem dX3_runFrom_34 : decode cX3_runFrom 34 = .ok (.invokestatic 38, 3) := by decide +kernel
theorem dX3_runFrom_37 : decode cX3_runFrom 37 = .ok (.ifCond .ne 5, 3) := by decide +kernel
theorem dX3_runFrom_40 : decode cX3_runFrom 40 = .ok (.iconst 0, 1) := by decide +kernel
theorem dX3_runFrom_41 : decode cX3_runFrom 41 = .ok (.ireturn, 1) := by decide +kernel
theorem dX3_runFrom_42 : decode cX3_runFrom 42 = .ok (.getstatic 42, 3) := by decide +kernel
theorem dX3_runFrom_45 : decode cX3_runFrom 45 = .ok (.iload_n 1, 1) := by decide +kernel
theorem dX3_runFrom_46 : decode cX3_runFrom 46 = .ok (.bipush 7, 2) := by decide +kernel
theorem dX3_runFrom_48 : decode cX3_runFrom 48 = .ok (.imul, 1) := by decide +kernel
theorem dX3_runFrom_49 : decode cX3_runFrom 49 = .ok (.iload 5, 2) := by decide +kernel
theorem dX3_runFrom_51 : decode cX3_runFrom 51 = .ok (.iadd, 1) := by decide +kernel
theorem dX3_runFrom_52 : decode cX3_runFrom 52 = .ok (.iaload, 1) := by decide +kernel
theorem dX3_runFrom_53 : decode cX3_runFrom 53 = .ok (.istore 6, 2) := by decide +kernel
theorem dX3_runFrom_55 : decode cX3_runFrom 55 = .ok (.getstatic 45, 3) := by decide +kernel
theorem dX3_runFrom_58 : decode cX3_runFrom 58 = .ok (.iload 5, 2) := by decide +kernel
theorem dX3_runFrom_60 : decode cX3_runFrom 60 = .ok (.iaload, 1) := by decide +kernel
theorem dX3_runFrom_61 : decode cX3_runFrom 61 = .ok (.istore 7, 2) := by decide +kernel
theorem dX3_runFrom_63 : decode cX3_runFrom 63 = .ok (.iload 4, 2) := by decide +kernel
theorem dX3_runFrom_65 : decode cX3_runFrom 65 = .ok (.iconst 1, 1) := by decide +kernel
theorem dX3_runFrom_66 : decode cX3_runFrom 66 = .ok (.iadd, 1) := by decide +kernel
theorem dX3_runFrom_67 : decode cX3_runFrom 67 = .ok (.istore 8, 2) := by decide +kernel
theorem dX3_runFrom_69 : decode cX3_runFrom 69 = .ok (.aload_n 0, 1) := by decide +kernel
theorem dX3_runFrom_70 : decode cX3_runFrom 70 = .ok (.iload 6, 2) := by decide +kernel
theorem dX3_runFrom_72 : decode cX3_runFrom 72 = .ok (.invokevirtual 52, 3) := by decide +kernel
theorem dX3_runFrom_75 : decode cX3_runFrom 75 = .ok (.iload 6, 2) := by decide +kernel
theorem dX3_runFrom_77 : decode cX3_runFrom 77 = .ok (.lookupswitch 264 #[(10, 99), (11, 106), (12, 121), (20, 152), (30, 168), (40, 181), (50, 194), (51, 206), (60, 222), (70, 235), (71, 248)], 99) := by decide +kernel
theorem dX3_runFrom_176 : decode cX3_runFrom 176 = .ok (.iload_n 3, 1) := by decide +kernel
theorem dX3_runFrom_177 : decode cX3_runFrom 177 = .ok (.aload_n 0, 1) := by decide +kernel
theorem dX3_runFrom_178 : decode cX3_runFrom 178 = .ok (.getfield 22, 3) := by decide +kernel
theorem dX3_runFrom_181 : decode cX3_runFrom 181 = .ok (.iadd, 1) := by decide +kernel
theorem dX3_runFrom_182 : decode cX3_runFrom 182 = .ok (.ireturn, 1) := by decide +kernel
theorem dX3_runFrom_183 : decode cX3_runFrom 183 = .ok (.aload_n 0, 1) := by decide +kernel
theorem dX3_runFrom_184 : decode cX3_runFrom 184 = .ok (.iconst 0, 1) := by decide +kernel
theorem dX3_runFrom_185 : decode cX3_runFrom 185 = .ok (.aload_n 0, 1) := by decide +kernel
theorem dX3_runFrom_186 : decode cX3_runFrom 186 = .ok (.getfield 21, 3) := by decide +kernel
theorem dX3_runFrom_189 : decode cX3_runFrom 189 = .ok (.iload_n 3, 1) := by decide +kernel
theorem dX3_runFrom_190 : decode cX3_runFrom 190 = .ok (.iload 8, 2) := by decide +kernel
theorem dX3_runFrom_192 : decode cX3_runFrom 192 = .ok (.invokestatic 31, 3) := by decide +kernel
theorem dX3_runFrom_195 : decode cX3_runFrom 195 = .ok (.iconst 2, 1) := by decide +kernel
theorem dX3_runFrom_196 : decode cX3_runFrom 196 = .ok (.imul, 1) := by decide +kernel
theorem dX3_runFrom_197 : decode cX3_runFrom 197 = .ok (.ireturn, 1) := by decide +kernel
theorem dX3_runFrom_198 : decode cX3_runFrom 198 = .ok (.aload_n 0, 1) := by decide +kernel
theorem dX3_runFrom_199 : decode cX3_runFrom 199 = .ok (.iconst 1, 1) := by decide +kernel
theorem dX3_runFrom_200 : decode cX3_runFrom 200 = .ok (.aload_n 0, 1) := by decide +kernel
theorem dX3_runFrom_201 : decode cX3_runFrom 201 = .ok (.getfield 21, 3) := by decide +kernel
theorem dX3_runFrom_204 : decode cX3_runFrom 204 = .ok (.iload_n 3, 1) := by decide +kernel
theorem dX3_runFrom_205 : decode cX3_runFrom 205 = .ok (.iload 8, 2) := by decide +kernel
theorem dX3_runFrom_207 : decode cX3_runFrom 207 = .ok (.invokestatic 31, 3) := by decide +kernel
theorem dX3_runFrom_210 : decode cX3_runFrom 210 = .ok (.aload_n 0, 1) := by decide +kernel
theorem dX3_runFrom_211 : decode cX3_runFrom 211 = .ok (.iconst 0, 1) := by decide +kernel
theorem dX3_runFrom_212 : decode cX3_runFrom 212 = .ok (.aload_n 0, 1) := by decide +kernel
theorem dX3_runFrom_213 : decode cX3_runFrom 213 = .ok (.getfield 21, 3) := by decide +kernel
theorem dX3_runFrom_216 : decode cX3_runFrom 216 = .ok (.iload_n 3, 1) := by decide +kernel
theorem dX3_runFrom_217 : decode cX3_runFrom 217 = .ok (.aload_n 0, 1) := by decide +kernel
theorem dX3_runFrom_218 : decode cX3_runFrom 218 = .ok (.getfield 28, 3) := by decide +kernel
theorem dX3_runFrom_221 : decode cX3_runFrom 221 = .ok (.isub, 1) := by decide +kernel
theorem dX3_runFrom_222 : decode cX3_runFrom 222 = .ok (.iload 8, 2) := by decide +kernel
theorem dX3_runFrom_224 : decode cX3_runFrom 224 = .ok (.invokestatic 31, 3) := by decide +kernel
theorem dX3_runFrom_227 : decode cX3_runFrom 227 = .ok (.ixor, 1) := by decide +kernel
theorem dX3_runFrom_228 : decode cX3_runFrom 228 = .ok (.ireturn, 1) := by decide +kernel
theorem dX3_runFrom_229 : decode cX3_runFrom 229 = .ok (.aload_n 0, 1) := by decide +kernel
theorem dX3_runFrom_230 : decode cX3_runFrom 230 = .ok (.iconst 0, 1) := by decide +kernel
theorem dX3_runFrom_231 : decode cX3_runFrom 231 = .ok (.iload 7, 2) := by decide +kernel
theorem dX3_runFrom_233 : decode cX3_runFrom 233 = .ok (.iload_n 3, 1) := by decide +kernel
theorem dX3_runFrom_234 : decode cX3_runFrom 234 = .ok (.iload 8, 2) := by decide +kernel
theorem dX3_runFrom_236 : decode cX3_runFrom 236 = .ok (.invokestatic 31, 3) := by decide +kernel
theorem dX3_runFrom_239 : decode cX3_runFrom 239 = .ok (.aload_n 0, 1) := by decide +kernel
theorem dX3_runFrom_240 : decode cX3_runFrom 240 = .ok (.getfield 28, 3) := by decide +kernel
theorem dX3_runFrom_243 : decode cX3_runFrom 243 = .ok (.iadd, 1) := by decide +kernel
theorem dX3_runFrom_244 : decode cX3_runFrom 244 = .ok (.ireturn, 1) := by decide +kernel
theorem dX3_runFrom_245 : decode cX3_runFrom 245 = .ok (.aload_n 0, 1) := by decide +kernel
theorem dX3_runFrom_246 : decode cX3_runFrom 246 = .ok (.iconst 1, 1) := by decide +kernel
theorem dX3_runFrom_247 : decode cX3_runFrom 247 = .ok (.iload 7, 2) := by decide +kernel
theorem dX3_runFrom_249 : decode cX3_runFrom 249 = .ok (.iload_n 3, 1) := by decide +kernel
theorem dX3_runFrom_250 : decode cX3_runFrom 250 = .ok (.iload 8, 2) := by decide +kernel
theorem dX3_runFrom_252 : decode cX3_runFrom 252 = .ok (.invokestatic 31, 3) := by decide +kernel
theorem dX3_runFrom_255 : decode cX3_runFrom 255 = .ok (.iconst 3, 1) := by decide +kernel
theorem dX3_runFrom_256 : decode cX3_runFrom 256 = .ok (.imul, 1) := by decide +kernel
theorem dX3_runFrom_257 : decode cX3_runFrom 257 = .ok (.ireturn, 1) := by decide +kernel
theorem dX3_runFrom_258 : decode cX3_runFrom 258 = .ok (.aload_n 0, 1) := by decide +kernel
theorem dX3_runFrom_259 : decode cX3_runFrom 259 = .ok (.iconst 1, 1) := by decide +kernel
theorem dX3_runFrom_260 : decode cX3_runFrom 260 = .ok (.iload 7, 2) := by decide +kernel
theorem dX3_runFrom_262 : decode cX3_runFrom 262 = .ok (.iload_n 3, 1) := by decide +kernel
theorem dX3_runFrom_263 : decode cX3_runFrom 263 = .ok (.iconst 1, 1) := by decide +kernel
theorem dX3_runFrom_264 : decode cX3_runFrom 264 = .ok (.iadd, 1) := by decide +kernel
theorem dX3_runFrom_265 : decode cX3_runFrom 265 = .ok (.iload 8, 2) := by decide +kernel
theorem dX3_runFrom_267 : decode cX3_runFrom 267 = .ok (.invokestatic 31, 3) := by decide +kernel
theorem dX3_runFrom_270 : decode cX3_runFrom 270 = .ok (.ireturn, 1) := by decide +kernel
theorem dX3_runFrom_271 : decode cX3_runFrom 271 = .ok (.aload_n 0, 1) := by decide +kernel
theorem dX3_runFrom_272 : decode cX3_runFrom 272 = .ok (.iconst 2, 1) := by decide +kernel
theorem dX3_runFrom_273 : decode cX3_runFrom 273 = .ok (.iload 7, 2) := by decide +kernel
theorem dX3_runFrom_275 : decode cX3_runFrom 275 = .ok (.iload_n 3, 1) := by decide +kernel
theorem dX3_runFrom_276 : decode cX3_runFrom 276 = .ok (.iload 8, 2) := by decide +kernel
theorem dX3_runFrom_278 : decode cX3_runFrom 278 = .ok (.invokestatic 31, 3) := by decide +kernel
theorem dX3_runFrom_281 : decode cX3_runFrom 281 = .ok (.ineg, 1) := by decide +kernel
theorem dX3_runFrom_282 : decode cX3_runFrom 282 = .ok (.ireturn, 1) := by decide +kernel
theorem dX3_runFrom_283 : decode cX3_runFrom 283 = .ok (.aload_n 0, 1) := by decide +kernel
theorem dX3_runFrom_284 : decode cX3_runFrom 284 = .ok (.iconst 0, 1) := by decide +kernel
theorem dX3_runFrom_285 : decode cX3_runFrom 285 = .ok (.iload 7, 2) := by decide +kernel
theorem dX3_runFrom_287 : decode cX3_runFrom 287 = .ok (.iload_n 3, 1) := by decide +kernel
theorem dX3_runFrom_288 : decode cX3_runFrom 288 = .ok (.iload 8, 2) := by decide +kernel
theorem dX3_runFrom_290 : decode cX3_runFrom 290 = .ok (.invokestatic 31, 3) := by decide +kernel
theorem dX3_runFrom_293 : decode cX3_runFrom 293 = .ok (.aload_n 0, 1) := by decide +kernel
theorem dX3_runFrom_294 : decode cX3_runFrom 294 = .ok (.getfield 22, 3) := by decide +kernel
theorem dX3_runFrom_297 : decode cX3_runFrom 297 = .ok (.isub, 1) := by decide +kernel
theorem dX3_runFrom_298 : decode cX3_runFrom 298 = .ok (.ireturn, 1) := by decide +kernel
theorem dX3_runFrom_299 : decode cX3_runFrom 299 = .ok (.aload_n 0, 1) := by decide +kernel
theorem dX3_runFrom_300 : decode cX3_runFrom 300 = .ok (.iconst 2, 1) := by decide +kernel
theorem dX3_runFrom_301 : decode cX3_runFrom 301 = .ok (.iload 7, 2) := by decide +kernel
theorem dX3_runFrom_303 : decode cX3_runFrom 303 = .ok (.iload_n 3, 1) := by decide +kernel
theorem dX3_runFrom_304 : decode cX3_runFrom 304 = .ok (.iload 8, 2) := by decide +kernel
theorem dX3_runFrom_306 : decode cX3_runFrom 306 = .ok (.invokestatic 31, 3) := by decide +kernel
theorem dX3_runFrom_309 : decode cX3_runFrom 309 = .ok (.iconst 5, 1) := by decide +kernel
theorem dX3_runFrom_310 : decode cX3_runFrom 310 = .ok (.ixor, 1) := by decide +kernel
theorem dX3_runFrom_311 : decode cX3_runFrom 311 = .ok (.ireturn, 1) := by decide +kernel
theorem dX3_runFrom_312 : decode cX3_runFrom 312 = .ok (.aload_n 0, 1) := by decide +kernel
theorem dX3_runFrom_313 : decode cX3_runFrom 313 = .ok (.iconst 0, 1) := by decide +kernel
theorem dX3_runFrom_314 : decode cX3_runFrom 314 = .ok (.iload 7, 2) := by decide +kernel
theorem dX3_runFrom_316 : decode cX3_runFrom 316 = .ok (.iload_n 3, 1) := by decide +kernel
theorem dX3_runFrom_317 : decode cX3_runFrom 317 = .ok (.iload 8, 2) := by decide +kernel
theorem dX3_runFrom_319 : decode cX3_runFrom 319 = .ok (.invokestatic 31, 3) := by decide +kernel
theorem dX3_runFrom_322 : decode cX3_runFrom 322 = .ok (.iconst 2, 1) := by decide +kernel
theorem dX3_runFrom_323 : decode cX3_runFrom 323 = .ok (.imul, 1) := by decide +kernel
theorem dX3_runFrom_324 : decode cX3_runFrom 324 = .ok (.ireturn, 1) := by decide +kernel
theorem dX3_runFrom_325 : decode cX3_runFrom 325 = .ok (.aload_n 0, 1) := by decide +kernel
theorem dX3_runFrom_326 : decode cX3_runFrom 326 = .ok (.iconst 1, 1) := by decide +kernel
theorem dX3_runFrom_327 : decode cX3_runFrom 327 = .ok (.iload 7, 2) := by decide +kernel
theorem dX3_runFrom_329 : decode cX3_runFrom 329 = .ok (.iload_n 3, 1) := by decide +kernel
theorem dX3_runFrom_330 : decode cX3_runFrom 330 = .ok (.aload_n 0, 1) := by decide +kernel
theorem dX3_runFrom_331 : decode cX3_runFrom 331 = .ok (.getfield 28, 3) := by decide +kernel
theorem dX3_runFrom_334 : decode cX3_runFrom 334 = .ok (.isub, 1) := by decide +kernel
theorem dX3_runFrom_335 : decode cX3_runFrom 335 = .ok (.iload 8, 2) := by decide +kernel
theorem dX3_runFrom_337 : decode cX3_runFrom 337 = .ok (.invokestatic 31, 3) := by decide +kernel
theorem dX3_runFrom_340 : decode cX3_runFrom 340 = .ok (.ireturn, 1) := by decide +kernel
theorem dX3_runFrom_341 : decode cX3_runFrom 341 = .ok (.iconst 0, 1) := by decide +kernel
theorem dX3_runFrom_342 : decode cX3_runFrom 342 = .ok (.ireturn, 1) := by decide +kernel
theorem dX4_init_0 : decode cX4_init 0 = .ok (.aload_n 0, 1) := by decide +kernel
theorem dX4_init_1 : decode cX4_init 1 = .ok (.invokespecial 3, 3) := by decide +kernel
theorem dX4_init_4 : decode cX4_init 4 = .ok (.aload_n 0, 1) := by decide +kernel
theorem dX4_init_5 : decode cX4_init 5 = .ok (.new 9, 3) := by decide +kernel
theorem dX4_init_8 : decode cX4_init 8 = .ok (.dup, 1) := by decide +kernel
theorem dX4_init_9 : decode cX4_init 9 = .ok (.invokespecial 11, 3) := by decide +kernel
theorem dX4_init_12 : decode cX4_init 12 = .ok (.putfield 12, 3) := by decide +kernel
theorem dX4_init_15 : decode cX4_init 15 = .ok (.aload_n 0, 1) := by decide +kernel
theorem dX4_init_16 : decode cX4_init 16 = .ok (.iconst (-1), 1) := by decide +kernel
theorem dX4_init_17 : decode cX4_init 17 = .ok (.putfield 18, 3) := by decide +kernel
theorem dX4_init_20 : decode cX4_init 20 = .ok (.return_, 1) := by decide +kernel
theorem dX4_take_0 : decode cX4_take 0 = .ok (.aload_n 1, 1) := by decide +kernel
theorem dX4_take_1 : decode cX4_take 1 = .ok (.iload_n 2, 1) := by decide +kernel
theorem dX4_take_2 : decode cX4_take 2 = .ok (.invokevirtual 22, 3) := by decide +kernel
theorem dX4_take_5 : decode cX4_take 5 = .ok (.ifCond .eq 16, 3) := by decide +kernel
theorem dX4_take_8 : decode cX4_take 8 = .ok (.aload_n 0, 1) := by decide +kernel
theorem dX4_take_9 : decode cX4_take 9 = .ok (.getfield 12, 3) := by decide +kernel
theorem dX4_take_12 : decode cX4_take 12 = .ok (.aload_n 1, 1) := by decide +kernel
theorem dX4_take_13 : decode cX4_take 13 = .ok (.getfield 28, 3) := by decide +kernel
theorem dX4_take_16 : decode cX4_take 16 = .ok (.iload_n 2, 1) := by decide +kernel
theorem dX4_take_17 : decode cX4_take 17 = .ok (.aaload, 1) := by decide +kernel
theorem dX4_take_18 : decode cX4_take 18 = .ok (.invokevirtual 32, 3) := by decide +kernel
theorem dX4_take_21 : decode cX4_take 21 = .ok (.aload_n 0, 1) := by decide +kernel
theorem dX4_take_22 : decode cX4_take 22 = .ok (.iconst 0, 1) := by decide +kernel
theorem dX4_take_23 : decode cX4_take 23 = .ok (.putfield 36, 3) := by decide +kernel
theorem dX4_take_26 : decode cX4_take 26 = .ok (.aload_n 0, 1) := by decide +kernel
theorem dX4_take_27 : decode cX4_take 27 = .ok (.aload_n 1, 1) := by decide +kernel
theorem dX4_take_28 : decode cX4_take 28 = .ok (.getfield 39, 3) := by decide +kernel
theorem dX4_take_31 : decode cX4_take 31 = .ok (.putfield 43, 3) := by decide +kernel
theorem dX4_take_34 : decode cX4_take 34 = .ok (.return_, 1) := by decide +kernel
theorem dX4_begin_0 : decode cX4_begin 0 = .ok (.aload_n 1, 1) := by decide +kernel
theorem dX4_begin_1 : decode cX4_begin 1 = .ok (.aload_n 0, 1) := by decide +kernel
theorem dX4_begin_2 : decode cX4_begin 2 = .ok (.getfield 12, 3) := by decide +kernel
theorem dX4_begin_5 : decode cX4_begin 5 = .ok (.getfield 44, 3) := by decide +kernel
theorem dX4_begin_8 : decode cX4_begin 8 = .ok (.invokevirtual 47, 3) := by decide +kernel
theorem dX4_begin_11 : decode cX4_begin 11 = .ok (.istore_n 2, 1) := by decide +kernel
theorem dX4_begin_12 : decode cX4_begin 12 = .ok (.iload_n 2, 1) := by decide +kernel
theorem dX4_begin_13 : decode cX4_begin 13 = .ok (.ifCond .eq 37, 3) := by decide +kernel
theorem dX4_begin_16 : decode cX4_begin 16 = .ok (.aload_n 1, 1) := by decide +kernel
theorem dX4_begin_17 : decode cX4_begin 17 = .ok (.getfield 50, 3) := by decide +kernel
theorem dX4_begin_20 : decode cX4_begin 20 = .ok (.aload_n 0, 1) := by decide +kernel
theorem dX4_begin_21 : decode cX4_begin 21 = .ok (.getfield 12, 3) := by decide +kernel
theorem dX4_begin_24 : decode cX4_begin 24 = .ok (.getfield 44, 3) := by decide +kernel
theorem dX4_begin_27 : decode cX4_begin 27 = .ok (.aaload, 1) := by decide +kernel
theorem dX4_begin_28 : decode cX4_begin 28 = .ok (.getfield 54, 3) := by decide +kernel
theorem dX4_begin_31 : decode cX4_begin 31 = .ok (.aload_n 0, 1) := by decide +kernel
theorem dX4_begin_32 : decode cX4_begin 32 = .ok (.getfield 12, 3) := by decide +kernel
theorem dX4_begin_35 : decode cX4_begin 35 = .ok (.getfield 59, 3) := by decide +kernel
theorem dX4_begin_38 : decode cX4_begin 38 = .ok (.isub, 1) := by decide +kernel
theorem dX4_begin_39 : decode cX4_begin 39 = .ok (.invokestatic 62, 3) := by decide +kernel
theorem dX4_begin_42 : decode cX4_begin 42 = .ok (.aload_n 0, 1) := by decide +kernel
theorem dX4_begin_43 : decode cX4_begin 43 = .ok (.getfield 36, 3) := by decide +kernel
theorem dX4_begin_46 : decode cX4_begin 46 = .ok (.iadd, 1) := by decide +kernel
theorem dX4_begin_47 : decode cX4_begin 47 = .ok (.goto 4, 3) := by decide +kernel
theorem dX4_begin_50 : decode cX4_begin 50 = .ok (.iconst 0, 1) := by decide +kernel
theorem dX4_begin_51 : decode cX4_begin 51 = .ok (.istore_n 3, 1) := by decide +kernel
theorem dX4_begin_52 : decode cX4_begin 52 = .ok (.iload_n 2, 1) := by decide +kernel
theorem dX4_begin_53 : decode cX4_begin 53 = .ok (.ifCond .eq 21, 3) := by decide +kernel
theorem dX4_begin_56 : decode cX4_begin 56 = .ok (.aload_n 1, 1) := by decide +kernel
theorem dX4_begin_57 : decode cX4_begin 57 = .ok (.getfield 50, 3) := by decide +kernel
theorem dX4_begin_60 : decode cX4_begin 60 = .ok (.aload_n 0, 1) := by decide +kernel
theorem dX4_begin_61 : decode cX4_begin 61 = .ok (.getfield 12, 3) := by decide +kernel
theorem dX4_begin_64 : decode cX4_begin 64 = .ok (.getfield 44, 3) := by decide +kernel
theorem dX4_begin_67 : decode cX4_begin 67 = .ok (.aaload, 1) := by decide +kernel
theorem dX4_begin_68 : decode cX4_begin 68 = .ok (.getfield 68, 3) := by decide +kernel
theorem dX4_begin_71 : decode cX4_begin 71 = .ok (.goto 4, 3) := by decide +kernel
theorem dX4_begin_74 : decode cX4_begin 74 = .ok (.iconst 0, 1) := by decide +kernel
theorem dX4_begin_75 : decode cX4_begin 75 = .ok (.istore 4, 2) := by decide +kernel
theorem dX4_begin_77 : decode cX4_begin 77 = .ok (.aload_n 0, 1) := by decide +kernel
theorem dX4_begin_78 : decode cX4_begin 78 = .ok (.aload_n 0, 1) := by decide +kernel
theorem dX4_begin_79 : decode cX4_begin 79 = .ok (.getfield 12, 3) := by decide +kernel
theorem dX4_begin_82 : decode cX4_begin 82 = .ok (.iload_n 3, 1) := by decide +kernel
theorem dX4_begin_83 : decode cX4_begin 83 = .ok (.invokestatic 71, 3) := by decide +kernel
theorem dX4_begin_86 : decode cX4_begin 86 = .ok (.putfield 75, 3) := by decide +kernel
theorem dX4_begin_89 : decode cX4_begin 89 = .ok (.aload_n 0, 1) := by decide +kernel
theorem dX4_begin_90 : decode cX4_begin 90 = .ok (.aload_n 0, 1) := by decide +kernel
theorem dX4_begin_91 : decode cX4_begin 91 = .ok (.getfield 12, 3) := by decide +kernel
theorem dX4_begin_94 : decode cX4_begin 94 = .ok (.getfield 78, 3) := by decide +kernel
theorem dX4_begin_97 : decode cX4_begin 97 = .ok (.invokestatic 81, 3) := by decide +kernel
theorem dX4_begin_100 : decode cX4_begin 100 = .ok (.putfield 84, 3) := by decide +kernel
theorem dX4_begin_103 : decode cX4_begin 103 = .ok (.aload_n 0, 1) := by decide +kernel
theorem dX4_begin_104 : decode cX4_begin 104 = .ok (.iconst 5, 1) := by decide +kernel
theorem dX4_begin_105 : decode cX4_begin 105 = .ok (.iload_n 3, 1) := by decide +kernel
theorem dX4_begin_106 : decode cX4_begin 106 = .ok (.imul, 1) := by decide +kernel
theorem dX4_begin_107 : decode cX4_begin 107 = .ok (.iconst 3, 1) := by decide +kernel
theorem dX4_begin_108 : decode cX4_begin 108 = .ok (.iload 4, 2) := by decide +kernel
theorem dX4_begin_110 : decode cX4_begin 110 = .ok (.imul, 1) := by decide +kernel
theorem dX4_begin_111 : decode cX4_begin 111 = .ok (.iadd, 1) := by decide +kernel
theorem dX4_begin_112 : decode cX4_begin 112 = .ok (.aload_n 0, 1) := by decide +kernel
theorem dX4_begin_113 : decode cX4_begin 113 = .ok (.getfield 75, 3) := by decide +kernel
theorem dX4_begin_116 : decode cX4_begin 116 = .ok (.iadd, 1) := by decide +kernel
theorem dX4_begin_117 : decode cX4_begin 117 = .ok (.putfield 87, 3) := by decide +kernel
theorem dX4_begin_120 : decode cX4_begin 120 = .ok (.aload_n 0, 1) := by decide +kernel
theorem dX4_begin_121 : decode cX4_begin 121 = .ok (.getfield 12, 3) := by decide +kernel
theorem dX4_begin_124 : decode cX4_begin 124 = .ok (.getfield 78, 3) := by decide +kernel
theorem dX4_begin_127 : decode cX4_begin 127 = .ok (.iconst 4, 1) := by decide +kernel
theorem dX4_begin_128 : decode cX4_begin 128 = .ok (.invokestatic 90, 3) := by decide +kernel
theorem dX4_begin_131 : decode cX4_begin 131 = .ok (.ifCond .eq 13, 3) := by decide +kernel
theorem dX4_begin_134 : decode cX4_begin 134 = .ok (.aload_n 0, 1) := by decide +kernel
theorem dX4_begin_135 : decode cX4_begin 135 = .ok (.dup, 1) := by decide +kernel
theorem dX4_begin_136 : decode cX4_begin 136 = .ok (.getfield 87, 3) := by decide +kernel
theorem dX4_begin_139 : decode cX4_begin 139 = .ok (.iconst 2, 1) := by decide +kernel
theorem dX4_begin_140 : decode cX4_begin 140 = .ok (.idiv, 1) := by decide +kernel
theorem dX4_begin_141 : decode cX4_begin 141 = .ok (.putfield 87, 3) := by decide +kernel
theorem dX4_begin_144 : decode cX4_begin 144 = .ok (.aload_n 0, 1) := by decide +kernel
theorem dX4_begin_145 : decode cX4_begin 145 = .ok (.aload_n 1, 1) := by decide +kernel
theorem dX4_begin_146 : decode cX4_begin 146 = .ok (.getfield 94, 3) := by decide +kernel
theorem dX4_begin_149 : decode cX4_begin 149 = .ok (.iconst 0, 1) := by decide +kernel
theorem dX4_begin_150 : decode cX4_begin 150 = .ok (.iaload, 1) := by decide +kernel
theorem dX4_begin_151 : decode cX4_begin 151 = .ok (.putfield 98, 3) := by decide +kernel
theorem dX4_begin_154 : decode cX4_begin 154 = .ok (.aload_n 0, 1) := by decide +kernel
theorem dX4_begin_155 : decode cX4_begin 155 = .ok (.aload_n 1, 1) := by decide +kernel
theorem dX4_begin_156 : decode cX4_begin 156 = .ok (.getfield 94, 3) := by decide +kernel
theorem dX4_begin_159 : decode cX4_begin 159 = .ok (.iconst 1, 1) := by decide +kernel
theorem dX4_begin_160 : decode cX4_begin 160 = .ok (.iaload, 1) := by decide +kernel
theorem dX4_begin_161 : decode cX4_begin 161 = .ok (.putfield 101, 3) := by decide +kernel
theorem dX4_begin_164 : decode cX4_begin 164 = .ok (.aload_n 0, 1) := by decide +kernel
theorem dX4_begin_165 : decode cX4_begin 165 = .ok (.iconst 0, 1) := by decide +kernel
theorem dX4_begin_166 : decode cX4_begin 166 = .ok (.aload_n 1, 1) := by decide +kernel
theorem dX4_begin_167 : decode cX4_begin 167 = .ok (.getfield 94, 3) := by decide +kernel
theorem dX4_begin_170 : decode cX4_begin 170 = .ok (.iconst 2, 1) := by decide +kernel
theorem dX4_begin_171 : decode cX4_begin 171 = .ok (.iaload, 1) := by decide +kernel
theorem dX4_begin_172 : decode cX4_begin 172 = .ok (.aload_n 0, 1) := by decide +kernel
theorem dX4_begin_173 : decode cX4_begin 173 = .ok (.getfield 12, 3) := by decide +kernel
theorem dX4_begin_176 : decode cX4_begin 176 = .ok (.getfield 59, 3) := by decide +kernel
theorem dX4_begin_179 : decode cX4_begin 179 = .ok (.isub, 1) := by decide +kernel
theorem dX4_begin_180 : decode cX4_begin 180 = .ok (.invokestatic 104, 3) := by decide +kernel
theorem dX4_begin_183 : decode cX4_begin 183 = .ok (.putfield 108, 3) := by decide +kernel
theorem dX4_begin_186 : decode cX4_begin 186 = .ok (.aload_n 0, 1) := by decide +kernel
theorem dX4_begin_187 : decode cX4_begin 187 = .ok (.aload_n 1, 1) := by decide +kernel
theorem dX4_begin_188 : decode cX4_begin 188 = .ok (.getfield 94, 3) := by decide +kernel
theorem dX4_begin_191 : decode cX4_begin 191 = .ok (.iconst 3, 1) := by decide +kernel
theorem dX4_begin_192 : decode cX4_begin 192 = .ok (.iaload, 1) := by decide +kernel
theorem dX4_begin_193 : decode cX4_begin 193 = .ok (.putfield 111, 3) := by decide +kernel
theorem dX4_begin_196 : decode cX4_begin 196 = .ok (.aload_n 0, 1) := by decide +kernel
theorem dX4_begin_197 : decode cX4_begin 197 = .ok (.aload_n 0, 1) := by decide +kernel
theorem dX4_begin_198 : decode cX4_begin 198 = .ok (.getfield 12, 3) := by decide +kernel
theorem dX4_begin_201 : decode cX4_begin 201 = .ok (.getfield 114, 3) := by decide +kernel
theorem dX4_begin_204 : decode cX4_begin 204 = .ok (.putfield 117, 3) := by decide +kernel
theorem dX4_begin_207 : decode cX4_begin 207 = .ok (.aload_n 0, 1) := by decide +kernel
theorem dX4_begin_208 : decode cX4_begin 208 = .ok (.iconst 0, 1) := by decide +kernel
theorem dX4_begin_209 : decode cX4_begin 209 = .ok (.putfield 120, 3) := by decide +kernel
theorem dX4_begin_212 : decode cX4_begin 212 = .ok (.aload_n 0, 1) := by decide +kernel
theorem dX4_begin_213 : decode cX4_begin 213 = .ok (.iconst 0, 1) := by decide +kernel
theorem dX4_begin_214 : decode cX4_begin 214 = .ok (.putfield 123, 3) := by decide +kernel
theorem dX4_begin_217 : decode cX4_begin 217 = .ok (.aload_n 0, 1) := by decide +kernel
theorem dX4_begin_218 : decode cX4_begin 218 = .ok (.iconst 0, 1) := by decide +kernel
theorem dX4_begin_219 : decode cX4_begin 219 = .ok (.putfield 126, 3) := by decide +kernel
theorem dX4_begin_222 : decode cX4_begin 222 = .ok (.aload_n 0, 1) := by decide +kernel
theorem dX4_begin_223 : decode cX4_begin 223 = .ok (.iconst (-1), 1) := by decide +kernel
theorem dX4_begin_224 : decode cX4_begin 224 = .ok (.putfield 18, 3) := by decide +kernel
theorem dX4_begin_227 : decode cX4_begin 227 = .ok (.aload_n 0, 1) := by decide +kernel
theorem dX4_begin_228 : decode cX4_begin 228 = .ok (.iconst 0, 1) := by decide +kernel
theorem dX4_begin_229 : decode cX4_begin 229 = .ok (.putfield 129, 3) := by decide +kernel
theorem dX4_begin_232 : decode cX4_begin 232 = .ok (.return_, 1) := by decide +kernel
theorem dX4_strideOf_0 : decode cX4_strideOf 0 = .ok (.aload_n 0, 1) := by decide +kernel
theorem dX4_strideOf_1 : decode cX4_strideOf 1 = .ok (.getfield 78, 3) := by decide +kernel
theorem dX4_strideOf_4 : decode cX4_strideOf 4 = .ok (.tableswitch 101 1 6 #[40, 51, 58, 67, 80, 90], 40) := by decide +kernel
theorem dX4_strideOf_44 : decode cX4_strideOf 44 = .ok (.iconst 1, 1) := by decide +kernel
theorem dX4_strideOf_45 : decode cX4_strideOf 45 = .ok (.aload_n 0, 1) := by decide +kernel
theorem dX4_strideOf_46 : decode cX4_strideOf 46 = .ok (.getfield 59, 3) := by decide +kernel
theorem dX4_strideOf_49 : decode cX4_strideOf 49 = .ok (.iconst 1, 1) := by decide +kernel
theorem dX4_strideOf_50 : decode cX4_strideOf 50 = .ok (.isub, 1) := by decide +kernel
theorem dX4_strideOf_51 : decode cX4_strideOf 51 = .ok (.invokestatic 104, 3) := by decide +kernel
theorem dX4_strideOf_54 : decode cX4_strideOf 54 = .ok (.ireturn, 1) := by decide +kernel
theorem dX4_strideOf_55 : decode cX4_strideOf 55 = .ok (.aload_n 0, 1) := by decide +kernel
theorem dX4_strideOf_56 : decode cX4_strideOf 56 = .ok (.getfield 59, 3) := by decide +kernel
theorem dX4_strideOf_59 : decode cX4_strideOf 59 = .ok (.iconst 2, 1) := by decide +kernel
theorem dX4_strideOf_60 : decode cX4_strideOf 60 = .ok (.iadd, 1) := by decide +kernel
theorem dX4_strideOf_61 : decode cX4_strideOf 61 = .ok (.ireturn, 1) := by decide +kernel
theorem dX4_strideOf_62 : decode cX4_strideOf 62 = .ok (.aload_n 0, 1) := by decide +kernel
theorem dX4_strideOf_63 : decode cX4_strideOf 63 = .ok (.getfield 59, 3) := by decide +kernel
theorem dX4_strideOf_66 : decode cX4_strideOf 66 = .ok (.iconst 1, 1) := by decide +kernel
theorem dX4_strideOf_67 : decode cX4_strideOf 67 = .ok (.iadd, 1) := by decide +kernel
theorem dX4_strideOf_68 : decode cX4_strideOf 68 = .ok (.iconst 2, 1) := by decide +kernel
theorem dX4_strideOf_69 : decode cX4_strideOf 69 = .ok (.idiv, 1) := by decide +kernel
theorem dX4_strideOf_70 : decode cX4_strideOf 70 = .ok (.ireturn, 1) := by decide +kernel
theorem dX4_strideOf_71 : decode cX4_strideOf 71 = .ok (.iconst 1, 1) := by decide +kernel
theorem dX4_strideOf_72 : decode cX4_strideOf 72 = .ok (.aload_n 0, 1) := by decide +kernel
theorem dX4_strideOf_73 : decode cX4_strideOf 73 = .ok (.getfield 59, 3) := by decide +kernel
theorem dX4_strideOf_76 : decode cX4_strideOf 76 = .ok (.iconst 1, 1) := by decide +kernel
theorem dX4_strideOf_77 : decode cX4_strideOf 77 = .ok (.iadd, 1) := by decide +kernel
theorem dX4_strideOf_78 : decode cX4_strideOf 78 = .ok (.iload_n 1, 1) := by decide +kernel
theorem dX4_strideOf_79 : decode cX4_strideOf 79 = .ok (.isub, 1) := by decide +kernel
theorem dX4_strideOf_80 : decode cX4_strideOf 80 = .ok (.invokestatic 104, 3) := by decide +kernel
theorem dX4_strideOf_83 : decode cX4_strideOf 83 = .ok (.ireturn, 1) := by decide +kernel
theorem dX4_strideOf_84 : decode cX4_strideOf 84 = .ok (.aload_n 0, 1) := by decide +kernel
theorem dX4_strideOf_85 : decode cX4_strideOf 85 = .ok (.getfield 59, 3) := by decide +kernel
theorem dX4_strideOf_88 : decode cX4_strideOf 88 = .ok (.aload_n 0, 1) := by decide +kernel
theorem dX4_strideOf_89 : decode cX4_strideOf 89 = .ok (.getfield 132, 3) := by decide +kernel
theorem dX4_strideOf_92 : decode cX4_strideOf 92 = .ok (.iadd, 1) := by decide +kernel
theorem dX4_strideOf_93 : decode cX4_strideOf 93 = .ok (.ireturn, 1) := by decide +kernel
theorem dX4_strideOf_94 : decode cX4_strideOf 94 = .ok (.iconst 1, 1) := by decide +kernel
theorem dX4_strideOf_95 : decode cX4_strideOf 95 = .ok (.aload_n 0, 1) := by decide +kernel
theorem dX4_strideOf_96 : decode cX4_strideOf 96 = .ok (.getfield 59, 3) := by decide +kernel
theorem dX4_strideOf_99 : decode cX4_strideOf 99 = .ok (.iload_n 1, 1) := by decide +kernel
theorem dX4_strideOf_100 : decode cX4_strideOf 100 = .ok (.isub, 1) := by decide +kernel
theorem dX4_strideOf_101 : decode cX4_strideOf 101 = .ok (.invokestatic 104, 3) := by decide +kernel
theorem dX4_strideOf_104 : decode cX4_strideOf 104 = .ok (.ireturn, 1) := by decide +kernel
theorem dX4_strideOf_105 : decode cX4_strideOf 105 = .ok (.aload_n 0, 1) := by decide +kernel
theorem dX4_strideOf_106 : decode cX4_strideOf 106 = .ok (.getfield 59, 3) := by decide +kernel
theorem dX4_strideOf_109 : decode cX4_strideOf 109 = .ok (.ireturn, 1) := by decide +kernel
theorem dX4_puffOf_0 : decode cX4_puffOf 0 = .ok (.iload_n 0, 1) := by decide +kernel
theorem dX4_puffOf_1 : decode cX4_puffOf 1 = .ok (.tableswitch 45 1 5 #[35, 37, 39, 41, 43], 35) := by decide +kernel
theorem dX4_puffOf_36 : decode cX4_puffOf 36 = .ok (.iconst 1, 1) := by decide +kernel
theorem dX4_puffOf_37 : decode cX4_puffOf 37 = .ok (.ireturn, 1) := by decide +kernel
theorem dX4_puffOf_38 : decode cX4_puffOf 38 = .ok (.iconst 4, 1) := by decide +kernel
theorem dX4_puffOf_39 : decode cX4_puffOf 39 = .ok (.ireturn, 1) := by decide +kernel
theorem dX4_puffOf_40 : decode cX4_puffOf 40 = .ok (.iconst 0, 1) := by decide +kernel
theorem dX4_puffOf_41 : decode cX4_puffOf 41 = .ok (.ireturn, 1) := by decide +kernel
theorem dX4_puffOf_42 : decode cX4_puffOf 42 = .ok (.iconst 3, 1) := by decide +kernel
theorem dX4_puffOf_43 : decode cX4_puffOf 43 = .ok (.ireturn, 1) := by decide +kernel
theorem dX4_puffOf_44 : decode cX4_puffOf 44 = .ok (.iconst 5, 1) := by decide +kernel
theorem dX4_puffOf_45 : decode cX4_puffOf 45 = .ok (.ireturn, 1) := by decide +kernel
theorem dX4_puffOf_46 : decode cX4_puffOf 46 = .ok (.iconst 2, 1) := by decide +kernel
theorem dX4_puffOf_47 : decode cX4_puffOf 47 = .ok (.ireturn, 1) := by decide +kernel
theorem dX4_riskNow_0 : decode cX4_riskNow 0 = .ok (.aload_n 0, 1) := by decide +kernel
theorem dX4_riskNow_1 : decode cX4_riskNow 1 = .ok (.getfield 111, 3) := by decide +kernel
theorem dX4_riskNow_4 : decode cX4_riskNow 4 = .ok (.aload_n 0, 1) := by decide +kernel
theorem dX4_riskNow_5 : decode cX4_riskNow 5 = .ok (.getfield 84, 3) := by decide +kernel
theorem dX4_riskNow_8 : decode cX4_riskNow 8 = .ok (.if_icmp .ge 13, 3) := by decide +kernel
theorem dX4_riskNow_11 : decode cX4_riskNow 11 = .ok (.aload_n 0, 1) := by decide +kernel
theorem dX4_riskNow_12 : decode cX4_riskNow 12 = .ok (.getfield 87, 3) := by decide +kernel
theorem dX4_riskNow_15 : decode cX4_riskNow 15 = .ok (.bipush 20, 2) := by decide +kernel
theorem dX4_riskNow_17 : decode cX4_riskNow 17 = .ok (.iadd, 1) := by decide +kernel
theorem dX4_riskNow_18 : decode cX4_riskNow 18 = .ok (.goto 7, 3) := by decide +kernel
theorem dX4_riskNow_21 : decode cX4_riskNow 21 = .ok (.aload_n 0, 1) := by decide +kernel
theorem dX4_riskNow_22 : decode cX4_riskNow 22 = .ok (.getfield 87, 3) := by decide +kernel
theorem dX4_riskNow_25 : decode cX4_riskNow 25 = .ok (.ireturn, 1) := by decide +kernel
theorem dX4_lie_0 : decode cX4_lie 0 = .ok (.aload_n 0, 1) := by decide +kernel
theorem dX4_lie_1 : decode cX4_lie 1 = .ok (.dup, 1) := by decide +kernel
theorem dX4_lie_2 : decode cX4_lie 2 = .ok (.getfield 123, 3) := by decide +kernel
theorem dX4_lie_5 : decode cX4_lie 5 = .ok (.iconst 1, 1) := by decide +kernel
theorem dX4_lie_6 : decode cX4_lie 6 = .ok (.isub, 1) := by decide +kernel
theorem dX4_lie_7 : decode cX4_lie 7 = .ok (.putfield 123, 3) := by decide +kernel
theorem dX4_lie_10 : decode cX4_lie 10 = .ok (.aload_n 0, 1) := by decide +kernel
theorem dX4_lie_11 : decode cX4_lie 11 = .ok (.bipush 60, 2) := by decide +kernel
theorem dX4_lie_13 : decode cX4_lie 13 = .ok (.aload_n 0, 1) := by decide +kernel
theorem dX4_lie_14 : decode cX4_lie 14 = .ok (.getfield 111, 3) := by decide +kernel
theorem dX4_lie_17 : decode cX4_lie 17 = .ok (.iconst 2, 1) := by decide +kernel
theorem dX4_lie_18 : decode cX4_lie 18 = .ok (.iadd, 1) := by decide +kernel
theorem dX4_lie_19 : decode cX4_lie 19 = .ok (.invokestatic 135, 3) := by decide +kernel
theorem dX4_lie_22 : decode cX4_lie 22 = .ok (.putfield 111, 3) := by decide +kernel
theorem dX4_lie_25 : decode cX4_lie 25 = .ok (.aload_n 0, 1) := by decide +kernel
theorem dX4_lie_26 : decode cX4_lie 26 = .ok (.getfield 43, 3) := by decide +kernel
theorem dX4_lie_29 : decode cX4_lie 29 = .ok (.ifCond .eq 13, 3) := by decide +kernel
theorem dX4_lie_32 : decode cX4_lie 32 = .ok (.aload_n 0, 1) := by decide +kernel
theorem dX4_lie_33 : decode cX4_lie 33 = .ok (.dup, 1) := by decide +kernel
theorem dX4_lie_34 : decode cX4_lie 34 = .ok (.getfield 117, 3) := by decide +kernel
theorem dX4_lie_37 : decode cX4_lie 37 = .ok (.iconst 1, 1) := by decide +kernel
theorem dX4_lie_38 : decode cX4_lie 38 = .ok (.iadd, 1) := by decide +kernel
theorem dX4_lie_39 : decode cX4_lie 39 = .ok (.putfield 117, 3) := by decide +kernel
theorem dX4_lie_42 : decode cX4_lie 42 = .ok (.aload_n 0, 1) := by decide +kernel
theorem dX4_lie_43 : decode cX4_lie 43 = .ok (.dup, 1) := by decide +kernel
theorem dX4_lie_44 : decode cX4_lie 44 = .ok (.getfield 129, 3) := by decide +kernel
theorem dX4_lie_47 : decode cX4_lie 47 = .ok (.iconst 1, 1) := by decide +kernel
theorem dX4_lie_48 : decode cX4_lie 48 = .ok (.iadd, 1) := by decide +kernel
theorem dX4_lie_49 : decode cX4_lie 49 = .ok (.putfield 129, 3) := by decide +kernel
theorem dX4_lie_52 : decode cX4_lie 52 = .ok (.return_, 1) := by decide +kernel
theorem dX4_hop_0 : decode cX4_hop 0 = .ok (.aload_n 0, 1) := by decide +kernel
theorem dX4_hop_1 : decode cX4_hop 1 = .ok (.bipush 60, 2) := by decide +kernel
theorem dX4_hop_3 : decode cX4_hop 3 = .ok (.iconst 0, 1) := by decide +kernel
theorem dX4_hop_4 : decode cX4_hop 4 = .ok (.aload_n 0, 1) := by decide +kernel
theorem dX4_hop_5 : decode cX4_hop 5 = .ok (.getfield 111, 3) := by decide +kernel
theorem dX4_hop_8 : decode cX4_hop 8 = .ok (.aload_n 0, 1) := by decide +kernel
theorem dX4_hop_9 : decode cX4_hop 9 = .ok (.getfield 84, 3) := by decide +kernel
theorem dX4_hop_12 : decode cX4_hop 12 = .ok (.isub, 1) := by decide +kernel
theorem dX4_hop_13 : decode cX4_hop 13 = .ok (.invokestatic 104, 3) := by decide +kernel
theorem dX4_hop_16 : decode cX4_hop 16 = .ok (.iconst 1, 1) := by decide +kernel
theorem dX4_hop_17 : decode cX4_hop 17 = .ok (.iadd, 1) := by decide +kernel
theorem dX4_hop_18 : decode cX4_hop 18 = .ok (.invokestatic 135, 3) := by decide +kernel
theorem dX4_hop_21 : decode cX4_hop 21 = .ok (.putfield 111, 3) := by decide +kernel
theorem dX4_hop_24 : decode cX4_hop 24 = .ok (.iload_n 1, 1) := by decide +kernel
theorem dX4_hop_25 : decode cX4_hop 25 = .ok (.ifCond .eq 39, 3) := by decide +kernel
theorem dX4_hop_28 : decode cX4_hop 28 = .ok (.aload_n 0, 1) := by decide +kernel
theorem dX4_hop_29 : decode cX4_hop 29 = .ok (.getfield 126, 3) := by decide +kernel
theorem dX4_hop_32 : decode cX4_hop 32 = .ok (.ifCond .ne 11, 3) := by decide +kernel
theorem dX4_hop_35 : decode cX4_hop 35 = .ok (.aload_n 0, 1) := by decide +kernel
theorem dX4_hop_36 : decode cX4_hop 36 = .ok (.aload_n 0, 1) := by decide +kernel
theorem dX4_hop_37 : decode cX4_hop 37 = .ok (.getfield 117, 3) := by decide +kernel
theorem dX4_hop_40 : decode cX4_hop 40 = .ok (.putfield 18, 3) := by decide +kernel
theorem dX4_hop_43 : decode cX4_hop 43 = .ok (.aload_n 0, 1) := by decide +kernel
theorem dX4_hop_44 : decode cX4_hop 44 = .ok (.dup, 1) := by decide +kernel
theorem dX4_hop_45 : decode cX4_hop 45 = .ok (.getfield 126, 3) := by decide +kernel
theorem dX4_hop_48 : decode cX4_hop 48 = .ok (.iconst 1, 1) := by decide +kernel
theorem dX4_hop_49 : decode cX4_hop 49 = .ok (.iadd, 1) := by decide +kernel
theorem dX4_hop_50 : decode cX4_hop 50 = .ok (.putfield 126, 3) := by decide +kernel
theorem dX4_hop_53 : decode cX4_hop 53 = .ok (.aload_n 0, 1) := by decide +kernel
theorem dX4_hop_54 : decode cX4_hop 54 = .ok (.aload_n 0, 1) := by decide +kernel
theorem dX4_hop_55 : decode cX4_hop 55 = .ok (.getfield 101, 3) := by decide +kernel
theorem dX4_hop_58 : decode cX4_hop 58 = .ok (.putfield 123, 3) := by decide +kernel
theorem dX4_hop_61 : decode cX4_hop 61 = .ok (.goto 16, 3) := by decide +kernel
theorem dX4_hop_64 : decode cX4_hop 64 = .ok (.aload_n 0, 1) := by decide +kernel
theorem dX4_hop_65 : decode cX4_hop 65 = .ok (.dup, 1) := by decide +kernel
theorem dX4_hop_66 : decode cX4_hop 66 = .ok (.getfield 117, 3) := by decide +kernel
theorem dX4_hop_69 : decode cX4_hop 69 = .ok (.aload_n 0, 1) := by decide +kernel
theorem dX4_hop_70 : decode cX4_hop 70 = .ok (.getfield 75, 3) := by decide +kernel
theorem dX4_hop_73 : decode cX4_hop 73 = .ok (.iadd, 1) := by decide +kernel
theorem dX4_hop_74 : decode cX4_hop 74 = .ok (.putfield 117, 3) := by decide +kernel
theorem dX4_hop_77 : decode cX4_hop 77 = .ok (.aload_n 0, 1) := by decide +kernel
theorem dX4_hop_78 : decode cX4_hop 78 = .ok (.dup, 1) := by decide +kernel
theorem dX4_hop_79 : decode cX4_hop 79 = .ok (.getfield 129, 3) := by decide +kernel
theorem dX4_hop_82 : decode cX4_hop 82 = .ok (.iconst 1, 1) := by decide +kernel
theorem dX4_hop_83 : decode cX4_hop 83 = .ok (.iadd, 1) := by decide +kernel
theorem dX4_hop_84 : decode cX4_hop 84 = .ok (.putfield 129, 3) := by decide +kernel
theorem dX4_hop_87 : decode cX4_hop 87 = .ok (.return_, 1) := by decide +kernel
theorem dX4_goASecond_0 : decode cX4_goASecond 0 = .ok (.aload_n 0, 1) := by decide +kernel
theorem dX4_goASecond_1 : decode cX4_goASecond 1 = .ok (.getfield 123, 3) := by decide +kernel
theorem dX4_goASecond_4 : decode cX4_goASecond 4 = .ok (.ifCond .le 8, 3) := by decide +kernel
theorem dX4_goASecond_7 : decode cX4_goASecond 7 = .ok (.aload_n 0, 1) := by decide +kernel
theorem dX4_goASecond_8 : decode cX4_goASecond 8 = .ok (.invokevirtual 138, 3) := by decide +kernel
theorem dX4_goASecond_11 : decode cX4_goASecond 11 = .ok (.return_, 1) := by decide +kernel
theorem dX4_goASecond_12 : decode cX4_goASecond 12 = .ok (.aload_n 0, 1) := by decide +kernel
theorem dX4_goASecond_13 : decode cX4_goASecond 13 = .ok (.dup, 1) := by decide +kernel
theorem dX4_goASecond_14 : decode cX4_goASecond 14 = .ok (.getfield 120, 3) := by decide +kernel
theorem dX4_goASecond_17 : decode cX4_goASecond 17 = .ok (.aload_n 0, 1) := by decide +kernel
theorem dX4_goASecond_18 : decode cX4_goASecond 18 = .ok (.invokevirtual 141, 3) := by decide +kernel
theorem dX4_goASecond_21 : decode cX4_goASecond 21 = .ok (.iadd, 1) := by decide +kernel
theorem dX4_goASecond_22 : decode cX4_goASecond 22 = .ok (.putfield 120, 3) := by decide +kernel
theorem dX4_goASecond_25 : decode cX4_goASecond 25 = .ok (.aload_n 0, 1) := by decide +kernel
theorem dX4_goASecond_26 : decode cX4_goASecond 26 = .ok (.getfield 120, 3) := by decide +kernel
theorem dX4_goASecond_29 : decode cX4_goASecond 29 = .ok (.bipush 100, 2) := by decide +kernel
theorem dX4_goASecond_31 : decode cX4_goASecond 31 = .ok (.if_icmp .lt 7, 3) := by decide +kernel
theorem dX4_goASecond_34 : decode cX4_goASecond 34 = .ok (.iconst 1, 1) := by decide +kernel
theorem dX4_goASecond_35 : decode cX4_goASecond 35 = .ok (.goto 4, 3) := by decide +kernel
theorem dX4_goASecond_38 : decode cX4_goASecond 38 = .ok (.iconst 0, 1) := by decide +kernel
theorem dX4_goASecond_39 : decode cX4_goASecond 39 = .ok (.istore_n 1, 1) := by decide +kernel
theorem dX4_goASecond_40 : decode cX4_goASecond 40 = .ok (.iload_n 1, 1) := by decide +kernel
theorem dX4_goASecond_41 : decode cX4_goASecond 41 = .ok (.ifCond .eq 14, 3) := by decide +kernel
theorem dX4_goASecond_44 : decode cX4_goASecond 44 = .ok (.aload_n 0, 1) := by decide +kernel
theorem dX4_goASecond_45 : decode cX4_goASecond 45 = .ok (.dup, 1) := by decide +kernel
theorem dX4_goASecond_46 : decode cX4_goASecond 46 = .ok (.getfield 120, 3) := by decide +kernel
theorem dX4_goASecond_49 : decode cX4_goASecond 49 = .ok (.bipush 100, 2) := by decide +kernel
theorem dX4_goASecond_51 : decode cX4_goASecond 51 = .ok (.isub, 1) := by decide +kernel
theorem dX4_goASecond_52 : decode cX4_goASecond 52 = .ok (.putfield 120, 3) := by decide +kernel
theorem dX4_goASecond_55 : decode cX4_goASecond 55 = .ok (.aload_n 0, 1) := by decide +kernel
theorem dX4_goASecond_56 : decode cX4_goASecond 56 = .ok (.iload_n 1, 1) := by decide +kernel
theorem dX4_goASecond_57 : decode cX4_goASecond 57 = .ok (.invokevirtual 145, 3) := by decide +kernel
theorem dX4_goASecond_60 : decode cX4_goASecond 60 = .ok (.return_, 1) := by decide +kernel
theorem dX4_goToWay_0 : decode cX4_goToWay 0 = .ok (.iconst 0, 1) := by decide +kernel
theorem dX4_goToWay_1 : decode cX4_goToWay 1 = .ok (.istore_n 2, 1) := by decide +kernel
theorem dX4_goToWay_2 : decode cX4_goToWay 2 = .ok (.iload_n 2, 1) := by decide +kernel
theorem dX4_goToWay_3 : decode cX4_goToWay 3 = .ok (.iload_n 1, 1) := by decide +kernel
theorem dX4_goToWay_4 : decode cX4_goToWay 4 = .ok (.if_icmp .ge 24, 3) := by decide +kernel
theorem dX4_goToWay_7 : decode cX4_goToWay 7 = .ok (.aload_n 0, 1) := by decide +kernel
theorem dX4_goToWay_8 : decode cX4_goToWay 8 = .ok (.getfield 117, 3) := by decide +kernel
theorem dX4_goToWay_11 : decode cX4_goToWay 11 = .ok (.aload_n 0, 1) := by decide +kernel
theorem dX4_goToWay_12 : decode cX4_goToWay 12 = .ok (.getfield 98, 3) := by decide +kernel
theorem dX4_goToWay_15 : decode cX4_goToWay 15 = .ok (.if_icmp .ge 13, 3) := by decide +kernel
theorem dX4_goToWay_18 : decode cX4_goToWay 18 = .ok (.aload_n 0, 1) := by decide +kernel
theorem dX4_goToWay_19 : decode cX4_goToWay 19 = .ok (.invokevirtual 149, 3) := by decide +kernel
theorem dX4_goToWay_22 : decode cX4_goToWay 22 = .ok (.iinc 2 1, 3) := by decide +kernel
theorem dX4_goToWay_25 : decode cX4_goToWay 25 = .ok (.goto (-23), 3) := by decide +kernel
theorem dX4_goToWay_28 : decode cX4_goToWay 28 = .ok (.return_, 1) := by decide +kernel
theorem dX4_timeNow_0 : decode cX4_timeNow 0 = .ok (.aload_n 0, 1) := by decide +kernel
theorem dX4_timeNow_1 : decode cX4_timeNow 1 = .ok (.getfield 117, 3) := by decide +kernel
theorem dX4_timeNow_4 : decode cX4_timeNow 4 = .ok (.aload_n 0, 1) := by decide +kernel
theorem dX4_timeNow_5 : decode cX4_timeNow 5 = .ok (.getfield 98, 3) := by decide +kernel
theorem dX4_timeNow_8 : decode cX4_timeNow 8 = .ok (.if_icmp .ge 9, 3) := by decide +kernel
theorem dX4_timeNow_11 : decode cX4_timeNow 11 = .ok (.sipush 999, 3) := by decide +kernel
theorem dX4_timeNow_14 : decode cX4_timeNow 14 = .ok (.goto 18, 3) := by decide +kernel
theorem dX4_timeNow_17 : decode cX4_timeNow 17 = .ok (.sipush 999, 3) := by decide +kernel
theorem dX4_timeNow_20 : decode cX4_timeNow 20 = .ok (.aload_n 0, 1) := by decide +kernel
theorem dX4_timeNow_21 : decode cX4_timeNow 21 = .ok (.getfield 129, 3) := by decide +kernel
theorem dX4_timeNow_24 : decode cX4_timeNow 24 = .ok (.aload_n 0, 1) := by decide +kernel
theorem dX4_timeNow_25 : decode cX4_timeNow 25 = .ok (.getfield 108, 3) := by decide +kernel
theorem dX4_timeNow_28 : decode cX4_timeNow 28 = .ok (.iadd, 1) := by decide +kernel
theorem dX4_timeNow_29 : decode cX4_timeNow 29 = .ok (.invokestatic 135, 3) := by decide +kernel
theorem dX4_timeNow_32 : decode cX4_timeNow 32 = .ok (.ireturn, 1) := by decide +kernel
theorem dX4_timeToRope_0 : decode cX4_timeToRope 0 = .ok (.aload_n 0, 1) := by decide +kernel
theorem dX4_timeToRope_1 : decode cX4_timeToRope 1 = .ok (.aload_n 1, 1) := by decide +kernel
theorem dX4_timeToRope_2 : decode cX4_timeToRope 2 = .ok (.invokevirtual 152, 3) := by decide +kernel
theorem dX4_timeToRope_5 : decode cX4_timeToRope 5 = .ok (.aload_n 0, 1) := by decide +kernel
theorem dX4_timeToRope_6 : decode cX4_timeToRope 6 = .ok (.sipush 999, 3) := by decide +kernel
theorem dX4_timeToRope_9 : decode cX4_timeToRope 9 = .ok (.invokevirtual 156, 3) := by decide +kernel
theorem dX4_timeToRope_12 : decode cX4_timeToRope 12 = .ok (.aload_n 0, 1) := by decide +kernel
theorem dX4_timeToRope_13 : decode cX4_timeToRope 13 = .ok (.invokevirtual 160, 3) := by decide +kernel
theorem dX4_timeToRope_16 : decode cX4_timeToRope 16 = .ok (.ireturn, 1) := by decide +kernel
theorem dX4_leastAheadFor_0 : decode cX4_leastAheadFor 0 = .ok (.iload_n 2, 1) := by decide +kernel
theorem dX4_leastAheadFor_1 : decode cX4_leastAheadFor 1 = .ok (.sipush 999, 3) := by decide +kernel
theorem dX4_leastAheadFor_4 : decode cX4_leastAheadFor 4 = .ok (.if_icmp .lt 5, 3) := by decide +kernel
theorem dX4_leastAheadFor_7 : decode cX4_leastAheadFor 7 = .ok (.iconst 0, 1) := by decide +kernel
theorem dX4_leastAheadFor_8 : decode cX4_leastAheadFor 8 = .ok (.ireturn, 1) := by decide +kernel
theorem dX4_leastAheadFor_9 : decode cX4_leastAheadFor 9 = .ok (.aload_n 0, 1) := by decide +kernel
theorem dX4_leastAheadFor_10 : decode cX4_leastAheadFor 10 = .ok (.getfield 12, 3) := by decide +kernel
theorem dX4_leastAheadFor_13 : decode cX4_leastAheadFor 13 = .ok (.iconst 0, 1) := by decide +kernel
theorem dX4_leastAheadFor_14 : decode cX4_leastAheadFor 14 = .ok (.putfield 114, 3) := by decide +kernel
theorem dX4_leastAheadFor_17 : decode cX4_leastAheadFor 17 = .ok (.aload_n 0, 1) := by decide +kernel
theorem dX4_leastAheadFor_18 : decode cX4_leastAheadFor 18 = .ok (.aload_n 1, 1) := by decide +kernel
theorem dX4_leastAheadFor_19 : decode cX4_leastAheadFor 19 = .ok (.invokevirtual 152, 3) := by decide +kernel
theorem dX4_leastAheadFor_22 : decode cX4_leastAheadFor 22 = .ok (.iload_n 2, 1) := by decide +kernel
theorem dX4_leastAheadFor_23 : decode cX4_leastAheadFor 23 = .ok (.aload_n 0, 1) := by decide +kernel
theorem dX4_leastAheadFor_24 : decode cX4_leastAheadFor 24 = .ok (.getfield 108, 3) := by decide +kernel
theorem dX4_leastAheadFor_27 : decode cX4_leastAheadFor 27 = .ok (.isub, 1) := by decide +kernel
theorem dX4_leastAheadFor_28 : decode cX4_leastAheadFor 28 = .ok (.istore_n 3, 1) := by decide +kernel
theorem dX4_leastAheadFor_29 : decode cX4_leastAheadFor 29 = .ok (.iload_n 3, 1) := by decide +kernel
theorem dX4_leastAheadFor_30 : decode cX4_leastAheadFor 30 = .ok (.ifCond .ge 5, 3) := by decide +kernel
theorem dX4_leastAheadFor_33 : decode cX4_leastAheadFor 33 = .ok (.iconst (-1), 1) := by decide +kernel
theorem dX4_leastAheadFor_34 : decode cX4_leastAheadFor 34 = .ok (.ireturn, 1) := by decide +kernel
theorem dX4_leastAheadFor_35 : decode cX4_leastAheadFor 35 = .ok (.iconst 0, 1) := by decide +kernel
theorem dX4_leastAheadFor_36 : decode cX4_leastAheadFor 36 = .ok (.istore 4, 2) := by decide +kernel
theorem dX4_leastAheadFor_38 : decode cX4_leastAheadFor 38 = .ok (.iload 4, 2) := by decide +kernel
theorem dX4_leastAheadFor_40 : decode cX4_leastAheadFor 40 = .ok (.iload_n 3, 1) := by decide +kernel
theorem dX4_leastAheadFor_41 : decode cX4_leastAheadFor 41 = .ok (.if_icmp .ge 13, 3) := by decide +kernel
theorem dX4_leastAheadFor_44 : decode cX4_leastAheadFor 44 = .ok (.aload_n 0, 1) := by decide +kernel
theorem dX4_leastAheadFor_45 : decode cX4_leastAheadFor 45 = .ok (.invokevirtual 149, 3) := by decide +kernel
theorem dX4_leastAheadFor_48 : decode cX4_leastAheadFor 48 = .ok (.iinc 4 1, 3) := by decide +kernel
theorem dX4_leastAheadFor_51 : decode cX4_leastAheadFor 51 = .ok (.goto (-13), 3) := by decide +kernel
theorem dX4_leastAheadFor_54 : decode cX4_leastAheadFor 54 = .ok (.iconst 0, 1) := by decide +kernel
theorem dX4_leastAheadFor_55 : decode cX4_leastAheadFor 55 = .ok (.aload_n 0, 1) := by decide +kernel
theorem dX4_leastAheadFor_56 : decode cX4_leastAheadFor 56 = .ok (.getfield 98, 3) := by decide +kernel
theorem dX4_leastAheadFor_59 : decode cX4_leastAheadFor 59 = .ok (.aload_n 0, 1) := by decide +kernel
theorem dX4_leastAheadFor_60 : decode cX4_leastAheadFor 60 = .ok (.getfield 117, 3) := by decide +kernel
theorem dX4_leastAheadFor_63 : decode cX4_leastAheadFor 63 = .ok (.isub, 1) := by decide +kernel
theorem dX4_leastAheadFor_64 : decode cX4_leastAheadFor 64 = .ok (.invokestatic 104, 3) := by decide +kernel
theorem dX4_leastAheadFor_67 : decode cX4_leastAheadFor 67 = .ok (.istore 4, 2) := by decide +kernel
theorem dX4_leastAheadFor_69 : decode cX4_leastAheadFor 69 = .ok (.iload 4, 2) := by decide +kernel
theorem dX4_leastAheadFor_71 : decode cX4_leastAheadFor 71 = .ok (.bipush 99, 2) := by decide +kernel
theorem dX4_leastAheadFor_73 : decode cX4_leastAheadFor 73 = .ok (.if_icmp .le 7, 3) := by decide +kernel
theorem dX4_leastAheadFor_76 : decode cX4_leastAheadFor 76 = .ok (.iconst (-1), 1) := by decide +kernel
theorem dX4_leastAheadFor_77 : decode cX4_leastAheadFor 77 = .ok (.goto 5, 3) := by decide +kernel
theorem dX4_leastAheadFor_80 : decode cX4_leastAheadFor 80 = .ok (.iload 4, 2) := by decide +kernel
theorem dX4_leastAheadFor_82 : decode cX4_leastAheadFor 82 = .ok (.ireturn, 1) := by decide +kernel
theorem dX5_init_0 : decode cX5_init 0 = .ok (.aload_n 0, 1) := by decide +kernel
theorem dX5_init_1 : decode cX5_init 1 = .ok (.invokespecial 5, 3) := by decide +kernel
theorem dX5_init_4 : decode cX5_init 4 = .ok (.aload_n 0, 1) := by decide +kernel
theorem dX5_init_5 : decode cX5_init 5 = .ok (.iconst 3, 1) := by decide +kernel
theorem dX5_init_6 : decode cX5_init 6 = .ok (.newarray .int, 2) := by decide +kernel
theorem dX5_init_8 : decode cX5_init 8 = .ok (.putfield 11, 3) := by decide +kernel
theorem dX5_init_11 : decode cX5_init 11 = .ok (.aload_n 0, 1) := by decide +kernel
theorem dX5_init_12 : decode cX5_init 12 = .ok (.iconst (-1), 1) := by decide +kernel
theorem dX5_init_13 : decode cX5_init 13 = .ok (.putfield 15, 3) := by decide +kernel
theorem dX5_init_16 : decode cX5_init 16 = .ok (.return_, 1) := by decide +kernel
theorem dX5_read_0 : decode cX5_read 0 = .ok (.aload_n 0, 1) := by decide +kernel
theorem dX5_read_1 : decode cX5_read 1 = .ok (.iconst 0, 1) := by decide +kernel
theorem dX5_read_2 : decode cX5_read 2 = .ok (.putfield 19, 3) := by decide +kernel
theorem dX5_read_5 : decode cX5_read 5 = .ok (.aload_n 0, 1) := by decide +kernel
theorem dX5_read_6 : decode cX5_read 6 = .ok (.iconst (-1), 1) := by decide +kernel
theorem dX5_read_7 : decode cX5_read 7 = .ok (.putfield 15, 3) := by decide +kernel
theorem dX5_read_10 : decode cX5_read 10 = .ok (.iconst 1, 1) := by decide +kernel
theorem dX5_read_11 : decode cX5_read 11 = .ok (.istore_n 3, 1) := by decide +kernel
theorem dX5_read_12 : decode cX5_read 12 = .ok (.iload_n 3, 1) := by decide +kernel
theorem dX5_read_13 : decode cX5_read 13 = .ok (.sipush 160, 3) := by decide +kernel
theorem dX5_read_16 : decode cX5_read 16 = .ok (.if_icmp .gt 69, 3) := by decide +kernel
theorem dX5_read_19 : decode cX5_read 19 = .ok (.aload_n 0, 1) := by decide +kernel
theorem dX5_read_20 : decode cX5_read 20 = .ok (.aload_n 1, 1) := by decide +kernel
theorem dX5_read_21 : decode cX5_read 21 = .ok (.aload_n 2, 1) := by decide +kernel
theorem dX5_read_22 : decode cX5_read 22 = .ok (.invokevirtual 22, 3) := by decide +kernel
theorem dX5_read_25 : decode cX5_read 25 = .ok (.aload_n 0, 1) := by decide +kernel
theorem dX5_read_26 : decode cX5_read 26 = .ok (.getfield 15, 3) := by decide +kernel
theorem dX5_read_29 : decode cX5_read 29 = .ok (.iconst (-1), 1) := by decide +kernel
theorem dX5_read_30 : decode cX5_read 30 = .ok (.if_icmp .ne 14, 3) := by decide +kernel
theorem dX5_read_33 : decode cX5_read 33 = .ok (.aload_n 0, 1) := by decide +kernel
theorem dX5_read_34 : decode cX5_read 34 = .ok (.getfield 19, 3) := by decide +kernel
theorem dX5_read_37 : decode cX5_read 37 = .ok (.aload_n 1, 1) := by decide +kernel
theorem dX5_read_38 : decode cX5_read 38 = .ok (.getfield 26, 3) := by decide +kernel
theorem dX5_read_41 : decode cX5_read 41 = .ok (.if_icmp .lt 5, 3) := by decide +kernel
theorem dX5_read_44 : decode cX5_read 44 = .ok (.iload_n 3, 1) := by decide +kernel
theorem dX5_read_45 : decode cX5_read 45 = .ok (.ireturn, 1) := by decide +kernel
theorem dX5_read_46 : decode cX5_read 46 = .ok (.aload_n 1, 1) := by decide +kernel
theorem dX5_read_47 : decode cX5_read 47 = .ok (.aload_n 0, 1) := by decide +kernel
theorem dX5_read_48 : decode cX5_read 48 = .ok (.getfield 19, 3) := by decide +kernel
theorem dX5_read_51 : decode cX5_read 51 = .ok (.invokevirtual 31, 3) := by decide +kernel
theorem dX5_read_54 : decode cX5_read 54 = .ok (.bipush 59, 2) := by decide +kernel
theorem dX5_read_56 : decode cX5_read 56 = .ok (.if_icmp .eq 13, 3) := by decide +kernel
theorem dX5_read_59 : decode cX5_read 59 = .ok (.aload_n 0, 1) := by decide +kernel
theorem dX5_read_60 : decode cX5_read 60 = .ok (.aload_n 0, 1) := by decide +kernel
theorem dX5_read_61 : decode cX5_read 61 = .ok (.getfield 19, 3) := by decide +kernel
theorem dX5_read_64 : decode cX5_read 64 = .ok (.putfield 15, 3) := by decide +kernel
theorem dX5_read_67 : decode cX5_read 67 = .ok (.iload_n 3, 1) := by decide +kernel
theorem dX5_read_68 : decode cX5_read 68 = .ok (.ireturn, 1) := by decide +kernel
theorem dX5_read_69 : decode cX5_read 69 = .ok (.aload_n 0, 1) := by decide +kernel
theorem dX5_read_70 : decode cX5_read 70 = .ok (.dup, 1) := by decide +kernel
theorem dX5_read_71 : decode cX5_read 71 = .ok (.getfield 19, 3) := by decide +kernel
theorem dX5_read_74 : decode cX5_read 74 = .ok (.iconst 1, 1) := by decide +kernel
theorem dX5_read_75 : decode cX5_read 75 = .ok (.iadd, 1) := by decide +kernel
theorem dX5_read_76 : decode cX5_read 76 = .ok (.putfield 19, 3) := by decide +kernel
theorem dX5_read_79 : decode cX5_read 79 = .ok (.iinc 3 1, 3) := by decide +kernel
theorem dX5_read_82 : decode cX5_read 82 = .ok (.goto (-70), 3) := by decide +kernel
theorem dX5_read_85 : decode cX5_read 85 = .ok (.iconst 0, 1) := by decide +kernel
theorem dX5_read_86 : decode cX5_read 86 = .ok (.ireturn, 1) := by decide +kernel
theorem dX5_readItem_0 : decode cX5_readItem 0 = .ok (.aload_n 0, 1) := by decide +kernel
theorem dX5_readItem_1 : decode cX5_readItem 1 = .ok (.aload_n 1, 1) := by decide +kernel
theorem dX5_readItem_2 : decode cX5_readItem 2 = .ok (.invokevirtual 35, 3) := by decide +kernel
theorem dX5_readItem_5 : decode cX5_readItem 5 = .ok (.istore_n 3, 1) := by decide +kernel
theorem dX5_readItem_6 : decode cX5_readItem 6 = .ok (.iload_n 3, 1) := by decide +kernel
theorem dX5_readItem_7 : decode cX5_readItem 7 = .ok (.iconst (-1), 1) := by decide +kernel
theorem dX5_readItem_8 : decode cX5_readItem 8 = .ok (.if_icmp .ne 4, 3) := by decide +kernel
theorem dX5_readItem_11 : decode cX5_readItem 11 = .ok (.return_, 1) := by decide +kernel
theorem dX5_readItem_12 : decode cX5_readItem 12 = .ok (.aload_n 2, 1) := by decide +kernel
theorem dX5_readItem_13 : decode cX5_readItem 13 = .ok (.iload_n 3, 1) := by decide +kernel
theorem dX5_readItem_14 : decode cX5_readItem 14 = .ok (.invokestatic 39, 3) := by decide +kernel
theorem dX5_readItem_17 : decode cX5_readItem 17 = .ok (.ifCond .ne 12, 3) := by decide +kernel
theorem dX5_readItem_20 : decode cX5_readItem 20 = .ok (.aload_n 0, 1) := by decide +kernel
theorem dX5_readItem_21 : decode cX5_readItem 21 = .ok (.aload_n 0, 1) := by decide +kernel
theorem dX5_readItem_22 : decode cX5_readItem 22 = .ok (.getfield 19, 3) := by decide +kernel
theorem dX5_readItem_25 : decode cX5_readItem 25 = .ok (.putfield 15, 3) := by decide +kernel
theorem dX5_readItem_28 : decode cX5_readItem 28 = .ok (.return_, 1) := by decide +kernel
theorem dX5_readItem_29 : decode cX5_readItem 29 = .ok (.aload_n 0, 1) := by decide +kernel
theorem dX5_readItem_30 : decode cX5_readItem 30 = .ok (.dup, 1) := by decide +kernel
theorem dX5_readItem_31 : decode cX5_readItem 31 = .ok (.getfield 19, 3) := by decide +kernel
theorem dX5_readItem_34 : decode cX5_readItem 34 = .ok (.iload_n 3, 1) := by decide +kernel
theorem dX5_readItem_35 : decode cX5_readItem 35 = .ok (.invokestatic 43, 3) := by decide +kernel
theorem dX5_readItem_38 : decode cX5_readItem 38 = .ok (.invokevirtual 47, 3) := by decide +kernel
theorem dX5_readItem_41 : decode cX5_readItem 41 = .ok (.iadd, 1) := by decide +kernel
theorem dX5_readItem_42 : decode cX5_readItem 42 = .ok (.putfield 19, 3) := by decide +kernel
theorem dX5_readItem_45 : decode cX5_readItem 45 = .ok (.iload_n 3, 1) := by decide +kernel
theorem dX5_readItem_46 : decode cX5_readItem 46 = .ok (.invokestatic 53, 3) := by decide +kernel
theorem dX5_readItem_49 : decode cX5_readItem 49 = .ok (.istore 4, 2) := by decide +kernel
theorem dX5_readItem_51 : decode cX5_readItem 51 = .ok (.iconst 0, 1) := by decide +kernel
theorem dX5_readItem_52 : decode cX5_readItem 52 = .ok (.istore 5, 2) := by decide +kernel
theorem dX5_readItem_54 : decode cX5_readItem 54 = .ok (.iload 5, 2) := by decide +kernel
theorem dX5_readItem_56 : decode cX5_readItem 56 = .ok (.iload 4, 2) := by decide +kernel
theorem dX5_readItem_58 : decode cX5_readItem 58 = .ok (.if_icmp .ge 37, 3) := by decide +kernel
theorem dX5_readItem_61 : decode cX5_readItem 61 = .ok (.aload_n 0, 1) := by decide +kernel
theorem dX5_readItem_62 : decode cX5_readItem 62 = .ok (.getfield 15, 3) := by decide +kernel
theorem dX5_readItem_65 : decode cX5_readItem 65 = .ok (.iconst (-1), 1) := by decide +kernel
theorem dX5_readItem_66 : decode cX5_readItem 66 = .ok (.if_icmp .ne 29, 3) := by decide +kernel
theorem dX5_readItem_69 : decode cX5_readItem 69 = .ok (.aload_n 0, 1) := by decide +kernel
theorem dX5_readItem_70 : decode cX5_readItem 70 = .ok (.aload_n 1, 1) := by decide +kernel
theorem dX5_readItem_71 : decode cX5_readItem 71 = .ok (.iload 5, 2) := by decide +kernel
theorem dX5_readItem_73 : decode cX5_readItem 73 = .ok (.iload_n 3, 1) := by decide +kernel
theorem dX5_readItem_74 : decode cX5_readItem 74 = .ok (.iload 5, 2) := by decide +kernel
theorem dX5_readItem_76 : decode cX5_readItem 76 = .ok (.invokestatic 56, 3) := by decide +kernel
theorem dX5_readItem_79 : decode cX5_readItem 79 = .ok (.aload_n 2, 1) := by decide +kernel
theorem dX5_readItem_80 : decode cX5_readItem 80 = .ok (.iload_n 3, 1) := by decide +kernel
theorem dX5_readItem_81 : decode cX5_readItem 81 = .ok (.iload 5, 2) := by decide +kernel
theorem dX5_readItem_83 : decode cX5_readItem 83 = .ok (.invokestatic 60, 3) := by decide +kernel
theorem dX5_readItem_86 : decode cX5_readItem 86 = .ok (.invokevirtual 64, 3) := by decide +kernel
theorem dX5_readItem_89 : decode cX5_readItem 89 = .ok (.iinc 5 1, 3) := by decide +kernel
theorem dX5_readItem_92 : decode cX5_readItem 92 = .ok (.goto (-38), 3) := by decide +kernel
theorem dX5_readItem_95 : decode cX5_readItem 95 = .ok (.aload_n 0, 1) := by decide +kernel
theorem dX5_readItem_96 : decode cX5_readItem 96 = .ok (.getfield 15, 3) := by decide +kernel
theorem dX5_readItem_99 : decode cX5_readItem 99 = .ok (.iconst (-1), 1) := by decide +kernel
theorem dX5_readItem_100 : decode cX5_readItem 100 = .ok (.if_icmp .ne 9, 3) := by decide +kernel
theorem dX5_readItem_103 : decode cX5_readItem 103 = .ok (.aload_n 0, 1) := by decide +kernel
theorem dX5_readItem_104 : decode cX5_readItem 104 = .ok (.aload_n 2, 1) := by decide +kernel
theorem dX5_readItem_105 : decode cX5_readItem 105 = .ok (.iload_n 3, 1) := by decide +kernel
theorem dX5_readItem_106 : decode cX5_readItem 106 = .ok (.invokevirtual 68, 3) := by decide +kernel
theorem dX5_readItem_109 : decode cX5_readItem 109 = .ok (.return_, 1) := by decide +kernel
theorem dX5_readWord_0 : decode cX5_readWord 0 = .ok (.iconst 0, 1) := by decide +kernel
theorem dX5_readWord_1 : decode cX5_readWord 1 = .ok (.istore_n 2, 1) := by decide +kernel
theorem dX5_readWord_2 : decode cX5_readWord 2 = .ok (.iconst 0, 1) := by decide +kernel
theorem dX5_readWord_3 : decode cX5_readWord 3 = .ok (.istore_n 3, 1) := by decide +kernel
theorem dX5_readWord_4 : decode cX5_readWord 4 = .ok (.iload_n 3, 1) := by decide +kernel
theorem dX5_readWord_5 : decode cX5_readWord 5 = .ok (.bipush 8, 2) := by decide +kernel
theorem dX5_readWord_7 : decode cX5_readWord 7 = .ok (.if_icmp .ge 41, 3) := by decide +kernel
theorem dX5_readWord_10 : decode cX5_readWord 10 = .ok (.aload_n 0, 1) := by decide +kernel
theorem dX5_readWord_11 : decode cX5_readWord 11 = .ok (.aload_n 1, 1) := by decide +kernel
theorem dX5_readWord_12 : decode cX5_readWord 12 = .ok (.iload_n 3, 1) := by decide +kernel
theorem dX5_readWord_13 : decode cX5_readWord 13 = .ok (.invokestatic 43, 3) := by decide +kernel
theorem dX5_readWord_16 : decode cX5_readWord 16 = .ok (.invokevirtual 72, 3) := by decide +kernel
theorem dX5_readWord_19 : decode cX5_readWord 19 = .ok (.istore 4, 2) := by decide +kernel
theorem dX5_readWord_21 : decode cX5_readWord 21 = .ok (.iload 4, 2) := by decide +kernel
theorem dX5_readWord_23 : decode cX5_readWord 23 = .ok (.iload_n 3, 1) := by decide +kernel
theorem dX5_readWord_24 : decode cX5_readWord 24 = .ok (.invokestatic 43, 3) := by decide +kernel
theorem dX5_readWord_27 : decode cX5_readWord 27 = .ok (.invokevirtual 47, 3) := by decide +kernel
theorem dX5_readWord_30 : decode cX5_readWord 30 = .ok (.if_icmp .ne 5, 3) := by decide +kernel
theorem dX5_readWord_33 : decode cX5_readWord 33 = .ok (.iload_n 3, 1) := by decide +kernel
theorem dX5_readWord_34 : decode cX5_readWord 34 = .ok (.ireturn, 1) := by decide +kernel
theorem dX5_readWord_35 : decode cX5_readWord 35 = .ok (.iload_n 2, 1) := by decide +kernel
theorem dX5_readWord_36 : decode cX5_readWord 36 = .ok (.iload 4, 2) := by decide +kernel
theorem dX5_readWord_38 : decode cX5_readWord 38 = .ok (.invokestatic 76, 3) := by decide +kernel
theorem dX5_readWord_41 : decode cX5_readWord 41 = .ok (.istore_n 2, 1) := by decide +kernel
theorem dX5_readWord_42 : decode cX5_readWord 42 = .ok (.iinc 3 1, 3) := by decide +kernel
theorem dX5_readWord_45 : decode cX5_readWord 45 = .ok (.goto (-41), 3) := by decide +kernel
theorem dX5_readWord_48 : decode cX5_readWord 48 = .ok (.aload_n 0, 1) := by decide +kernel
theorem dX5_readWord_49 : decode cX5_readWord 49 = .ok (.aload_n 0, 1) := by decide +kernel
theorem dX5_readWord_50 : decode cX5_readWord 50 = .ok (.getfield 19, 3) := by decide +kernel
theorem dX5_readWord_53 : decode cX5_readWord 53 = .ok (.iload_n 2, 1) := by decide +kernel
theorem dX5_readWord_54 : decode cX5_readWord 54 = .ok (.iadd, 1) := by decide +kernel
theorem dX5_readWord_55 : decode cX5_readWord 55 = .ok (.putfield 15, 3) := by decide +kernel
theorem dX5_readWord_58 : decode cX5_readWord 58 = .ok (.iconst (-1), 1) := by decide +kernel
theorem dX5_readWord_59 : decode cX5_readWord 59 = .ok (.ireturn, 1) := by decide +kernel
theorem dX5_lettersAlike_0 : decode cX5_lettersAlike 0 = .ok (.iconst 0, 1) := by decide +kernel
theorem dX5_lettersAlike_1 : decode cX5_lettersAlike 1 = .ok (.istore_n 3, 1) := by decide +kernel
theorem dX5_lettersAlike_2 : decode cX5_lettersAlike 2 = .ok (.iload_n 3, 1) := by decide +kernel
theorem dX5_lettersAlike_3 : decode cX5_lettersAlike 3 = .ok (.aload_n 2, 1) := by decide +kernel
theorem dX5_lettersAlike_4 : decode cX5_lettersAlike 4 = .ok (.invokevirtual 47, 3) := by decide +kernel
theorem dX5_lettersAlike_7 : decode cX5_lettersAlike 7 = .ok (.if_icmp .ge 27, 3) := by decide +kernel
theorem dX5_lettersAlike_10 : decode cX5_lettersAlike 10 = .ok (.aload_n 1, 1) := by decide +kernel
theorem dX5_lettersAlike_11 : decode cX5_lettersAlike 11 = .ok (.aload_n 0, 1) := by decide +kernel
theorem dX5_lettersAlike_12 : decode cX5_lettersAlike 12 = .ok (.getfield 19, 3) := by decide +kernel
theorem dX5_lettersAlike_15 : decode cX5_lettersAlike 15 = .ok (.iload_n 3, 1) := by decide +kernel
theorem dX5_lettersAlike_16 : decode cX5_lettersAlike 16 = .ok (.iadd, 1) := by decide +kernel
theorem dX5_lettersAlike_17 : decode cX5_lettersAlike 17 = .ok (.invokevirtual 31, 3) := by decide +kernel
theorem dX5_lettersAlike_20 : decode cX5_lettersAlike 20 = .ok (.aload_n 2, 1) := by decide +kernel
theorem dX5_lettersAlike_21 : decode cX5_lettersAlike 21 = .ok (.iload_n 3, 1) := by decide +kernel
theorem dX5_lettersAlike_22 : decode cX5_lettersAlike 22 = .ok (.invokevirtual 81, 3) := by decide +kernel
theorem dX5_lettersAlike_25 : decode cX5_lettersAlike 25 = .ok (.if_icmp .ne 9, 3) := by decide +kernel
theorem dX5_lettersAlike_28 : decode cX5_lettersAlike 28 = .ok (.iinc 3 1, 3) := by decide +kernel
theorem dX5_lettersAlike_31 : decode cX5_lettersAlike 31 = .ok (.goto (-29), 3) := by decide +kernel
theorem dX5_lettersAlike_34 : decode cX5_lettersAlike 34 = .ok (.iload_n 3, 1) := by decide +kernel
theorem dX5_lettersAlike_35 : decode cX5_lettersAlike 35 = .ok (.ireturn, 1) := by decide +kernel
theorem dX5_readNumber_0 : decode cX5_readNumber 0 = .ok (.aload_n 1, 1) := by decide +kernel
theorem dX5_readNumber_1 : decode cX5_readNumber 1 = .ok (.aload_n 0, 1) := by decide +kernel
theorem dX5_readNumber_2 : decode cX5_readNumber 2 = .ok (.getfield 19, 3) := by decide +kernel
theorem dX5_readNumber_5 : decode cX5_readNumber 5 = .ok (.invokevirtual 31, 3) := by decide +kernel
theorem dX5_readNumber_8 : decode cX5_readNumber 8 = .ok (.bipush 32, 2) := by decide +kernel
theorem dX5_readNumber_10 : decode cX5_readNumber 10 = .ok (.if_icmp .eq 12, 3) := by decide +kernel
theorem dX5_readNumber_13 : decode cX5_readNumber 13 = .ok (.aload_n 0, 1) := by decide +kernel
theorem dX5_readNumber_14 : decode cX5_readNumber 14 = .ok (.aload_n 0, 1) := by decide +kernel
theorem dX5_readNumber_15 : decode cX5_readNumber 15 = .ok (.getfield 19, 3) := by decide +kernel
theorem dX5_readNumber_18 : decode cX5_readNumber 18 = .ok (.putfield 15, 3) := by decide +kernel
theorem dX5_readNumber_21 : decode cX5_readNumber 21 = .ok (.return_, 1) := by decide +kernel
theorem dX5_readNumber_22 : decode cX5_readNumber 22 = .ok (.aload_n 0, 1) := by decide +kernel
theorem dX5_readNumber_23 : decode cX5_readNumber 23 = .ok (.dup, 1) := by decide +kernel
theorem dX5_readNumber_24 : decode cX5_readNumber 24 = .ok (.getfield 19, 3) := by decide +kernel
theorem dX5_readNumber_27 : decode cX5_readNumber 27 = .ok (.iconst 1, 1) := by decide +kernel
theorem dX5_readNumber_28 : decode cX5_readNumber 28 = .ok (.iadd, 1) := by decide +kernel
theorem dX5_readNumber_29 : decode cX5_readNumber 29 = .ok (.putfield 19, 3) := by decide +kernel
theorem dX5_readNumber_32 : decode cX5_readNumber 32 = .ok (.aload_n 0, 1) := by decide +kernel
theorem dX5_readNumber_33 : decode cX5_readNumber 33 = .ok (.getfield 19, 3) := by decide +kernel
theorem dX5_readNumber_36 : decode cX5_readNumber 36 = .ok (.istore 5, 2) := by decide +kernel
theorem dX5_readNumber_38 : decode cX5_readNumber 38 = .ok (.iconst 0, 1) := by decide +kernel
theorem dX5_readNumber_39 : decode cX5_readNumber 39 = .ok (.istore 6, 2) := by decide +kernel
theorem dX5_readNumber_41 : decode cX5_readNumber 41 = .ok (.aload_n 0, 1) := by decide +kernel
theorem dX5_readNumber_42 : decode cX5_readNumber 42 = .ok (.getfield 19, 3) := by decide +kernel
theorem dX5_readNumber_45 : decode cX5_readNumber 45 = .ok (.iload 5, 2) := by decide +kernel
theorem dX5_readNumber_47 : decode cX5_readNumber 47 = .ok (.iconst 3, 1) := by decide +kernel
theorem dX5_readNumber_48 : decode cX5_readNumber 48 = .ok (.iadd, 1) := by decide +kernel
theorem dX5_readNumber_49 : decode cX5_readNumber 49 = .ok (.if_icmp .ge 49, 3) := by decide +kernel
theorem dX5_readNumber_52 : decode cX5_readNumber 52 = .ok (.aload_n 1, 1) := by decide +kernel
theorem dX5_readNumber_53 : decode cX5_readNumber 53 = .ok (.aload_n 0, 1) := by decide +kernel
theorem dX5_readNumber_54 : decode cX5_readNumber 54 = .ok (.getfield 19, 3) := by decide +kernel
theorem dX5_readNumber_57 : decode cX5_readNumber 57 = .ok (.invokevirtual 31, 3) := by decide +kernel
theorem dX5_readNumber_60 : decode cX5_readNumber 60 = .ok (.invokestatic 85, 3) := by decide +kernel
theorem dX5_readNumber_63 : decode cX5_readNumber 63 = .ok (.ifCond .eq 35, 3) := by decide +kernel
theorem dX5_readNumber_66 : decode cX5_readNumber 66 = .ok (.iload 6, 2) := by decide +kernel
theorem dX5_readNumber_68 : decode cX5_readNumber 68 = .ok (.bipush 10, 2) := by decide +kernel
theorem dX5_readNumber_70 : decode cX5_readNumber 70 = .ok (.imul, 1) := by decide +kernel
theorem dX5_readNumber_71 : decode cX5_readNumber 71 = .ok (.aload_n 1, 1) := by decide +kernel
theorem dX5_readNumber_72 : decode cX5_readNumber 72 = .ok (.aload_n 0, 1) := by decide +kernel
theorem dX5_readNumber_73 : decode cX5_readNumber 73 = .ok (.getfield 19, 3) := by decide +kernel
theorem dX5_readNumber_76 : decode cX5_readNumber 76 = .ok (.invokevirtual 31, 3) := by decide +kernel
theorem dX5_readNumber_79 : decode cX5_readNumber 79 = .ok (.iadd, 1) := by decide +kernel
theorem dX5_readNumber_80 : decode cX5_readNumber 80 = .ok (.bipush 48, 2) := by decide +kernel
theorem dX5_readNumber_82 : decode cX5_readNumber 82 = .ok (.isub, 1) := by decide +kernel
theorem dX5_readNumber_83 : decode cX5_readNumber 83 = .ok (.istore 6, 2) := by decide +kernel
theorem dX5_readNumber_85 : decode cX5_readNumber 85 = .ok (.aload_n 0, 1) := by decide +kernel
theorem dX5_readNumber_86 : decode cX5_readNumber 86 = .ok (.dup, 1) := by decide +kernel
theorem dX5_readNumber_87 : decode cX5_readNumber 87 = .ok (.getfield 19, 3) := by decide +kernel
theorem dX5_readNumber_90 : decode cX5_readNumber 90 = .ok (.iconst 1, 1) := by decide +kernel
theorem dX5_readNumber_91 : decode cX5_readNumber 91 = .ok (.iadd, 1) := by decide +kernel
theorem dX5_readNumber_92 : decode cX5_readNumber 92 = .ok (.putfield 19, 3) := by decide +kernel
theorem dX5_readNumber_95 : decode cX5_readNumber 95 = .ok (.goto (-54), 3) := by decide +kernel
theorem dX5_readNumber_98 : decode cX5_readNumber 98 = .ok (.aload_n 0, 1) := by decide +kernel
theorem dX5_readNumber_99 : decode cX5_readNumber 99 = .ok (.getfield 19, 3) := by decide +kernel
theorem dX5_readNumber_102 : decode cX5_readNumber 102 = .ok (.iload 5, 2) := by decide +kernel
theorem dX5_readNumber_104 : decode cX5_readNumber 104 = .ok (.if_icmp .eq 16, 3) := by decide +kernel
theorem dX5_readNumber_107 : decode cX5_readNumber 107 = .ok (.iload 6, 2) := by decide +kernel
theorem dX5_readNumber_109 : decode cX5_readNumber 109 = .ok (.iload_n 3, 1) := by decide +kernel
theorem dX5_readNumber_110 : decode cX5_readNumber 110 = .ok (.if_icmp .lt 10, 3) := by decide +kernel
theorem dX5_readNumber_113 : decode cX5_readNumber 113 = .ok (.iload 6, 2) := by decide +kernel
theorem dX5_readNumber_115 : decode cX5_readNumber 115 = .ok (.iload 4, 2) := by decide +kernel
theorem dX5_readNumber_117 : decode cX5_readNumber 117 = .ok (.if_icmp .le 12, 3) := by decide +kernel
theorem dX5_readNumber_120 : decode cX5_readNumber 120 = .ok (.aload_n 0, 1) := by decide +kernel
theorem dX5_readNumber_121 : decode cX5_readNumber 121 = .ok (.iload 5, 2) := by decide +kernel
theorem dX5_readNumber_123 : decode cX5_readNumber 123 = .ok (.putfield 15, 3) := by decide +kernel
theorem dX5_readNumber_126 : decode cX5_readNumber 126 = .ok (.goto 24, 3) := by decide +kernel
theorem dX5_readNumber_129 : decode cX5_readNumber 129 = .ok (.iload_n 2, 1) := by decide +kernel
theorem dX5_readNumber_130 : decode cX5_readNumber 130 = .ok (.ifCond .lt 20, 3) := by decide +kernel
theorem dX5_readNumber_133 : decode cX5_readNumber 133 = .ok (.iload_n 2, 1) := by decide +kernel
theorem dX5_readNumber_134 : decode cX5_readNumber 134 = .ok (.aload_n 0, 1) := by decide +kernel
theorem dX5_readNumber_135 : decode cX5_readNumber 135 = .ok (.getfield 11, 3) := by decide +kernel
theorem dX5_readNumber_138 : decode cX5_readNumber 138 = .ok (.arraylength, 1) := by decide +kernel
theorem dX5_readNumber_139 : decode cX5_readNumber 139 = .ok (.if_icmp .ge 11, 3) := by decide +kernel
theorem dX5_readNumber_142 : decode cX5_readNumber 142 = .ok (.aload_n 0, 1) := by decide +kernel
theorem dX5_readNumber_143 : decode cX5_readNumber 143 = .ok (.getfield 11, 3) := by decide +kernel
theorem dX5_readNumber_146 : decode cX5_readNumber 146 = .ok (.iload_n 2, 1) := by decide +kernel
theorem dX5_readNumber_147 : decode cX5_readNumber 147 = .ok (.iload 6, 2) := by decide +kernel
theorem dX5_readNumber_149 : decode cX5_readNumber 149 = .ok (.iastore, 1) := by decide +kernel
theorem dX5_readNumber_150 : decode cX5_readNumber 150 = .ok (.return_, 1) := by decide +kernel
theorem dX5_tell_0 : decode cX5_tell 0 = .ok (.iload_n 2, 1) := by decide +kernel
theorem dX5_tell_1 : decode cX5_tell 1 = .ok (.tableswitch 149 0 3 #[31, 57, 77, 113], 31) := by decide +kernel
theorem dX5_tell_32 : decode cX5_tell 32 = .ok (.aload_n 1, 1) := by decide +kernel
theorem dX5_tell_33 : decode cX5_tell 33 = .ok (.aload_n 0, 1) := by decide +kernel
theorem dX5_tell_34 : decode cX5_tell 34 = .ok (.getfield 11, 3) := by decide +kernel
theorem dX5_tell_37 : decode cX5_tell 37 = .ok (.iconst 0, 1) := by decide +kernel
theorem dX5_tell_38 : decode cX5_tell 38 = .ok (.iaload, 1) := by decide +kernel
theorem dX5_tell_39 : decode cX5_tell 39 = .ok (.aload_n 0, 1) := by decide +kernel
theorem dX5_tell_40 : decode cX5_tell 40 = .ok (.getfield 11, 3) := by decide +kernel
theorem dX5_tell_43 : decode cX5_tell 43 = .ok (.iconst 1, 1) := by decide +kernel
theorem dX5_tell_44 : decode cX5_tell 44 = .ok (.iaload, 1) := by decide +kernel
theorem dX5_tell_45 : decode cX5_tell 45 = .ok (.aload_n 0, 1) := by decide +kernel
theorem dX5_tell_46 : decode cX5_tell 46 = .ok (.getfield 11, 3) := by decide +kernel
theorem dX5_tell_49 : decode cX5_tell 49 = .ok (.iconst 2, 1) := by decide +kernel
theorem dX5_tell_50 : decode cX5_tell 50 = .ok (.iaload, 1) := by decide +kernel
theorem dX5_tell_51 : decode cX5_tell 51 = .ok (.invokevirtual 89, 3) := by decide +kernel
theorem dX5_tell_54 : decode cX5_tell 54 = .ok (.pop, 1) := by decide +kernel
theorem dX5_tell_55 : decode cX5_tell 55 = .ok (.goto 108, 3) := by decide +kernel
theorem dX5_tell_58 : decode cX5_tell 58 = .ok (.aload_n 1, 1) := by decide +kernel
theorem dX5_tell_59 : decode cX5_tell 59 = .ok (.aload_n 0, 1) := by decide +kernel
theorem dX5_tell_60 : decode cX5_tell 60 = .ok (.getfield 11, 3) := by decide +kernel
theorem dX5_tell_63 : decode cX5_tell 63 = .ok (.iconst 0, 1) := by decide +kernel
theorem dX5_tell_64 : decode cX5_tell 64 = .ok (.iaload, 1) := by decide +kernel
theorem dX5_tell_65 : decode cX5_tell 65 = .ok (.aload_n 0, 1) := by decide +kernel
theorem dX5_tell_66 : decode cX5_tell 66 = .ok (.getfield 11, 3) := by decide +kernel
theorem dX5_tell_69 : decode cX5_tell 69 = .ok (.iconst 1, 1) := by decide +kernel
theorem dX5_tell_70 : decode cX5_tell 70 = .ok (.iaload, 1) := by decide +kernel
theorem dX5_tell_71 : decode cX5_tell 71 = .ok (.invokevirtual 95, 3) := by decide +kernel
theorem dX5_tell_74 : decode cX5_tell 74 = .ok (.pop, 1) := by decide +kernel
theorem dX5_tell_75 : decode cX5_tell 75 = .ok (.goto 88, 3) := by decide +kernel
theorem dX5_tell_78 : decode cX5_tell 78 = .ok (.aload_n 1, 1) := by decide +kernel
theorem dX5_tell_79 : decode cX5_tell 79 = .ok (.aload_n 0, 1) := by decide +kernel
theorem dX5_tell_80 : decode cX5_tell 80 = .ok (.getfield 11, 3) := by decide +kernel
theorem dX5_tell_83 : decode cX5_tell 83 = .ok (.iconst 0, 1) := by decide +kernel
theorem dX5_tell_84 : decode cX5_tell 84 = .ok (.iaload, 1) := by decide +kernel
theorem dX5_tell_85 : decode cX5_tell 85 = .ok (.invokevirtual 98, 3) := by decide +kernel
theorem dX5_tell_88 : decode cX5_tell 88 = .ok (.ifCond .eq 75, 3) := by decide +kernel
theorem dX5_tell_91 : decode cX5_tell 91 = .ok (.aload_n 1, 1) := by decide +kernel
theorem dX5_tell_92 : decode cX5_tell 92 = .ok (.getfield 101, 3) := by decide +kernel
theorem dX5_tell_95 : decode cX5_tell 95 = .ok (.aload_n 0, 1) := by decide +kernel
theorem dX5_tell_96 : decode cX5_tell 96 = .ok (.getfield 11, 3) := by decide +kernel
theorem dX5_tell_99 : decode cX5_tell 99 = .ok (.iconst 0, 1) := by decide +kernel
theorem dX5_tell_100 : decode cX5_tell 100 = .ok (.iaload, 1) := by decide +kernel
theorem dX5_tell_101 : decode cX5_tell 101 = .ok (.aaload, 1) := by decide +kernel
theorem dX5_tell_102 : decode cX5_tell 102 = .ok (.aload_n 0, 1) := by decide +kernel
theorem dX5_tell_103 : decode cX5_tell 103 = .ok (.getfield 11, 3) := by decide +kernel
theorem dX5_tell_106 : decode cX5_tell 106 = .ok (.iconst 1, 1) := by decide +kernel
theorem dX5_tell_107 : decode cX5_tell 107 = .ok (.iaload, 1) := by decide +kernel
theorem dX5_tell_108 : decode cX5_tell 108 = .ok (.putfield 105, 3) := by decide +kernel
theorem dX5_tell_111 : decode cX5_tell 111 = .ok (.goto 52, 3) := by decide +kernel
theorem dX5_tell_114 : decode cX5_tell 114 = .ok (.aload_n 1, 1) := by decide +kernel
theorem dX5_tell_115 : decode cX5_tell 115 = .ok (.aload_n 0, 1) := by decide +kernel
theorem dX5_tell_116 : decode cX5_tell 116 = .ok (.getfield 11, 3) := by decide +kernel
theorem dX5_tell_119 : decode cX5_tell 119 = .ok (.iconst 0, 1) := by decide +kernel
theorem dX5_tell_120 : decode cX5_tell 120 = .ok (.iaload, 1) := by decide +kernel
theorem dX5_tell_121 : decode cX5_tell 121 = .ok (.invokevirtual 98, 3) := by decide +kernel
theorem dX5_tell_124 : decode cX5_tell 124 = .ok (.ifCond .eq 39, 3) := by decide +kernel
theorem dX5_tell_127 : decode cX5_tell 127 = .ok (.aload_n 1, 1) := by decide +kernel
theorem dX5_tell_128 : decode cX5_tell 128 = .ok (.getfield 101, 3) := by decide +kernel
theorem dX5_tell_131 : decode cX5_tell 131 = .ok (.aload_n 0, 1) := by decide +kernel
theorem dX5_tell_132 : decode cX5_tell 132 = .ok (.getfield 11, 3) := by decide +kernel
theorem dX5_tell_135 : decode cX5_tell 135 = .ok (.iconst 0, 1) := by decide +kernel
theorem dX5_tell_136 : decode cX5_tell 136 = .ok (.iaload, 1) := by decide +kernel
theorem dX5_tell_137 : decode cX5_tell 137 = .ok (.aaload, 1) := by decide +kernel
theorem dX5_tell_138 : decode cX5_tell 138 = .ok (.aload_n 0, 1) := by decide +kernel
theorem dX5_tell_139 : decode cX5_tell 139 = .ok (.getfield 11, 3) := by decide +kernel
theorem dX5_tell_142 : decode cX5_tell 142 = .ok (.iconst 1, 1) := by decide +kernel
theorem dX5_tell_143 : decode cX5_tell 143 = .ok (.iaload, 1) := by decide +kernel
theorem dX5_tell_144 : decode cX5_tell 144 = .ok (.putfield 110, 3) := by decide +kernel
theorem dX5_tell_147 : decode cX5_tell 147 = .ok (.goto 16, 3) := by decide +kernel
theorem dX5_tell_150 : decode cX5_tell 150 = .ok (.aload_n 1, 1) := by decide +kernel
theorem dX5_tell_151 : decode cX5_tell 151 = .ok (.iload_n 2, 1) := by decide +kernel
theorem dX5_tell_152 : decode cX5_tell 152 = .ok (.iconst 4, 1) := by decide +kernel
theorem dX5_tell_153 : decode cX5_tell 153 = .ok (.isub, 1) := by decide +kernel
theorem dX5_tell_154 : decode cX5_tell 154 = .ok (.aload_n 0, 1) := by decide +kernel
theorem dX5_tell_155 : decode cX5_tell 155 = .ok (.getfield 11, 3) := by decide +kernel
theorem dX5_tell_158 : decode cX5_tell 158 = .ok (.iconst 0, 1) := by decide +kernel
theorem dX5_tell_159 : decode cX5_tell 159 = .ok (.iaload, 1) := by decide +kernel
theorem dX5_tell_160 : decode cX5_tell 160 = .ok (.invokevirtual 113, 3) := by decide +kernel
theorem dX5_tell_163 : decode cX5_tell 163 = .ok (.return_, 1) := by decide +kernel
theorem dX5_isDigit_0 : decode cX5_isDigit 0 = .ok (.iload_n 0, 1) := by decide +kernel
theorem dX5_isDigit_1 : decode cX5_isDigit 1 = .ok (.bipush 48, 2) := by decide +kernel
theorem dX5_isDigit_3 : decode cX5_isDigit 3 = .ok (.if_icmp .lt 13, 3) := by decide +kernel
theorem dX5_isDigit_6 : decode cX5_isDigit 6 = .ok (.iload_n 0, 1) := by decide +kernel
theorem dX5_isDigit_7 : decode cX5_isDigit 7 = .ok (.bipush 57, 2) := by decide +kernel
theorem dX5_isDigit_9 : decode cX5_isDigit 9 = .ok (.if_icmp .gt 7, 3) := by decide +kernel
theorem dX5_isDigit_12 : decode cX5_isDigit 12 = .ok (.iconst 1, 1) := by decide +kernel
theorem dX5_isDigit_13 : decode cX5_isDigit 13 = .ok (.goto 4, 3) := by decide +kernel
theorem dX5_isDigit_16 : decode cX5_isDigit 16 = .ok (.iconst 0, 1) := by decide +kernel
theorem dX5_isDigit_17 : decode cX5_isDigit 17 = .ok (.ireturn, 1) := by decide +kernel
theorem dX5_hasRoom_0 : decode cX5_hasRoom 0 = .ok (.iload_n 1, 1) := by decide +kernel
theorem dX5_hasRoom_1 : decode cX5_hasRoom 1 = .ok (.lookupswitch 57 #[(0, 27), (1, 42)], 27) := by decide +kernel
theorem dX5_hasRoom_28 : decode cX5_hasRoom 28 = .ok (.aload_n 0, 1) := by decide +kernel
theorem dX5_hasRoom_29 : decode cX5_hasRoom 29 = .ok (.getfield 117, 3) := by decide +kernel
theorem dX5_hasRoom_32 : decode cX5_hasRoom 32 = .ok (.bipush 8, 2) := by decide +kernel
theorem dX5_hasRoom_34 : decode cX5_hasRoom 34 = .ok (.if_icmp .ge 7, 3) := by decide +kernel
theorem dX5_hasRoom_37 : decode cX5_hasRoom 37 = .ok (.iconst 1, 1) := by decide +kernel
theorem dX5_hasRoom_38 : decode cX5_hasRoom 38 = .ok (.goto 4, 3) := by decide +kernel
theorem dX5_hasRoom_41 : decode cX5_hasRoom 41 = .ok (.iconst 0, 1) := by decide +kernel
theorem dX5_hasRoom_42 : decode cX5_hasRoom 42 = .ok (.ireturn, 1) := by decide +kernel
theorem dX5_hasRoom_43 : decode cX5_hasRoom 43 = .ok (.aload_n 0, 1) := by decide +kernel
theorem dX5_hasRoom_44 : decode cX5_hasRoom 44 = .ok (.getfield 120, 3) := by decide +kernel
theorem dX5_hasRoom_47 : decode cX5_hasRoom 47 = .ok (.bipush 8, 2) := by decide +kernel
theorem dX5_hasRoom_49 : decode cX5_hasRoom 49 = .ok (.if_icmp .ge 7, 3) := by decide +kernel
theorem dX5_hasRoom_52 : decode cX5_hasRoom 52 = .ok (.iconst 1, 1) := by decide +kernel
theorem dX5_hasRoom_53 : decode cX5_hasRoom 53 = .ok (.goto 4, 3) := by decide +kernel
theorem dX5_hasRoom_56 : decode cX5_hasRoom 56 = .ok (.iconst 0, 1) := by decide +kernel
theorem dX5_hasRoom_57 : decode cX5_hasRoom 57 = .ok (.ireturn, 1) := by decide +kernel
theorem dX5_hasRoom_58 : decode cX5_hasRoom 58 = .ok (.iconst 1, 1) := by decide +kernel
theorem dX5_hasRoom_59 : decode cX5_hasRoom 59 = .ok (.ireturn, 1) := by decide +kernel
theorem dX5_wordOf_0 : decode cX5_wordOf 0 = .ok (.iload_n 0, 1) := by decide +kernel
theorem dX5_wordOf_1 : decode cX5_wordOf 1 = .ok (.tableswitch 64 0 6 #[43, 46, 49, 52, 55, 58, 61], 43) := by decide +kernel
theorem dX5_wordOf_44 : decode cX5_wordOf 44 = .ok (.ldc 123, 2) := by decide +kernel
theorem dX5_wordOf_46 : decode cX5_wordOf 46 = .ok (.areturn, 1) := by decide +kernel
theorem dX5_wordOf_47 : decode cX5_wordOf 47 = .ok (.ldc 125, 2) := by decide +kernel
theorem dX5_wordOf_49 : decode cX5_wordOf 49 = .ok (.areturn, 1) := by decide +kernel
theorem dX5_wordOf_50 : decode cX5_wordOf 50 = .ok (.ldc 126, 2) := by decide +kernel
theorem dX5_wordOf_52 : decode cX5_wordOf 52 = .ok (.areturn, 1) := by decide +kernel
theorem dX5_wordOf_53 : decode cX5_wordOf 53 = .ok (.ldc 128, 2) := by decide +kernel
theorem dX5_wordOf_55 : decode cX5_wordOf 55 = .ok (.areturn, 1) := by decide +kernel
theorem dX5_wordOf_56 : decode cX5_wordOf 56 = .ok (.ldc 129, 2) := by decide +kernel
theorem dX5_wordOf_58 : decode cX5_wordOf 58 = .ok (.areturn, 1) := by decide +kernel
theorem dX5_wordOf_59 : decode cX5_wordOf 59 = .ok (.ldc 131, 2) := by decide +kernel
theorem dX5_wordOf_61 : decode cX5_wordOf 61 = .ok (.areturn, 1) := by decide +kernel
theorem dX5_wordOf_62 : decode cX5_wordOf 62 = .ok (.ldc 133, 2) := by decide +kernel
theorem dX5_wordOf_64 : decode cX5_wordOf 64 = .ok (.areturn, 1) := by decide +kernel
theorem dX5_wordOf_65 : decode cX5_wordOf 65 = .ok (.ldc 135, 2) := by decide +kernel
theorem dX5_wordOf_67 : decode cX5_wordOf 67 = .ok (.areturn, 1) := by decide +kernel
theorem dX5_numbersOf_0 : decode cX5_numbersOf 0 = .ok (.iload_n 0, 1) := by decide +kernel
theorem dX5_numbersOf_1 : decode cX5_numbersOf 1 = .ok (.tableswitch 35 0 3 #[31, 33, 33, 33], 31) := by decide +kernel
theorem dX5_numbersOf_32 : decode cX5_numbersOf 32 = .ok (.iconst 3, 1) := by decide +kernel
theorem dX5_numbersOf_33 : decode cX5_numbersOf 33 = .ok (.ireturn, 1) := by decide +kernel
theorem dX5_numbersOf_34 : decode cX5_numbersOf 34 = .ok (.iconst 2, 1) := by decide +kernel
theorem dX5_numbersOf_35 : decode cX5_numbersOf 35 = .ok (.ireturn, 1) := by decide +kernel
theorem dX5_numbersOf_36 : decode cX5_numbersOf 36 = .ok (.iconst 1, 1) := by decide +kernel
theorem dX5_numbersOf_37 : decode cX5_numbersOf 37 = .ok (.ireturn, 1) := by decide +kernel
theorem dX5_leastOf_0 : decode cX5_leastOf 0 = .ok (.iload_n 0, 1) := by decide +kernel
theorem dX5_leastOf_1 : decode cX5_leastOf 1 = .ok (.tableswitch 54 0 3 #[31, 42, 52, 52], 31) := by decide +kernel
theorem dX5_leastOf_32 : decode cX5_leastOf 32 = .ok (.iload_n 1, 1) := by decide +kernel
theorem dX5_leastOf_33 : decode cX5_leastOf 33 = .ok (.iconst 2, 1) := by decide +kernel
theorem dX5_leastOf_34 : decode cX5_leastOf 34 = .ok (.if_icmp .ne 7, 3) := by decide +kernel
theorem dX5_leastOf_37 : decode cX5_leastOf 37 = .ok (.iconst 1, 1) := by decide +kernel
theorem dX5_leastOf_38 : decode cX5_leastOf 38 = .ok (.goto 4, 3) := by decide +kernel
theorem dX5_leastOf_41 : decode cX5_leastOf 41 = .ok (.iconst 0, 1) := by decide +kernel
theorem dX5_leastOf_42 : decode cX5_leastOf 42 = .ok (.ireturn, 1) := by decide +kernel
theorem dX5_leastOf_43 : decode cX5_leastOf 43 = .ok (.iload_n 1, 1) := by decide +kernel
theorem dX5_leastOf_44 : decode cX5_leastOf 44 = .ok (.ifCond .ne 7, 3) := by decide +kernel
theorem dX5_leastOf_47 : decode cX5_leastOf 47 = .ok (.iconst 1, 1) := by decide +kernel
theorem dX5_leastOf_48 : decode cX5_leastOf 48 = .ok (.goto 4, 3) := by decide +kernel
theorem dX5_leastOf_51 : decode cX5_leastOf 51 = .ok (.iconst 0, 1) := by decide +kernel
theorem dX5_leastOf_52 : decode cX5_leastOf 52 = .ok (.ireturn, 1) := by decide +kernel
theorem dX5_leastOf_53 : decode cX5_leastOf 53 = .ok (.iconst 0, 1) := by decide +kernel
theorem dX5_leastOf_54 : decode cX5_leastOf 54 = .ok (.ireturn, 1) := by decide +kernel
theorem dX5_leastOf_55 : decode cX5_leastOf 55 = .ok (.iload_n 0, 1) := by decide +kernel
theorem dX5_leastOf_56 : decode cX5_leastOf 56 = .ok (.iconst 4, 1) := by decide +kernel
theorem dX5_leastOf_57 : decode cX5_leastOf 57 = .ok (.isub, 1) := by decide +kernel
theorem dX5_leastOf_58 : decode cX5_leastOf 58 = .ok (.invokestatic 137, 3) := by decide +kernel
theorem dX5_leastOf_61 : decode cX5_leastOf 61 = .ok (.ifCond .eq 13, 3) := by decide +kernel
theorem dX5_leastOf_64 : decode cX5_leastOf 64 = .ok (.getstatic 140, 3) := by decide +kernel
theorem dX5_leastOf_67 : decode cX5_leastOf 67 = .ok (.iload_n 0, 1) := by decide +kernel
theorem dX5_leastOf_68 : decode cX5_leastOf 68 = .ok (.iconst 4, 1) := by decide +kernel
theorem dX5_leastOf_69 : decode cX5_leastOf 69 = .ok (.isub, 1) := by decide +kernel
theorem dX5_leastOf_70 : decode cX5_leastOf 70 = .ok (.iaload, 1) := by decide +kernel
theorem dX5_leastOf_71 : decode cX5_leastOf 71 = .ok (.goto 4, 3) := by decide +kernel
theorem dX5_leastOf_74 : decode cX5_leastOf 74 = .ok (.iconst 0, 1) := by decide +kernel
theorem dX5_leastOf_75 : decode cX5_leastOf 75 = .ok (.ireturn, 1) := by decide +kernel
theorem dX5_mostOf_0 : decode cX5_mostOf 0 = .ok (.iload_n 1, 1) := by decide +kernel
theorem dX5_mostOf_1 : decode cX5_mostOf 1 = .ok (.tableswitch 82 0 3 #[31, 43, 46, 66], 31) := by decide +kernel
theorem dX5_mostOf_32 : decode cX5_mostOf 32 = .ok (.iload_n 2, 1) := by decide +kernel
theorem dX5_mostOf_33 : decode cX5_mostOf 33 = .ok (.ifCond .ne 8, 3) := by decide +kernel
theorem dX5_mostOf_36 : decode cX5_mostOf 36 = .ok (.bipush 6, 2) := by decide +kernel
theorem dX5_mostOf_38 : decode cX5_mostOf 38 = .ok (.goto 5, 3) := by decide +kernel
theorem dX5_mostOf_41 : decode cX5_mostOf 41 = .ok (.bipush 9, 2) := by decide +kernel
theorem dX5_mostOf_43 : decode cX5_mostOf 43 = .ok (.ireturn, 1) := by decide +kernel
theorem dX5_mostOf_44 : decode cX5_mostOf 44 = .ok (.bipush 9, 2) := by decide +kernel
theorem dX5_mostOf_46 : decode cX5_mostOf 46 = .ok (.ireturn, 1) := by decide +kernel
theorem dX5_mostOf_47 : decode cX5_mostOf 47 = .ok (.iload_n 2, 1) := by decide +kernel
theorem dX5_mostOf_48 : decode cX5_mostOf 48 = .ok (.ifCond .ne 12, 3) := by decide +kernel
theorem dX5_mostOf_51 : decode cX5_mostOf 51 = .ok (.aload_n 0, 1) := by decide +kernel
theorem dX5_mostOf_52 : decode cX5_mostOf 52 = .ok (.getfield 117, 3) := by decide +kernel
theorem dX5_mostOf_55 : decode cX5_mostOf 55 = .ok (.iconst 1, 1) := by decide +kernel
theorem dX5_mostOf_56 : decode cX5_mostOf 56 = .ok (.isub, 1) := by decide +kernel
theorem dX5_mostOf_57 : decode cX5_mostOf 57 = .ok (.goto 9, 3) := by decide +kernel
theorem dX5_mostOf_60 : decode cX5_mostOf 60 = .ok (.aload_n 0, 1) := by decide +kernel
theorem dX5_mostOf_61 : decode cX5_mostOf 61 = .ok (.getfield 120, 3) := by decide +kernel
theorem dX5_mostOf_64 : decode cX5_mostOf 64 = .ok (.iconst 1, 1) := by decide +kernel
theorem dX5_mostOf_65 : decode cX5_mostOf 65 = .ok (.isub, 1) := by decide +kernel
theorem dX5_mostOf_66 : decode cX5_mostOf 66 = .ok (.ireturn, 1) := by decide +kernel
theorem dX5_mostOf_67 : decode cX5_mostOf 67 = .ok (.iload_n 2, 1) := by decide +kernel
theorem dX5_mostOf_68 : decode cX5_mostOf 68 = .ok (.ifCond .ne 12, 3) := by decide +kernel
theorem dX5_mostOf_71 : decode cX5_mostOf 71 = .ok (.aload_n 0, 1) := by decide +kernel
theorem dX5_mostOf_72 : decode cX5_mostOf 72 = .ok (.getfield 117, 3) := by decide +kernel
theorem dX5_mostOf_75 : decode cX5_mostOf 75 = .ok (.iconst 1, 1) := by decide +kernel
theorem dX5_mostOf_76 : decode cX5_mostOf 76 = .ok (.isub, 1) := by decide +kernel
theorem dX5_mostOf_77 : decode cX5_mostOf 77 = .ok (.goto 5, 3) := by decide +kernel
theorem dX5_mostOf_80 : decode cX5_mostOf 80 = .ok (.bipush 99, 2) := by decide +kernel
theorem dX5_mostOf_82 : decode cX5_mostOf 82 = .ok (.ireturn, 1) := by decide +kernel
theorem dX5_mostOf_83 : decode cX5_mostOf 83 = .ok (.iload_n 1, 1) := by decide +kernel
theorem dX5_mostOf_84 : decode cX5_mostOf 84 = .ok (.iconst 4, 1) := by decide +kernel
theorem dX5_mostOf_85 : decode cX5_mostOf 85 = .ok (.isub, 1) := by decide +kernel
theorem dX5_mostOf_86 : decode cX5_mostOf 86 = .ok (.invokestatic 137, 3) := by decide +kernel
theorem dX5_mostOf_89 : decode cX5_mostOf 89 = .ok (.ifCond .eq 13, 3) := by decide +kernel
theorem dX5_mostOf_92 : decode cX5_mostOf 92 = .ok (.getstatic 143, 3) := by decide +kernel
theorem dX5_mostOf_95 : decode cX5_mostOf 95 = .ok (.iload_n 1, 1) := by decide +kernel
theorem dX5_mostOf_96 : decode cX5_mostOf 96 = .ok (.iconst 4, 1) := by decide +kernel
theorem dX5_mostOf_97 : decode cX5_mostOf 97 = .ok (.isub, 1) := by decide +kernel
theorem dX5_mostOf_98 : decode cX5_mostOf 98 = .ok (.iaload, 1) := by decide +kernel
theorem dX5_mostOf_99 : decode cX5_mostOf 99 = .ok (.goto 4, 3) := by decide +kernel
theorem dX5_mostOf_102 : decode cX5_mostOf 102 = .ok (.iconst 0, 1) := by decide +kernel
theorem dX5_mostOf_103 : decode cX5_mostOf 103 = .ok (.ireturn, 1) := by decide +kernel
theorem dX6_init_0 : decode cX6_init 0 = .ok (.aload_n 0, 1) := by decide +kernel
theorem dX6_init_1 : decode cX6_init 1 = .ok (.invokespecial 1, 3) := by decide +kernel
theorem dX6_init_4 : decode cX6_init 4 = .ok (.return_, 1) := by decide +kernel
theorem dX7_init_0 : decode cX7_init 0 = .ok (.aload_n 0, 1) := by decide +kernel
theorem dX7_init_1 : decode cX7_init 1 = .ok (.invokespecial 3, 3) := by decide +kernel
theorem dX7_init_4 : decode cX7_init 4 = .ok (.aload_n 0, 1) := by decide +kernel
theorem dX7_init_5 : decode cX7_init 5 = .ok (.iconst (-1), 1) := by decide +kernel
theorem dX7_init_6 : decode cX7_init 6 = .ok (.putfield 9, 3) := by decide +kernel
theorem dX7_init_9 : decode cX7_init 9 = .ok (.aload_n 0, 1) := by decide +kernel
theorem dX7_init_10 : decode cX7_init 10 = .ok (.sipush 160, 3) := by decide +kernel
theorem dX7_init_13 : decode cX7_init 13 = .ok (.newarray .long, 2) := by decide +kernel
theorem dX7_init_15 : decode cX7_init 15 = .ok (.putfield 15, 3) := by decide +kernel
theorem dX7_init_18 : decode cX7_init 18 = .ok (.return_, 1) := by decide +kernel
theorem dX7_hasRow_0 : decode cX7_hasRow 0 = .ok (.aload_n 0, 1) := by decide +kernel
theorem dX7_hasRow_1 : decode cX7_hasRow 1 = .ok (.getfield 9, 3) := by decide +kernel
theorem dX7_hasRow_4 : decode cX7_hasRow 4 = .ok (.bipush 100, 2) := by decide +kernel
theorem dX7_hasRow_6 : decode cX7_hasRow 6 = .ok (.if_icmp .lt 7, 3) := by decide +kernel
theorem dX7_hasRow_9 : decode cX7_hasRow 9 = .ok (.iconst 1, 1) := by decide +kernel
theorem dX7_hasRow_10 : decode cX7_hasRow 10 = .ok (.goto 4, 3) := by decide +kernel
theorem dX7_hasRow_13 : decode cX7_hasRow 13 = .ok (.iconst 0, 1) := by decide +kernel
theorem dX7_hasRow_14 : decode cX7_hasRow 14 = .ok (.ireturn, 1) := by decide +kernel
theorem dX7_hasChild_0 : decode cX7_hasChild 0 = .ok (.aload_n 0, 1) := by decide +kernel
theorem dX7_hasChild_1 : decode cX7_hasChild 1 = .ok (.getfield 9, 3) := by decide +kernel
theorem dX7_hasChild_4 : decode cX7_hasChild 4 = .ok (.ifCond .lt 16, 3) := by decide +kernel
theorem dX7_hasChild_7 : decode cX7_hasChild 7 = .ok (.aload_n 0, 1) := by decide +kernel
theorem dX7_hasChild_8 : decode cX7_hasChild 8 = .ok (.getfield 9, 3) := by decide +kernel
theorem dX7_hasChild_11 : decode cX7_hasChild 11 = .ok (.bipush 100, 2) := by decide +kernel
theorem dX7_hasChild_13 : decode cX7_hasChild 13 = .ok (.if_icmp .ge 7, 3) := by decide +kernel
theorem dX7_hasChild_16 : decode cX7_hasChild 16 = .ok (.iconst 1, 1) := by decide +kernel
theorem dX7_hasChild_17 : decode cX7_hasChild 17 = .ok (.goto 4, 3) := by decide +kernel
theorem dX7_hasChild_20 : decode cX7_hasChild 20 = .ok (.iconst 0, 1) := by decide +kernel
theorem dX7_hasChild_21 : decode cX7_hasChild 21 = .ok (.ireturn, 1) := by decide +kernel
theorem dX7_has_0 : decode cX7_has 0 = .ok (.iload_n 1, 1) := by decide +kernel
theorem dX7_has_1 : decode cX7_has 1 = .ok (.ifCond .lt 15, 3) := by decide +kernel
theorem dX7_has_4 : decode cX7_has 4 = .ok (.iload_n 1, 1) := by decide +kernel
theorem dX7_has_5 : decode cX7_has 5 = .ok (.aload_n 0, 1) := by decide +kernel
theorem dX7_has_6 : decode cX7_has 6 = .ok (.getfield 19, 3) := by decide +kernel
theorem dX7_has_9 : decode cX7_has 9 = .ok (.if_icmp .ge 7, 3) := by decide +kernel
theorem dX7_has_12 : decode cX7_has 12 = .ok (.iconst 1, 1) := by decide +kernel
theorem dX7_has_13 : decode cX7_has 13 = .ok (.goto 4, 3) := by decide +kernel
theorem dX7_has_16 : decode cX7_has 16 = .ok (.iconst 0, 1) := by decide +kernel
theorem dX7_has_17 : decode cX7_has 17 = .ok (.ireturn, 1) := by decide +kernel
