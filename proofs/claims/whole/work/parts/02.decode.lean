theorem dX0_init_0 : decode cX0_init 0 = .ok (.aload_n 0, 1) := by decide +kernel
theorem dX0_init_1 : decode cX0_init 1 = .ok (.invokespecial 3, 3) := by decide +kernel
theorem dX0_init_4 : decode cX0_init 4 = .ok (.aload_n 0, 1) := by decide +kernel
theorem dX0_init_5 : decode cX0_init 5 = .ok (.sipush 720, 3) := by decide +kernel
theorem dX0_init_8 : decode cX0_init 8 = .ok (.newarray .int, 2) := by decide +kernel
theorem dX0_init_10 : decode cX0_init 10 = .ok (.putfield 9, 3) := by decide +kernel
theorem dX0_init_13 : decode cX0_init 13 = .ok (.aload_n 0, 1) := by decide +kernel
theorem dX0_init_14 : decode cX0_init 14 = .ok (.sipush 1200, 3) := by decide +kernel
theorem dX0_init_17 : decode cX0_init 17 = .ok (.newarray .int, 2) := by decide +kernel
theorem dX0_init_19 : decode cX0_init 19 = .ok (.putfield 13, 3) := by decide +kernel
theorem dX0_init_22 : decode cX0_init 22 = .ok (.aload_n 0, 1) := by decide +kernel
theorem dX0_init_23 : decode cX0_init 23 = .ok (.sipush 1200, 3) := by decide +kernel
theorem dX0_init_26 : decode cX0_init 26 = .ok (.newarray .int, 2) := by decide +kernel
theorem dX0_init_28 : decode cX0_init 28 = .ok (.putfield 16, 3) := by decide +kernel
theorem dX0_init_31 : decode cX0_init 31 = .ok (.aload_n 0, 1) := by decide +kernel
theorem dX0_init_32 : decode cX0_init 32 = .ok (.sipush 200, 3) := by decide +kernel
theorem dX0_init_35 : decode cX0_init 35 = .ok (.newarray .boolean, 2) := by decide +kernel
theorem dX0_init_37 : decode cX0_init 37 = .ok (.putfield 19, 3) := by decide +kernel
theorem dX0_init_40 : decode cX0_init 40 = .ok (.aload_n 0, 1) := by decide +kernel
theorem dX0_init_41 : decode cX0_init 41 = .ok (.sipush 200, 3) := by decide +kernel
theorem dX0_init_44 : decode cX0_init 44 = .ok (.newarray .int, 2) := by decide +kernel
theorem dX0_init_46 : decode cX0_init 46 = .ok (.putfield 23, 3) := by decide +kernel
theorem dX0_init_49 : decode cX0_init 49 = .ok (.aload_n 0, 1) := by decide +kernel
theorem dX0_init_50 : decode cX0_init 50 = .ok (.bipush 11, 2) := by decide +kernel
theorem dX0_init_52 : decode cX0_init 52 = .ok (.newarray .int, 2) := by decide +kernel
theorem dX0_init_54 : decode cX0_init 54 = .ok (.putfield 26, 3) := by decide +kernel
theorem dX0_init_57 : decode cX0_init 57 = .ok (.aload_n 0, 1) := by decide +kernel
theorem dX0_init_58 : decode cX0_init 58 = .ok (.bipush 36, 2) := by decide +kernel
theorem dX0_init_60 : decode cX0_init 60 = .ok (.newarray .int, 2) := by decide +kernel
theorem dX0_init_62 : decode cX0_init 62 = .ok (.putfield 29, 3) := by decide +kernel
theorem dX0_init_65 : decode cX0_init 65 = .ok (.aload_n 0, 1) := by decide +kernel
theorem dX0_init_66 : decode cX0_init 66 = .ok (.bipush 36, 2) := by decide +kernel
theorem dX0_init_68 : decode cX0_init 68 = .ok (.newarray .int, 2) := by decide +kernel
theorem dX0_init_70 : decode cX0_init 70 = .ok (.putfield 32, 3) := by decide +kernel
theorem dX0_init_73 : decode cX0_init 73 = .ok (.aload_n 0, 1) := by decide +kernel
theorem dX0_init_74 : decode cX0_init 74 = .ok (.bipush 36, 2) := by decide +kernel
theorem dX0_init_76 : decode cX0_init 76 = .ok (.newarray .int, 2) := by decide +kernel
theorem dX0_init_78 : decode cX0_init 78 = .ok (.putfield 35, 3) := by decide +kernel
theorem dX0_init_81 : decode cX0_init 81 = .ok (.aload_n 0, 1) := by decide +kernel
theorem dX0_init_82 : decode cX0_init 82 = .ok (.bipush 36, 2) := by decide +kernel
theorem dX0_init_84 : decode cX0_init 84 = .ok (.newarray .int, 2) := by decide +kernel
theorem dX0_init_86 : decode cX0_init 86 = .ok (.putfield 38, 3) := by decide +kernel
theorem dX0_init_89 : decode cX0_init 89 = .ok (.aload_n 0, 1) := by decide +kernel
theorem dX0_init_90 : decode cX0_init 90 = .ok (.bipush 36, 2) := by decide +kernel
theorem dX0_init_92 : decode cX0_init 92 = .ok (.newarray .boolean, 2) := by decide +kernel
theorem dX0_init_94 : decode cX0_init 94 = .ok (.putfield 41, 3) := by decide +kernel
theorem dX0_init_97 : decode cX0_init 97 = .ok (.aload_n 0, 1) := by decide +kernel
theorem dX0_init_98 : decode cX0_init 98 = .ok (.iconst 1, 1) := by decide +kernel
theorem dX0_init_99 : decode cX0_init 99 = .ok (.invokevirtual 44, 3) := by decide +kernel
theorem dX0_init_102 : decode cX0_init 102 = .ok (.return_, 1) := by decide +kernel
theorem dX0_clearTo_0 : decode cX0_clearTo 0 = .ok (.aload_n 0, 1) := by decide +kernel
theorem dX0_clearTo_1 : decode cX0_clearTo 1 = .ok (.iload_n 1, 1) := by decide +kernel
theorem dX0_clearTo_2 : decode cX0_clearTo 2 = .ok (.putfield 124, 3) := by decide +kernel
theorem dX0_clearTo_5 : decode cX0_clearTo 5 = .ok (.aload_n 0, 1) := by decide +kernel
theorem dX0_clearTo_6 : decode cX0_clearTo 6 = .ok (.iconst 0, 1) := by decide +kernel
theorem dX0_clearTo_7 : decode cX0_clearTo 7 = .ok (.putfield 70, 3) := by decide +kernel
theorem dX0_clearTo_10 : decode cX0_clearTo 10 = .ok (.aload_n 0, 1) := by decide +kernel
theorem dX0_clearTo_11 : decode cX0_clearTo 11 = .ok (.iconst 0, 1) := by decide +kernel
theorem dX0_clearTo_12 : decode cX0_clearTo 12 = .ok (.putfield 55, 3) := by decide +kernel
theorem dX0_clearTo_15 : decode cX0_clearTo 15 = .ok (.aload_n 0, 1) := by decide +kernel
theorem dX0_clearTo_16 : decode cX0_clearTo 16 = .ok (.iconst 0, 1) := by decide +kernel
theorem dX0_clearTo_17 : decode cX0_clearTo 17 = .ok (.putfield 112, 3) := by decide +kernel
theorem dX0_clearTo_20 : decode cX0_clearTo 20 = .ok (.aload_n 0, 1) := by decide +kernel
theorem dX0_clearTo_21 : decode cX0_clearTo 21 = .ok (.iconst 0, 1) := by decide +kernel
theorem dX0_clearTo_22 : decode cX0_clearTo 22 = .ok (.putfield 129, 3) := by decide +kernel
theorem dX0_clearTo_25 : decode cX0_clearTo 25 = .ok (.aload_n 0, 1) := by decide +kernel
theorem dX0_clearTo_26 : decode cX0_clearTo 26 = .ok (.iconst 0, 1) := by decide +kernel
theorem dX0_clearTo_27 : decode cX0_clearTo 27 = .ok (.putfield 64, 3) := by decide +kernel
theorem dX0_clearTo_30 : decode cX0_clearTo 30 = .ok (.aload_n 0, 1) := by decide +kernel
theorem dX0_clearTo_31 : decode cX0_clearTo 31 = .ok (.iconst 0, 1) := by decide +kernel
theorem dX0_clearTo_32 : decode cX0_clearTo 32 = .ok (.putfield 98, 3) := by decide +kernel
theorem dX0_clearTo_35 : decode cX0_clearTo 35 = .ok (.aload_n 0, 1) := by decide +kernel
theorem dX0_clearTo_36 : decode cX0_clearTo 36 = .ok (.iconst 0, 1) := by decide +kernel
theorem dX0_clearTo_37 : decode cX0_clearTo 37 = .ok (.putfield 115, 3) := by decide +kernel
theorem dX0_clearTo_40 : decode cX0_clearTo 40 = .ok (.aload_n 0, 1) := by decide +kernel
theorem dX0_clearTo_41 : decode cX0_clearTo 41 = .ok (.iconst 0, 1) := by decide +kernel
theorem dX0_clearTo_42 : decode cX0_clearTo 42 = .ok (.putfield 132, 3) := by decide +kernel
theorem dX0_clearTo_45 : decode cX0_clearTo 45 = .ok (.aload_n 0, 1) := by decide +kernel
theorem dX0_clearTo_46 : decode cX0_clearTo 46 = .ok (.getfield 26, 3) := by decide +kernel
theorem dX0_clearTo_49 : decode cX0_clearTo 49 = .ok (.iconst (-1), 1) := by decide +kernel
theorem dX0_clearTo_50 : decode cX0_clearTo 50 = .ok (.invokestatic 135, 3) := by decide +kernel
theorem dX0_clearTo_53 : decode cX0_clearTo 53 = .ok (.aload_n 0, 1) := by decide +kernel
theorem dX0_clearTo_54 : decode cX0_clearTo 54 = .ok (.getfield 29, 3) := by decide +kernel
theorem dX0_clearTo_57 : decode cX0_clearTo 57 = .ok (.iconst 0, 1) := by decide +kernel
theorem dX0_clearTo_58 : decode cX0_clearTo 58 = .ok (.invokestatic 135, 3) := by decide +kernel
theorem dX0_clearTo_61 : decode cX0_clearTo 61 = .ok (.aload_n 0, 1) := by decide +kernel
theorem dX0_clearTo_62 : decode cX0_clearTo 62 = .ok (.getfield 32, 3) := by decide +kernel
theorem dX0_clearTo_65 : decode cX0_clearTo 65 = .ok (.iconst 0, 1) := by decide +kernel
theorem dX0_clearTo_66 : decode cX0_clearTo 66 = .ok (.invokestatic 135, 3) := by decide +kernel
theorem dX0_clearTo_69 : decode cX0_clearTo 69 = .ok (.aload_n 0, 1) := by decide +kernel
theorem dX0_clearTo_70 : decode cX0_clearTo 70 = .ok (.getfield 35, 3) := by decide +kernel
theorem dX0_clearTo_73 : decode cX0_clearTo 73 = .ok (.iconst 0, 1) := by decide +kernel
theorem dX0_clearTo_74 : decode cX0_clearTo 74 = .ok (.invokestatic 135, 3) := by decide +kernel
theorem dX0_clearTo_77 : decode cX0_clearTo 77 = .ok (.aload_n 0, 1) := by decide +kernel
theorem dX0_clearTo_78 : decode cX0_clearTo 78 = .ok (.getfield 38, 3) := by decide +kernel
theorem dX0_clearTo_81 : decode cX0_clearTo 81 = .ok (.iconst 0, 1) := by decide +kernel
theorem dX0_clearTo_82 : decode cX0_clearTo 82 = .ok (.invokestatic 135, 3) := by decide +kernel
theorem dX0_clearTo_85 : decode cX0_clearTo 85 = .ok (.iconst 0, 1) := by decide +kernel
theorem dX0_clearTo_86 : decode cX0_clearTo 86 = .ok (.istore_n 2, 1) := by decide +kernel
theorem dX0_clearTo_87 : decode cX0_clearTo 87 = .ok (.iload_n 2, 1) := by decide +kernel
theorem dX0_clearTo_88 : decode cX0_clearTo 88 = .ok (.bipush 36, 2) := by decide +kernel
theorem dX0_clearTo_90 : decode cX0_clearTo 90 = .ok (.if_icmp .ge 16, 3) := by decide +kernel
theorem dX0_clearTo_93 : decode cX0_clearTo 93 = .ok (.aload_n 0, 1) := by decide +kernel
theorem dX0_clearTo_94 : decode cX0_clearTo 94 = .ok (.getfield 41, 3) := by decide +kernel
theorem dX0_clearTo_97 : decode cX0_clearTo 97 = .ok (.iload_n 2, 1) := by decide +kernel
theorem dX0_clearTo_98 : decode cX0_clearTo 98 = .ok (.iconst 0, 1) := by decide +kernel
theorem dX0_clearTo_99 : decode cX0_clearTo 99 = .ok (.bastore, 1) := by decide +kernel
theorem dX0_clearTo_100 : decode cX0_clearTo 100 = .ok (.iinc 2 1, 3) := by decide +kernel
theorem dX0_clearTo_103 : decode cX0_clearTo 103 = .ok (.goto (-16), 3) := by decide +kernel
theorem dX0_clearTo_106 : decode cX0_clearTo 106 = .ok (.return_, 1) := by decide +kernel
theorem dJ_fill_0 : decode cJ_fill 0 = .ok (.iconst 0, 1) := by decide +kernel
theorem dJ_fill_1 : decode cJ_fill 1 = .ok (.istore_n 2, 1) := by decide +kernel
theorem dJ_fill_2 : decode cJ_fill 2 = .ok (.aload_n 0, 1) := by decide +kernel
theorem dJ_fill_3 : decode cJ_fill 3 = .ok (.arraylength, 1) := by decide +kernel
theorem dJ_fill_4 : decode cJ_fill 4 = .ok (.istore_n 3, 1) := by decide +kernel
theorem dJ_fill_5 : decode cJ_fill 5 = .ok (.iload_n 2, 1) := by decide +kernel
theorem dJ_fill_6 : decode cJ_fill 6 = .ok (.iload_n 3, 1) := by decide +kernel
theorem dJ_fill_7 : decode cJ_fill 7 = .ok (.if_icmp .ge 13, 3) := by decide +kernel
theorem dJ_fill_10 : decode cJ_fill 10 = .ok (.aload_n 0, 1) := by decide +kernel
theorem dJ_fill_11 : decode cJ_fill 11 = .ok (.iload_n 2, 1) := by decide +kernel
theorem dJ_fill_12 : decode cJ_fill 12 = .ok (.iload_n 1, 1) := by decide +kernel
theorem dJ_fill_13 : decode cJ_fill 13 = .ok (.iastore, 1) := by decide +kernel
theorem dJ_fill_14 : decode cJ_fill 14 = .ok (.iinc 2 1, 3) := by decide +kernel
theorem dJ_fill_17 : decode cJ_fill 17 = .ok (.goto (-12), 3) := by decide +kernel
theorem dJ_fill_20 : decode cJ_fill 20 = .ok (.return_, 1) := by decide +kernel
theorem dL_begin_0 : decode cL_begin 0 = .ok (.aload_n 0, 1) := by decide +kernel
theorem dL_begin_1 : decode cL_begin 1 = .ok (.iload_n 1, 1) := by decide +kernel
theorem dL_begin_2 : decode cL_begin 2 = .ok (.invokevirtual 7, 3) := by decide +kernel
theorem dL_begin_5 : decode cL_begin 5 = .ok (.goto 6, 3) := by decide +kernel
theorem dL_begin_8 : decode cL_begin 8 = .ok (.astore_n 2, 1) := by decide +kernel
theorem dL_begin_9 : decode cL_begin 9 = .ok (.iconst 1, 1) := by decide +kernel
theorem dL_begin_10 : decode cL_begin 10 = .ok (.ireturn, 1) := by decide +kernel
theorem dL_begin_11 : decode cL_begin 11 = .ok (.iconst 0, 1) := by decide +kernel
theorem dL_begin_12 : decode cL_begin 12 = .ok (.ireturn, 1) := by decide +kernel
theorem dX0_begin_0 : decode cX0_begin 0 = .ok (.iload_n 1, 1) := by decide +kernel
theorem dX0_begin_1 : decode cX0_begin 1 = .ok (.iconst 1, 1) := by decide +kernel
theorem dX0_begin_2 : decode cX0_begin 2 = .ok (.if_icmp .lt 9, 3) := by decide +kernel
theorem dX0_begin_5 : decode cX0_begin 5 = .ok (.iload_n 1, 1) := by decide +kernel
theorem dX0_begin_6 : decode cX0_begin 6 = .ok (.bipush 6, 2) := by decide +kernel
theorem dX0_begin_8 : decode cX0_begin 8 = .ok (.if_icmp .le 13, 3) := by decide +kernel
theorem dX0_begin_11 : decode cX0_begin 11 = .ok (.new 48, 3) := by decide +kernel
theorem dX0_begin_14 : decode cX0_begin 14 = .ok (.dup, 1) := by decide +kernel
theorem dX0_begin_15 : decode cX0_begin 15 = .ok (.ldc 50, 2) := by decide +kernel
theorem dX0_begin_17 : decode cX0_begin 17 = .ok (.invokespecial 52, 3) := by decide +kernel
theorem dX0_begin_20 : decode cX0_begin 20 = .ok (.athrow, 1) := by decide +kernel
theorem dX0_begin_21 : decode cX0_begin 21 = .ok (.aload_n 0, 1) := by decide +kernel
theorem dX0_begin_22 : decode cX0_begin 22 = .ok (.iload_n 1, 1) := by decide +kernel
theorem dX0_begin_23 : decode cX0_begin 23 = .ok (.invokevirtual 44, 3) := by decide +kernel
theorem dX0_begin_26 : decode cX0_begin 26 = .ok (.return_, 1) := by decide +kernel
theorem dL_weights_0 : decode cL_weights 0 = .ok (.aload 7, 2) := by decide +kernel
theorem dL_weights_2 : decode cL_weights 2 = .ok (.iconst 0, 1) := by decide +kernel
theorem dL_weights_3 : decode cL_weights 3 = .ok (.aload_n 0, 1) := by decide +kernel
theorem dL_weights_4 : decode cL_weights 4 = .ok (.iload_n 1, 1) := by decide +kernel
theorem dL_weights_5 : decode cL_weights 5 = .ok (.iload_n 2, 1) := by decide +kernel
theorem dL_weights_6 : decode cL_weights 6 = .ok (.iload_n 3, 1) := by decide +kernel
theorem dL_weights_7 : decode cL_weights 7 = .ok (.iload 4, 2) := by decide +kernel
theorem dL_weights_9 : decode cL_weights 9 = .ok (.iload 5, 2) := by decide +kernel
theorem dL_weights_11 : decode cL_weights 11 = .ok (.iload 6, 2) := by decide +kernel
theorem dL_weights_13 : decode cL_weights 13 = .ok (.invokevirtual 15, 3) := by decide +kernel
theorem dL_weights_16 : decode cL_weights 16 = .ok (.i2l, 1) := by decide +kernel
theorem dL_weights_17 : decode cL_weights 17 = .ok (.lastore, 1) := by decide +kernel
theorem dL_weights_18 : decode cL_weights 18 = .ok (.goto 7, 3) := by decide +kernel
theorem dL_weights_21 : decode cL_weights 21 = .ok (.astore 8, 2) := by decide +kernel
theorem dL_weights_23 : decode cL_weights 23 = .ok (.iconst 1, 1) := by decide +kernel
theorem dL_weights_24 : decode cL_weights 24 = .ok (.ireturn, 1) := by decide +kernel
theorem dL_weights_25 : decode cL_weights 25 = .ok (.iconst 0, 1) := by decide +kernel
theorem dL_weights_26 : decode cL_weights 26 = .ok (.ireturn, 1) := by decide +kernel
theorem dX0_weights_0 : decode cX0_weights 0 = .ok (.aload_n 0, 1) := by decide +kernel
theorem dX0_weights_1 : decode cX0_weights 1 = .ok (.getfield 55, 3) := by decide +kernel
theorem dX0_weights_4 : decode cX0_weights 4 = .ok (.bipush 120, 2) := by decide +kernel
theorem dX0_weights_6 : decode cX0_weights 6 = .ok (.if_icmp .lt 13, 3) := by decide +kernel
theorem dX0_weights_9 : decode cX0_weights 9 = .ok (.new 59, 3) := by decide +kernel
theorem dX0_weights_12 : decode cX0_weights 12 = .ok (.dup, 1) := by decide +kernel
theorem dX0_weights_13 : decode cX0_weights 13 = .ok (.ldc 61, 2) := by decide +kernel
theorem dX0_weights_15 : decode cX0_weights 15 = .ok (.invokespecial 63, 3) := by decide +kernel
theorem dX0_weights_18 : decode cX0_weights 18 = .ok (.athrow, 1) := by decide +kernel
theorem dX0_weights_19 : decode cX0_weights 19 = .ok (.aload_n 0, 1) := by decide +kernel
theorem dX0_weights_20 : decode cX0_weights 20 = .ok (.getfield 55, 3) := by decide +kernel
theorem dX0_weights_23 : decode cX0_weights 23 = .ok (.istore 7, 2) := by decide +kernel
theorem dX0_weights_25 : decode cX0_weights 25 = .ok (.iload 7, 2) := by decide +kernel
theorem dX0_weights_27 : decode cX0_weights 27 = .ok (.bipush 6, 2) := by decide +kernel
theorem dX0_weights_29 : decode cX0_weights 29 = .ok (.imul, 1) := by decide +kernel
theorem dX0_weights_30 : decode cX0_weights 30 = .ok (.istore 8, 2) := by decide +kernel
theorem dX0_weights_32 : decode cX0_weights 32 = .ok (.aload_n 0, 1) := by decide +kernel
theorem dX0_weights_33 : decode cX0_weights 33 = .ok (.getfield 9, 3) := by decide +kernel
theorem dX0_weights_36 : decode cX0_weights 36 = .ok (.iload 8, 2) := by decide +kernel
theorem dX0_weights_38 : decode cX0_weights 38 = .ok (.iload_n 1, 1) := by decide +kernel
theorem dX0_weights_39 : decode cX0_weights 39 = .ok (.iastore, 1) := by decide +kernel
theorem dX0_weights_40 : decode cX0_weights 40 = .ok (.aload_n 0, 1) := by decide +kernel
theorem dX0_weights_41 : decode cX0_weights 41 = .ok (.getfield 9, 3) := by decide +kernel
theorem dX0_weights_44 : decode cX0_weights 44 = .ok (.iload 8, 2) := by decide +kernel
theorem dX0_weights_46 : decode cX0_weights 46 = .ok (.iconst 1, 1) := by decide +kernel
theorem dX0_weights_47 : decode cX0_weights 47 = .ok (.iadd, 1) := by decide +kernel
theorem dX0_weights_48 : decode cX0_weights 48 = .ok (.iload_n 2, 1) := by decide +kernel
theorem dX0_weights_49 : decode cX0_weights 49 = .ok (.iastore, 1) := by decide +kernel
theorem dX0_weights_50 : decode cX0_weights 50 = .ok (.aload_n 0, 1) := by decide +kernel
theorem dX0_weights_51 : decode cX0_weights 51 = .ok (.getfield 9, 3) := by decide +kernel
theorem dX0_weights_54 : decode cX0_weights 54 = .ok (.iload 8, 2) := by decide +kernel
theorem dX0_weights_56 : decode cX0_weights 56 = .ok (.iconst 2, 1) := by decide +kernel
theorem dX0_weights_57 : decode cX0_weights 57 = .ok (.iadd, 1) := by decide +kernel
theorem dX0_weights_58 : decode cX0_weights 58 = .ok (.iload_n 3, 1) := by decide +kernel
theorem dX0_weights_59 : decode cX0_weights 59 = .ok (.iastore, 1) := by decide +kernel
theorem dX0_weights_60 : decode cX0_weights 60 = .ok (.aload_n 0, 1) := by decide +kernel
theorem dX0_weights_61 : decode cX0_weights 61 = .ok (.getfield 9, 3) := by decide +kernel
theorem dX0_weights_64 : decode cX0_weights 64 = .ok (.iload 8, 2) := by decide +kernel
theorem dX0_weights_66 : decode cX0_weights 66 = .ok (.iconst 3, 1) := by decide +kernel
theorem dX0_weights_67 : decode cX0_weights 67 = .ok (.iadd, 1) := by decide +kernel
theorem dX0_weights_68 : decode cX0_weights 68 = .ok (.iload 4, 2) := by decide +kernel
theorem dX0_weights_70 : decode cX0_weights 70 = .ok (.iastore, 1) := by decide +kernel
theorem dX0_weights_71 : decode cX0_weights 71 = .ok (.aload_n 0, 1) := by decide +kernel
theorem dX0_weights_72 : decode cX0_weights 72 = .ok (.getfield 9, 3) := by decide +kernel
theorem dX0_weights_75 : decode cX0_weights 75 = .ok (.iload 8, 2) := by decide +kernel
theorem dX0_weights_77 : decode cX0_weights 77 = .ok (.iconst 4, 1) := by decide +kernel
theorem dX0_weights_78 : decode cX0_weights 78 = .ok (.iadd, 1) := by decide +kernel
theorem dX0_weights_79 : decode cX0_weights 79 = .ok (.iload 5, 2) := by decide +kernel
theorem dX0_weights_81 : decode cX0_weights 81 = .ok (.iastore, 1) := by decide +kernel
theorem dX0_weights_82 : decode cX0_weights 82 = .ok (.aload_n 0, 1) := by decide +kernel
theorem dX0_weights_83 : decode cX0_weights 83 = .ok (.getfield 9, 3) := by decide +kernel
theorem dX0_weights_86 : decode cX0_weights 86 = .ok (.iload 8, 2) := by decide +kernel
theorem dX0_weights_88 : decode cX0_weights 88 = .ok (.iconst 5, 1) := by decide +kernel
theorem dX0_weights_89 : decode cX0_weights 89 = .ok (.iadd, 1) := by decide +kernel
theorem dX0_weights_90 : decode cX0_weights 90 = .ok (.iload 6, 2) := by decide +kernel
theorem dX0_weights_92 : decode cX0_weights 92 = .ok (.iastore, 1) := by decide +kernel
theorem dX0_weights_93 : decode cX0_weights 93 = .ok (.aload_n 0, 1) := by decide +kernel
theorem dX0_weights_94 : decode cX0_weights 94 = .ok (.iload 7, 2) := by decide +kernel
theorem dX0_weights_96 : decode cX0_weights 96 = .ok (.iconst 1, 1) := by decide +kernel
theorem dX0_weights_97 : decode cX0_weights 97 = .ok (.iadd, 1) := by decide +kernel
theorem dX0_weights_98 : decode cX0_weights 98 = .ok (.putfield 55, 3) := by decide +kernel
theorem dX0_weights_101 : decode cX0_weights 101 = .ok (.iload 7, 2) := by decide +kernel
theorem dX0_weights_103 : decode cX0_weights 103 = .ok (.ireturn, 1) := by decide +kernel
theorem dL_vector_0 : decode cL_vector 0 = .ok (.aload 8, 2) := by decide +kernel
theorem dL_vector_2 : decode cL_vector 2 = .ok (.iconst 0, 1) := by decide +kernel
theorem dL_vector_3 : decode cL_vector 3 = .ok (.aload_n 0, 1) := by decide +kernel
theorem dL_vector_4 : decode cL_vector 4 = .ok (.iload_n 1, 1) := by decide +kernel
theorem dL_vector_5 : decode cL_vector 5 = .ok (.iload_n 2, 1) := by decide +kernel
theorem dL_vector_6 : decode cL_vector 6 = .ok (.iload_n 3, 1) := by decide +kernel
theorem dL_vector_7 : decode cL_vector 7 = .ok (.iload 4, 2) := by decide +kernel
theorem dL_vector_9 : decode cL_vector 9 = .ok (.iload 5, 2) := by decide +kernel
theorem dL_vector_11 : decode cL_vector 11 = .ok (.iload 6, 2) := by decide +kernel
theorem dL_vector_13 : decode cL_vector 13 = .ok (.iload 7, 2) := by decide +kernel
theorem dL_vector_15 : decode cL_vector 15 = .ok (.invokevirtual 21, 3) := by decide +kernel
theorem dL_vector_18 : decode cL_vector 18 = .ok (.i2l, 1) := by decide +kernel
theorem dL_vector_19 : decode cL_vector 19 = .ok (.lastore, 1) := by decide +kernel
theorem dL_vector_20 : decode cL_vector 20 = .ok (.goto 7, 3) := by decide +kernel
theorem dL_vector_23 : decode cL_vector 23 = .ok (.astore 9, 2) := by decide +kernel
theorem dL_vector_25 : decode cL_vector 25 = .ok (.iconst 1, 1) := by decide +kernel
theorem dL_vector_26 : decode cL_vector 26 = .ok (.ireturn, 1) := by decide +kernel
theorem dL_vector_27 : decode cL_vector 27 = .ok (.iconst 0, 1) := by decide +kernel
theorem dL_vector_28 : decode cL_vector 28 = .ok (.ireturn, 1) := by decide +kernel
theorem dX0_vector_0 : decode cX0_vector 0 = .ok (.aload_n 0, 1) := by decide +kernel
theorem dX0_vector_1 : decode cX0_vector 1 = .ok (.getfield 64, 3) := by decide +kernel
theorem dX0_vector_4 : decode cX0_vector 4 = .ok (.sipush 200, 3) := by decide +kernel
theorem dX0_vector_7 : decode cX0_vector 7 = .ok (.if_icmp .lt 13, 3) := by decide +kernel
theorem dX0_vector_10 : decode cX0_vector 10 = .ok (.new 59, 3) := by decide +kernel
theorem dX0_vector_13 : decode cX0_vector 13 = .ok (.dup, 1) := by decide +kernel
theorem dX0_vector_14 : decode cX0_vector 14 = .ok (.ldc 67, 2) := by decide +kernel
theorem dX0_vector_16 : decode cX0_vector 16 = .ok (.invokespecial 63, 3) := by decide +kernel
theorem dX0_vector_19 : decode cX0_vector 19 = .ok (.athrow, 1) := by decide +kernel
theorem dX0_vector_20 : decode cX0_vector 20 = .ok (.aload_n 0, 1) := by decide +kernel
theorem dX0_vector_21 : decode cX0_vector 21 = .ok (.getfield 64, 3) := by decide +kernel
theorem dX0_vector_24 : decode cX0_vector 24 = .ok (.istore 8, 2) := by decide +kernel
theorem dX0_vector_26 : decode cX0_vector 26 = .ok (.iload 8, 2) := by decide +kernel
theorem dX0_vector_28 : decode cX0_vector 28 = .ok (.bipush 6, 2) := by decide +kernel
theorem dX0_vector_30 : decode cX0_vector 30 = .ok (.imul, 1) := by decide +kernel
theorem dX0_vector_31 : decode cX0_vector 31 = .ok (.istore 9, 2) := by decide +kernel
theorem dX0_vector_33 : decode cX0_vector 33 = .ok (.aload_n 0, 1) := by decide +kernel
theorem dX0_vector_34 : decode cX0_vector 34 = .ok (.getfield 13, 3) := by decide +kernel
theorem dX0_vector_37 : decode cX0_vector 37 = .ok (.iload 9, 2) := by decide +kernel
theorem dX0_vector_39 : decode cX0_vector 39 = .ok (.iload_n 2, 1) := by decide +kernel
theorem dX0_vector_40 : decode cX0_vector 40 = .ok (.iastore, 1) := by decide +kernel
theorem dX0_vector_41 : decode cX0_vector 41 = .ok (.aload_n 0, 1) := by decide +kernel
theorem dX0_vector_42 : decode cX0_vector 42 = .ok (.getfield 13, 3) := by decide +kernel
theorem dX0_vector_45 : decode cX0_vector 45 = .ok (.iload 9, 2) := by decide +kernel
theorem dX0_vector_47 : decode cX0_vector 47 = .ok (.iconst 1, 1) := by decide +kernel
theorem dX0_vector_48 : decode cX0_vector 48 = .ok (.iadd, 1) := by decide +kernel
theorem dX0_vector_49 : decode cX0_vector 49 = .ok (.iload_n 3, 1) := by decide +kernel
theorem dX0_vector_50 : decode cX0_vector 50 = .ok (.iastore, 1) := by decide +kernel
theorem dX0_vector_51 : decode cX0_vector 51 = .ok (.aload_n 0, 1) := by decide +kernel
theorem dX0_vector_52 : decode cX0_vector 52 = .ok (.getfield 13, 3) := by decide +kernel
theorem dX0_vector_55 : decode cX0_vector 55 = .ok (.iload 9, 2) := by decide +kernel
theorem dX0_vector_57 : decode cX0_vector 57 = .ok (.iconst 2, 1) := by decide +kernel
theorem dX0_vector_58 : decode cX0_vector 58 = .ok (.iadd, 1) := by decide +kernel
theorem dX0_vector_59 : decode cX0_vector 59 = .ok (.iload 4, 2) := by decide +kernel
theorem dX0_vector_61 : decode cX0_vector 61 = .ok (.iastore, 1) := by decide +kernel
theorem dX0_vector_62 : decode cX0_vector 62 = .ok (.aload_n 0, 1) := by decide +kernel
theorem dX0_vector_63 : decode cX0_vector 63 = .ok (.getfield 13, 3) := by decide +kernel
theorem dX0_vector_66 : decode cX0_vector 66 = .ok (.iload 9, 2) := by decide +kernel
theorem dX0_vector_68 : decode cX0_vector 68 = .ok (.iconst 3, 1) := by decide +kernel
theorem dX0_vector_69 : decode cX0_vector 69 = .ok (.iadd, 1) := by decide +kernel
theorem dX0_vector_70 : decode cX0_vector 70 = .ok (.iload 5, 2) := by decide +kernel
theorem dX0_vector_72 : decode cX0_vector 72 = .ok (.iastore, 1) := by decide +kernel
theorem dX0_vector_73 : decode cX0_vector 73 = .ok (.aload_n 0, 1) := by decide +kernel
theorem dX0_vector_74 : decode cX0_vector 74 = .ok (.getfield 13, 3) := by decide +kernel
theorem dX0_vector_77 : decode cX0_vector 77 = .ok (.iload 9, 2) := by decide +kernel
theorem dX0_vector_79 : decode cX0_vector 79 = .ok (.iconst 4, 1) := by decide +kernel
theorem dX0_vector_80 : decode cX0_vector 80 = .ok (.iadd, 1) := by decide +kernel
theorem dX0_vector_81 : decode cX0_vector 81 = .ok (.iload 6, 2) := by decide +kernel
theorem dX0_vector_83 : decode cX0_vector 83 = .ok (.iastore, 1) := by decide +kernel
theorem dX0_vector_84 : decode cX0_vector 84 = .ok (.aload_n 0, 1) := by decide +kernel
theorem dX0_vector_85 : decode cX0_vector 85 = .ok (.getfield 13, 3) := by decide +kernel
theorem dX0_vector_88 : decode cX0_vector 88 = .ok (.iload 9, 2) := by decide +kernel
theorem dX0_vector_90 : decode cX0_vector 90 = .ok (.iconst 5, 1) := by decide +kernel
theorem dX0_vector_91 : decode cX0_vector 91 = .ok (.iadd, 1) := by decide +kernel
theorem dX0_vector_92 : decode cX0_vector 92 = .ok (.iload 7, 2) := by decide +kernel
theorem dX0_vector_94 : decode cX0_vector 94 = .ok (.iastore, 1) := by decide +kernel
theorem dX0_vector_95 : decode cX0_vector 95 = .ok (.aload_n 0, 1) := by decide +kernel
theorem dX0_vector_96 : decode cX0_vector 96 = .ok (.getfield 19, 3) := by decide +kernel
theorem dX0_vector_99 : decode cX0_vector 99 = .ok (.iload 8, 2) := by decide +kernel
theorem dX0_vector_101 : decode cX0_vector 101 = .ok (.iload_n 1, 1) := by decide +kernel
theorem dX0_vector_102 : decode cX0_vector 102 = .ok (.bastore, 1) := by decide +kernel
theorem dX0_vector_103 : decode cX0_vector 103 = .ok (.aload_n 0, 1) := by decide +kernel
theorem dX0_vector_104 : decode cX0_vector 104 = .ok (.iload 8, 2) := by decide +kernel
theorem dX0_vector_106 : decode cX0_vector 106 = .ok (.iconst 1, 1) := by decide +kernel
theorem dX0_vector_107 : decode cX0_vector 107 = .ok (.iadd, 1) := by decide +kernel
theorem dX0_vector_108 : decode cX0_vector 108 = .ok (.putfield 64, 3) := by decide +kernel
theorem dX0_vector_111 : decode cX0_vector 111 = .ok (.iload 8, 2) := by decide +kernel
theorem dX0_vector_113 : decode cX0_vector 113 = .ok (.ireturn, 1) := by decide +kernel
theorem dL_cycle_0 : decode cL_cycle 0 = .ok (.aload_n 2, 1) := by decide +kernel
theorem dL_cycle_1 : decode cL_cycle 1 = .ok (.iconst 0, 1) := by decide +kernel
theorem dL_cycle_2 : decode cL_cycle 2 = .ok (.aload_n 0, 1) := by decide +kernel
theorem dL_cycle_3 : decode cL_cycle 3 = .ok (.iload_n 1, 1) := by decide +kernel
theorem dL_cycle_4 : decode cL_cycle 4 = .ok (.invokevirtual 25, 3) := by decide +kernel
theorem dL_cycle_7 : decode cL_cycle 7 = .ok (.i2l, 1) := by decide +kernel
theorem dL_cycle_8 : decode cL_cycle 8 = .ok (.lastore, 1) := by decide +kernel
theorem dL_cycle_9 : decode cL_cycle 9 = .ok (.goto 6, 3) := by decide +kernel
theorem dL_cycle_12 : decode cL_cycle 12 = .ok (.astore_n 3, 1) := by decide +kernel
theorem dL_cycle_13 : decode cL_cycle 13 = .ok (.iconst 1, 1) := by decide +kernel
theorem dL_cycle_14 : decode cL_cycle 14 = .ok (.ireturn, 1) := by decide +kernel
theorem dL_cycle_15 : decode cL_cycle 15 = .ok (.iconst 0, 1) := by decide +kernel
theorem dL_cycle_16 : decode cL_cycle 16 = .ok (.ireturn, 1) := by decide +kernel
theorem dX0_cycle_0 : decode cX0_cycle 0 = .ok (.iload_n 1, 1) := by decide +kernel
theorem dX0_cycle_1 : decode cX0_cycle 1 = .ok (.ifCond .lt 14, 3) := by decide +kernel
theorem dX0_cycle_4 : decode cX0_cycle 4 = .ok (.iload_n 1, 1) := by decide +kernel
theorem dX0_cycle_5 : decode cX0_cycle 5 = .ok (.ldc 69, 2) := by decide +kernel
theorem dX0_cycle_7 : decode cX0_cycle 7 = .ok (.aload_n 0, 1) := by decide +kernel
theorem dX0_cycle_8 : decode cX0_cycle 8 = .ok (.getfield 70, 3) := by decide +kernel
theorem dX0_cycle_11 : decode cX0_cycle 11 = .ok (.isub, 1) := by decide +kernel
theorem dX0_cycle_12 : decode cX0_cycle 12 = .ok (.if_icmp .le 13, 3) := by decide +kernel
theorem dX0_cycle_15 : decode cX0_cycle 15 = .ok (.new 48, 3) := by decide +kernel
theorem dX0_cycle_18 : decode cX0_cycle 18 = .ok (.dup, 1) := by decide +kernel
theorem dX0_cycle_19 : decode cX0_cycle 19 = .ok (.ldc 73, 2) := by decide +kernel
theorem dX0_cycle_21 : decode cX0_cycle 21 = .ok (.invokespecial 52, 3) := by decide +kernel
theorem dX0_cycle_24 : decode cX0_cycle 24 = .ok (.athrow, 1) := by decide +kernel
theorem dX0_cycle_25 : decode cX0_cycle 25 = .ok (.aload_n 0, 1) := by decide +kernel
theorem dX0_cycle_26 : decode cX0_cycle 26 = .ok (.getfield 70, 3) := by decide +kernel
theorem dX0_cycle_29 : decode cX0_cycle 29 = .ok (.iload_n 1, 1) := by decide +kernel
theorem dX0_cycle_30 : decode cX0_cycle 30 = .ok (.iadd, 1) := by decide +kernel
theorem dX0_cycle_31 : decode cX0_cycle 31 = .ok (.istore_n 2, 1) := by decide +kernel
theorem dX0_cycle_32 : decode cX0_cycle 32 = .ok (.iconst 0, 1) := by decide +kernel
theorem dX0_cycle_33 : decode cX0_cycle 33 = .ok (.istore_n 3, 1) := by decide +kernel
theorem dX0_cycle_34 : decode cX0_cycle 34 = .ok (.iload_n 3, 1) := by decide +kernel
theorem dX0_cycle_35 : decode cX0_cycle 35 = .ok (.iload_n 1, 1) := by decide +kernel
theorem dX0_cycle_36 : decode cX0_cycle 36 = .ok (.if_icmp .ge 20, 3) := by decide +kernel
theorem dX0_cycle_39 : decode cX0_cycle 39 = .ok (.aload_n 0, 1) := by decide +kernel
theorem dX0_cycle_40 : decode cX0_cycle 40 = .ok (.invokevirtual 75, 3) := by decide +kernel
theorem dX0_cycle_43 : decode cX0_cycle 43 = .ok (.ifCond .ne 13, 3) := by decide +kernel
theorem dX0_cycle_46 : decode cX0_cycle 46 = .ok (.aload_n 0, 1) := by decide +kernel
theorem dX0_cycle_47 : decode cX0_cycle 47 = .ok (.invokevirtual 79, 3) := by decide +kernel
theorem dX0_cycle_50 : decode cX0_cycle 50 = .ok (.iinc 3 1, 3) := by decide +kernel
theorem dX0_cycle_53 : decode cX0_cycle 53 = .ok (.goto (-19), 3) := by decide +kernel
theorem dX0_cycle_56 : decode cX0_cycle 56 = .ok (.aload_n 0, 1) := by decide +kernel
theorem dX0_cycle_57 : decode cX0_cycle 57 = .ok (.iload_n 2, 1) := by decide +kernel
theorem dX0_cycle_58 : decode cX0_cycle 58 = .ok (.putfield 70, 3) := by decide +kernel
theorem dX0_cycle_61 : decode cX0_cycle 61 = .ok (.iload_n 2, 1) := by decide +kernel
theorem dX0_cycle_62 : decode cX0_cycle 62 = .ok (.ireturn, 1) := by decide +kernel
theorem dX0_isAtRest_0 : decode cX0_isAtRest 0 = .ok (.aload_n 0, 1) := by decide +kernel
theorem dX0_isAtRest_1 : decode cX0_isAtRest 1 = .ok (.invokevirtual 141, 3) := by decide +kernel
theorem dX0_isAtRest_4 : decode cX0_isAtRest 4 = .ok (.ifCond .ne 27, 3) := by decide +kernel
theorem dX0_isAtRest_7 : decode cX0_isAtRest 7 = .ok (.aload_n 0, 1) := by decide +kernel
theorem dX0_isAtRest_8 : decode cX0_isAtRest 8 = .ok (.aload_n 0, 1) := by decide +kernel
theorem dX0_isAtRest_9 : decode cX0_isAtRest 9 = .ok (.getfield 70, 3) := by decide +kernel
theorem dX0_isAtRest_12 : decode cX0_isAtRest 12 = .ok (.iconst 1, 1) := by decide +kernel
theorem dX0_isAtRest_13 : decode cX0_isAtRest 13 = .ok (.iadd, 1) := by decide +kernel
theorem dX0_isAtRest_14 : decode cX0_isAtRest 14 = .ok (.invokevirtual 144, 3) := by decide +kernel
theorem dX0_isAtRest_17 : decode cX0_isAtRest 17 = .ok (.ifCond .ne 14, 3) := by decide +kernel
theorem dX0_isAtRest_20 : decode cX0_isAtRest 20 = .ok (.aload_n 0, 1) := by decide +kernel
theorem dX0_isAtRest_21 : decode cX0_isAtRest 21 = .ok (.invokevirtual 121, 3) := by decide +kernel
theorem dX0_isAtRest_24 : decode cX0_isAtRest 24 = .ok (.ifCond .ne 7, 3) := by decide +kernel
theorem dX0_isAtRest_27 : decode cX0_isAtRest 27 = .ok (.iconst 1, 1) := by decide +kernel
theorem dX0_isAtRest_28 : decode cX0_isAtRest 28 = .ok (.goto 4, 3) := by decide +kernel
theorem dX0_isAtRest_31 : decode cX0_isAtRest 31 = .ok (.iconst 0, 1) := by decide +kernel
theorem dX0_isAtRest_32 : decode cX0_isAtRest 32 = .ok (.ireturn, 1) := by decide +kernel
theorem dX0_canVectorEnter_0 : decode cX0_canVectorEnter 0 = .ok (.aload_n 0, 1) := by decide +kernel
theorem dX0_canVectorEnter_1 : decode cX0_canVectorEnter 1 = .ok (.getfield 98, 3) := by decide +kernel
theorem dX0_canVectorEnter_4 : decode cX0_canVectorEnter 4 = .ok (.aload_n 0, 1) := by decide +kernel
theorem dX0_canVectorEnter_5 : decode cX0_canVectorEnter 5 = .ok (.getfield 64, 3) := by decide +kernel
theorem dX0_canVectorEnter_8 : decode cX0_canVectorEnter 8 = .ok (.if_icmp .ge 26, 3) := by decide +kernel
theorem dX0_canVectorEnter_11 : decode cX0_canVectorEnter 11 = .ok (.aload_n 0, 1) := by decide +kernel
theorem dX0_canVectorEnter_12 : decode cX0_canVectorEnter 12 = .ok (.getfield 19, 3) := by decide +kernel
theorem dX0_canVectorEnter_15 : decode cX0_canVectorEnter 15 = .ok (.aload_n 0, 1) := by decide +kernel
theorem dX0_canVectorEnter_16 : decode cX0_canVectorEnter 16 = .ok (.getfield 98, 3) := by decide +kernel
theorem dX0_canVectorEnter_19 : decode cX0_canVectorEnter 19 = .ok (.baload, 1) := by decide +kernel
theorem dX0_canVectorEnter_20 : decode cX0_canVectorEnter 20 = .ok (.ifCond .eq 10, 3) := by decide +kernel
theorem dX0_canVectorEnter_23 : decode cX0_canVectorEnter 23 = .ok (.aload_n 0, 1) := by decide +kernel
theorem dX0_canVectorEnter_24 : decode cX0_canVectorEnter 24 = .ok (.invokevirtual 118, 3) := by decide +kernel
theorem dX0_canVectorEnter_27 : decode cX0_canVectorEnter 27 = .ok (.ifCond .eq 7, 3) := by decide +kernel
theorem dX0_canVectorEnter_30 : decode cX0_canVectorEnter 30 = .ok (.iconst 1, 1) := by decide +kernel
theorem dX0_canVectorEnter_31 : decode cX0_canVectorEnter 31 = .ok (.goto 4, 3) := by decide +kernel
theorem dX0_canVectorEnter_34 : decode cX0_canVectorEnter 34 = .ok (.iconst 0, 1) := by decide +kernel
theorem dX0_canVectorEnter_35 : decode cX0_canVectorEnter 35 = .ok (.ireturn, 1) := by decide +kernel
theorem dX0_isSetComplete_0 : decode cX0_isSetComplete 0 = .ok (.aload_n 0, 1) := by decide +kernel
theorem dX0_isSetComplete_1 : decode cX0_isSetComplete 1 = .ok (.getfield 129, 3) := by decide +kernel
theorem dX0_isSetComplete_4 : decode cX0_isSetComplete 4 = .ok (.aload_n 0, 1) := by decide +kernel
theorem dX0_isSetComplete_5 : decode cX0_isSetComplete 5 = .ok (.getfield 124, 3) := by decide +kernel
theorem dX0_isSetComplete_8 : decode cX0_isSetComplete 8 = .ok (.if_icmp .ne 7, 3) := by decide +kernel
theorem dX0_isSetComplete_11 : decode cX0_isSetComplete 11 = .ok (.iconst 1, 1) := by decide +kernel
theorem dX0_isSetComplete_12 : decode cX0_isSetComplete 12 = .ok (.goto 4, 3) := by decide +kernel
theorem dX0_isSetComplete_15 : decode cX0_isSetComplete 15 = .ok (.iconst 0, 1) := by decide +kernel
theorem dX0_isSetComplete_16 : decode cX0_isSetComplete 16 = .ok (.ireturn, 1) := by decide +kernel
theorem dX0_canRowComeIn_0 : decode cX0_canRowComeIn 0 = .ok (.aload_n 0, 1) := by decide +kernel
theorem dX0_canRowComeIn_1 : decode cX0_canRowComeIn 1 = .ok (.getfield 112, 3) := by decide +kernel
theorem dX0_canRowComeIn_4 : decode cX0_canRowComeIn 4 = .ok (.aload_n 0, 1) := by decide +kernel
theorem dX0_canRowComeIn_5 : decode cX0_canRowComeIn 5 = .ok (.getfield 55, 3) := by decide +kernel
theorem dX0_canRowComeIn_8 : decode cX0_canRowComeIn 8 = .ok (.if_icmp .ge 34, 3) := by decide +kernel
theorem dX0_canRowComeIn_11 : decode cX0_canRowComeIn 11 = .ok (.aload_n 0, 1) := by decide +kernel
theorem dX0_canRowComeIn_12 : decode cX0_canRowComeIn 12 = .ok (.invokevirtual 118, 3) := by decide +kernel
theorem dX0_canRowComeIn_15 : decode cX0_canRowComeIn 15 = .ok (.ifCond .ne 27, 3) := by decide +kernel
theorem dX0_canRowComeIn_18 : decode cX0_canRowComeIn 18 = .ok (.aload_n 0, 1) := by decide +kernel
theorem dX0_canRowComeIn_19 : decode cX0_canRowComeIn 19 = .ok (.getfield 115, 3) := by decide +kernel
theorem dX0_canRowComeIn_22 : decode cX0_canRowComeIn 22 = .ok (.ifCond .eq 16, 3) := by decide +kernel
theorem dX0_canRowComeIn_25 : decode cX0_canRowComeIn 25 = .ok (.iload_n 1, 1) := by decide +kernel
theorem dX0_canRowComeIn_26 : decode cX0_canRowComeIn 26 = .ok (.aload_n 0, 1) := by decide +kernel
theorem dX0_canRowComeIn_27 : decode cX0_canRowComeIn 27 = .ok (.getfield 132, 3) := by decide +kernel
theorem dX0_canRowComeIn_30 : decode cX0_canRowComeIn 30 = .ok (.isub, 1) := by decide +kernel
theorem dX0_canRowComeIn_31 : decode cX0_canRowComeIn 31 = .ok (.aload_n 0, 1) := by decide +kernel
theorem dX0_canRowComeIn_32 : decode cX0_canRowComeIn 32 = .ok (.invokevirtual 103, 3) := by decide +kernel
theorem dX0_canRowComeIn_35 : decode cX0_canRowComeIn 35 = .ok (.if_icmp .le 7, 3) := by decide +kernel
theorem dX0_canRowComeIn_38 : decode cX0_canRowComeIn 38 = .ok (.iconst 1, 1) := by decide +kernel
theorem dX0_canRowComeIn_39 : decode cX0_canRowComeIn 39 = .ok (.goto 4, 3) := by decide +kernel
theorem dX0_canRowComeIn_42 : decode cX0_canRowComeIn 42 = .ok (.iconst 0, 1) := by decide +kernel
theorem dX0_canRowComeIn_43 : decode cX0_canRowComeIn 43 = .ok (.ireturn, 1) := by decide +kernel
theorem dX0_crossing_0 : decode cX0_crossing 0 = .ok (.iconst 2, 1) := by decide +kernel
theorem dX0_crossing_1 : decode cX0_crossing 1 = .ok (.aload_n 0, 1) := by decide +kernel
theorem dX0_crossing_2 : decode cX0_crossing 2 = .ok (.getfield 124, 3) := by decide +kernel
theorem dX0_crossing_5 : decode cX0_crossing 5 = .ok (.imul, 1) := by decide +kernel
theorem dX0_crossing_6 : decode cX0_crossing 6 = .ok (.iconst 2, 1) := by decide +kernel
theorem dX0_crossing_7 : decode cX0_crossing 7 = .ok (.isub, 1) := by decide +kernel
theorem dX0_crossing_8 : decode cX0_crossing 8 = .ok (.ireturn, 1) := by decide +kernel
theorem dX0_countReachedCells_0 : decode cX0_countReachedCells 0 = .ok (.iconst 0, 1) := by decide +kernel
theorem dX0_countReachedCells_1 : decode cX0_countReachedCells 1 = .ok (.istore_n 1, 1) := by decide +kernel
theorem dX0_countReachedCells_2 : decode cX0_countReachedCells 2 = .ok (.iconst 0, 1) := by decide +kernel
theorem dX0_countReachedCells_3 : decode cX0_countReachedCells 3 = .ok (.istore_n 2, 1) := by decide +kernel
theorem dX0_countReachedCells_4 : decode cX0_countReachedCells 4 = .ok (.iload_n 2, 1) := by decide +kernel
theorem dX0_countReachedCells_5 : decode cX0_countReachedCells 5 = .ok (.aload_n 0, 1) := by decide +kernel
theorem dX0_countReachedCells_6 : decode cX0_countReachedCells 6 = .ok (.getfield 124, 3) := by decide +kernel
theorem dX0_countReachedCells_9 : decode cX0_countReachedCells 9 = .ok (.if_icmp .ge 40, 3) := by decide +kernel
theorem dX0_countReachedCells_12 : decode cX0_countReachedCells 12 = .ok (.iconst 0, 1) := by decide +kernel
theorem dX0_countReachedCells_13 : decode cX0_countReachedCells 13 = .ok (.istore_n 3, 1) := by decide +kernel
theorem dX0_countReachedCells_14 : decode cX0_countReachedCells 14 = .ok (.iload_n 3, 1) := by decide +kernel
theorem dX0_countReachedCells_15 : decode cX0_countReachedCells 15 = .ok (.aload_n 0, 1) := by decide +kernel
theorem dX0_countReachedCells_16 : decode cX0_countReachedCells 16 = .ok (.getfield 124, 3) := by decide +kernel
theorem dX0_countReachedCells_19 : decode cX0_countReachedCells 19 = .ok (.if_icmp .ge 24, 3) := by decide +kernel
theorem dX0_countReachedCells_22 : decode cX0_countReachedCells 22 = .ok (.aload_n 0, 1) := by decide +kernel
theorem dX0_countReachedCells_23 : decode cX0_countReachedCells 23 = .ok (.getfield 26, 3) := by decide +kernel
theorem dX0_countReachedCells_26 : decode cX0_countReachedCells 26 = .ok (.iload_n 2, 1) := by decide +kernel
theorem dX0_countReachedCells_27 : decode cX0_countReachedCells 27 = .ok (.iload_n 3, 1) := by decide +kernel
theorem dX0_countReachedCells_28 : decode cX0_countReachedCells 28 = .ok (.iadd, 1) := by decide +kernel
theorem dX0_countReachedCells_29 : decode cX0_countReachedCells 29 = .ok (.iaload, 1) := by decide +kernel
theorem dX0_countReachedCells_30 : decode cX0_countReachedCells 30 = .ok (.iconst (-1), 1) := by decide +kernel
theorem dX0_countReachedCells_31 : decode cX0_countReachedCells 31 = .ok (.if_icmp .eq 6, 3) := by decide +kernel
theorem dX0_countReachedCells_34 : decode cX0_countReachedCells 34 = .ok (.iinc 1 1, 3) := by decide +kernel
theorem dX0_countReachedCells_37 : decode cX0_countReachedCells 37 = .ok (.iinc 3 1, 3) := by decide +kernel
theorem dX0_countReachedCells_40 : decode cX0_countReachedCells 40 = .ok (.goto (-26), 3) := by decide +kernel
theorem dX0_countReachedCells_43 : decode cX0_countReachedCells 43 = .ok (.iinc 2 1, 3) := by decide +kernel
theorem dX0_countReachedCells_46 : decode cX0_countReachedCells 46 = .ok (.goto (-42), 3) := by decide +kernel
theorem dX0_countReachedCells_49 : decode cX0_countReachedCells 49 = .ok (.iload_n 1, 1) := by decide +kernel
theorem dX0_countReachedCells_50 : decode cX0_countReachedCells 50 = .ok (.ireturn, 1) := by decide +kernel
theorem dX0_runCycle_0 : decode cX0_runCycle 0 = .ok (.aload_n 0, 1) := by decide +kernel
theorem dX0_runCycle_1 : decode cX0_runCycle 1 = .ok (.dup, 1) := by decide +kernel
theorem dX0_runCycle_2 : decode cX0_runCycle 2 = .ok (.getfield 70, 3) := by decide +kernel
theorem dX0_runCycle_5 : decode cX0_runCycle 5 = .ok (.iconst 1, 1) := by decide +kernel
theorem dX0_runCycle_6 : decode cX0_runCycle 6 = .ok (.iadd, 1) := by decide +kernel
theorem dX0_runCycle_7 : decode cX0_runCycle 7 = .ok (.putfield 70, 3) := by decide +kernel
theorem dX0_runCycle_10 : decode cX0_runCycle 10 = .ok (.aload_n 0, 1) := by decide +kernel
theorem dX0_runCycle_11 : decode cX0_runCycle 11 = .ok (.invokevirtual 147, 3) := by decide +kernel
theorem dX0_runCycle_14 : decode cX0_runCycle 14 = .ok (.aload_n 0, 1) := by decide +kernel
theorem dX0_runCycle_15 : decode cX0_runCycle 15 = .ok (.invokevirtual 141, 3) := by decide +kernel
theorem dX0_runCycle_18 : decode cX0_runCycle 18 = .ok (.ifCond .eq 7, 3) := by decide +kernel
theorem dX0_runCycle_21 : decode cX0_runCycle 21 = .ok (.aload_n 0, 1) := by decide +kernel
theorem dX0_runCycle_22 : decode cX0_runCycle 22 = .ok (.invokevirtual 150, 3) := by decide +kernel
theorem dX0_runCycle_25 : decode cX0_runCycle 25 = .ok (.aload_n 0, 1) := by decide +kernel
theorem dX0_runCycle_26 : decode cX0_runCycle 26 = .ok (.aload_n 0, 1) := by decide +kernel
theorem dX0_runCycle_27 : decode cX0_runCycle 27 = .ok (.getfield 70, 3) := by decide +kernel
theorem dX0_runCycle_30 : decode cX0_runCycle 30 = .ok (.invokevirtual 144, 3) := by decide +kernel
theorem dX0_runCycle_33 : decode cX0_runCycle 33 = .ok (.ifCond .eq 7, 3) := by decide +kernel
theorem dX0_runCycle_36 : decode cX0_runCycle 36 = .ok (.aload_n 0, 1) := by decide +kernel
theorem dX0_runCycle_37 : decode cX0_runCycle 37 = .ok (.invokevirtual 153, 3) := by decide +kernel
theorem dX0_runCycle_40 : decode cX0_runCycle 40 = .ok (.aload_n 0, 1) := by decide +kernel
theorem dX0_runCycle_41 : decode cX0_runCycle 41 = .ok (.invokevirtual 156, 3) := by decide +kernel
theorem dX0_runCycle_44 : decode cX0_runCycle 44 = .ok (.aload_n 0, 1) := by decide +kernel
theorem dX0_runCycle_45 : decode cX0_runCycle 45 = .ok (.invokevirtual 159, 3) := by decide +kernel
theorem dX0_runCycle_48 : decode cX0_runCycle 48 = .ok (.return_, 1) := by decide +kernel
theorem dX0_ageEntries_0 : decode cX0_ageEntries 0 = .ok (.bipush 10, 2) := by decide +kernel
theorem dX0_ageEntries_2 : decode cX0_ageEntries 2 = .ok (.istore_n 1, 1) := by decide +kernel
theorem dX0_ageEntries_3 : decode cX0_ageEntries 3 = .ok (.iload_n 1, 1) := by decide +kernel
theorem dX0_ageEntries_4 : decode cX0_ageEntries 4 = .ok (.ifCond .le 23, 3) := by decide +kernel
theorem dX0_ageEntries_7 : decode cX0_ageEntries 7 = .ok (.aload_n 0, 1) := by decide +kernel
theorem dX0_ageEntries_8 : decode cX0_ageEntries 8 = .ok (.getfield 26, 3) := by decide +kernel
theorem dX0_ageEntries_11 : decode cX0_ageEntries 11 = .ok (.iload_n 1, 1) := by decide +kernel
theorem dX0_ageEntries_12 : decode cX0_ageEntries 12 = .ok (.aload_n 0, 1) := by decide +kernel
theorem dX0_ageEntries_13 : decode cX0_ageEntries 13 = .ok (.getfield 26, 3) := by decide +kernel
theorem dX0_ageEntries_16 : decode cX0_ageEntries 16 = .ok (.iload_n 1, 1) := by decide +kernel
theorem dX0_ageEntries_17 : decode cX0_ageEntries 17 = .ok (.iconst 1, 1) := by decide +kernel
theorem dX0_ageEntries_18 : decode cX0_ageEntries 18 = .ok (.isub, 1) := by decide +kernel
theorem dX0_ageEntries_19 : decode cX0_ageEntries 19 = .ok (.iaload, 1) := by decide +kernel
theorem dX0_ageEntries_20 : decode cX0_ageEntries 20 = .ok (.iastore, 1) := by decide +kernel
theorem dX0_ageEntries_21 : decode cX0_ageEntries 21 = .ok (.iinc 1 (-1), 3) := by decide +kernel
theorem dX0_ageEntries_24 : decode cX0_ageEntries 24 = .ok (.goto (-21), 3) := by decide +kernel
theorem dX0_ageEntries_27 : decode cX0_ageEntries 27 = .ok (.aload_n 0, 1) := by decide +kernel
theorem dX0_ageEntries_28 : decode cX0_ageEntries 28 = .ok (.getfield 26, 3) := by decide +kernel
theorem dX0_ageEntries_31 : decode cX0_ageEntries 31 = .ok (.iconst 0, 1) := by decide +kernel
theorem dX0_ageEntries_32 : decode cX0_ageEntries 32 = .ok (.iconst (-1), 1) := by decide +kernel
theorem dX0_ageEntries_33 : decode cX0_ageEntries 33 = .ok (.iastore, 1) := by decide +kernel
theorem dX0_ageEntries_34 : decode cX0_ageEntries 34 = .ok (.return_, 1) := by decide +kernel
theorem dX0_enterVector_0 : decode cX0_enterVector 0 = .ok (.aload_n 0, 1) := by decide +kernel
theorem dX0_enterVector_1 : decode cX0_enterVector 1 = .ok (.getfield 98, 3) := by decide +kernel
theorem dX0_enterVector_4 : decode cX0_enterVector 4 = .ok (.istore_n 1, 1) := by decide +kernel
theorem dX0_enterVector_5 : decode cX0_enterVector 5 = .ok (.aload_n 0, 1) := by decide +kernel
theorem dX0_enterVector_6 : decode cX0_enterVector 6 = .ok (.iload_n 1, 1) := by decide +kernel
theorem dX0_enterVector_7 : decode cX0_enterVector 7 = .ok (.iconst 1, 1) := by decide +kernel
theorem dX0_enterVector_8 : decode cX0_enterVector 8 = .ok (.iadd, 1) := by decide +kernel
theorem dX0_enterVector_9 : decode cX0_enterVector 9 = .ok (.putfield 98, 3) := by decide +kernel
theorem dX0_enterVector_12 : decode cX0_enterVector 12 = .ok (.aload_n 0, 1) := by decide +kernel
theorem dX0_enterVector_13 : decode cX0_enterVector 13 = .ok (.getfield 26, 3) := by decide +kernel
theorem dX0_enterVector_16 : decode cX0_enterVector 16 = .ok (.iconst 0, 1) := by decide +kernel
theorem dX0_enterVector_17 : decode cX0_enterVector 17 = .ok (.iload_n 1, 1) := by decide +kernel
theorem dX0_enterVector_18 : decode cX0_enterVector 18 = .ok (.iastore, 1) := by decide +kernel
theorem dX0_enterVector_19 : decode cX0_enterVector 19 = .ok (.aload_n 0, 1) := by decide +kernel
theorem dX0_enterVector_20 : decode cX0_enterVector 20 = .ok (.getfield 23, 3) := by decide +kernel
theorem dX0_enterVector_23 : decode cX0_enterVector 23 = .ok (.iload_n 1, 1) := by decide +kernel
theorem dX0_enterVector_24 : decode cX0_enterVector 24 = .ok (.aload_n 0, 1) := by decide +kernel
theorem dX0_enterVector_25 : decode cX0_enterVector 25 = .ok (.getfield 70, 3) := by decide +kernel
theorem dX0_enterVector_28 : decode cX0_enterVector 28 = .ok (.iastore, 1) := by decide +kernel
theorem dX0_enterVector_29 : decode cX0_enterVector 29 = .ok (.aload_n 0, 1) := by decide +kernel
theorem dX0_enterVector_30 : decode cX0_enterVector 30 = .ok (.getfield 19, 3) := by decide +kernel
theorem dX0_enterVector_33 : decode cX0_enterVector 33 = .ok (.iload_n 1, 1) := by decide +kernel
theorem dX0_enterVector_34 : decode cX0_enterVector 34 = .ok (.baload, 1) := by decide +kernel
theorem dX0_enterVector_35 : decode cX0_enterVector 35 = .ok (.ifCond .eq 26, 3) := by decide +kernel
theorem dX0_enterVector_38 : decode cX0_enterVector 38 = .ok (.aload_n 0, 1) := by decide +kernel
theorem dX0_enterVector_39 : decode cX0_enterVector 39 = .ok (.iconst 0, 1) := by decide +kernel
theorem dX0_enterVector_40 : decode cX0_enterVector 40 = .ok (.putfield 129, 3) := by decide +kernel
theorem dX0_enterVector_43 : decode cX0_enterVector 43 = .ok (.aload_n 0, 1) := by decide +kernel
theorem dX0_enterVector_44 : decode cX0_enterVector 44 = .ok (.dup, 1) := by decide +kernel
theorem dX0_enterVector_45 : decode cX0_enterVector 45 = .ok (.getfield 115, 3) := by decide +kernel
theorem dX0_enterVector_48 : decode cX0_enterVector 48 = .ok (.iconst 1, 1) := by decide +kernel
theorem dX0_enterVector_49 : decode cX0_enterVector 49 = .ok (.iadd, 1) := by decide +kernel
theorem dX0_enterVector_50 : decode cX0_enterVector 50 = .ok (.putfield 115, 3) := by decide +kernel
theorem dX0_enterVector_53 : decode cX0_enterVector 53 = .ok (.aload_n 0, 1) := by decide +kernel
theorem dX0_enterVector_54 : decode cX0_enterVector 54 = .ok (.aload_n 0, 1) := by decide +kernel
theorem dX0_enterVector_55 : decode cX0_enterVector 55 = .ok (.getfield 70, 3) := by decide +kernel
theorem dX0_enterVector_58 : decode cX0_enterVector 58 = .ok (.putfield 132, 3) := by decide +kernel
theorem dX0_enterVector_61 : decode cX0_enterVector 61 = .ok (.return_, 1) := by decide +kernel
theorem dX0_letRowIn_0 : decode cX0_letRowIn 0 = .ok (.aload_n 0, 1) := by decide +kernel
theorem dX0_letRowIn_1 : decode cX0_letRowIn 1 = .ok (.getfield 124, 3) := by decide +kernel
theorem dX0_letRowIn_4 : decode cX0_letRowIn 4 = .ok (.iconst 1, 1) := by decide +kernel
theorem dX0_letRowIn_5 : decode cX0_letRowIn 5 = .ok (.isub, 1) := by decide +kernel
theorem dX0_letRowIn_6 : decode cX0_letRowIn 6 = .ok (.istore_n 1, 1) := by decide +kernel
theorem dX0_letRowIn_7 : decode cX0_letRowIn 7 = .ok (.iload_n 1, 1) := by decide +kernel
theorem dX0_letRowIn_8 : decode cX0_letRowIn 8 = .ok (.ifCond .le 49, 3) := by decide +kernel
theorem dX0_letRowIn_11 : decode cX0_letRowIn 11 = .ok (.iconst 0, 1) := by decide +kernel
theorem dX0_letRowIn_12 : decode cX0_letRowIn 12 = .ok (.istore_n 2, 1) := by decide +kernel
theorem dX0_letRowIn_13 : decode cX0_letRowIn 13 = .ok (.iload_n 2, 1) := by decide +kernel
theorem dX0_letRowIn_14 : decode cX0_letRowIn 14 = .ok (.aload_n 0, 1) := by decide +kernel
theorem dX0_letRowIn_15 : decode cX0_letRowIn 15 = .ok (.getfield 124, 3) := by decide +kernel
theorem dX0_letRowIn_18 : decode cX0_letRowIn 18 = .ok (.if_icmp .ge 33, 3) := by decide +kernel
theorem dX0_letRowIn_21 : decode cX0_letRowIn 21 = .ok (.aload_n 0, 1) := by decide +kernel
theorem dX0_letRowIn_22 : decode cX0_letRowIn 22 = .ok (.getfield 38, 3) := by decide +kernel
theorem dX0_letRowIn_25 : decode cX0_letRowIn 25 = .ok (.iload_n 1, 1) := by decide +kernel
theorem dX0_letRowIn_26 : decode cX0_letRowIn 26 = .ok (.bipush 6, 2) := by decide +kernel
theorem dX0_letRowIn_28 : decode cX0_letRowIn 28 = .ok (.imul, 1) := by decide +kernel
theorem dX0_letRowIn_29 : decode cX0_letRowIn 29 = .ok (.iload_n 2, 1) := by decide +kernel
theorem dX0_letRowIn_30 : decode cX0_letRowIn 30 = .ok (.iadd, 1) := by decide +kernel
theorem dX0_letRowIn_31 : decode cX0_letRowIn 31 = .ok (.aload_n 0, 1) := by decide +kernel
theorem dX0_letRowIn_32 : decode cX0_letRowIn 32 = .ok (.getfield 38, 3) := by decide +kernel
theorem dX0_letRowIn_35 : decode cX0_letRowIn 35 = .ok (.iload_n 1, 1) := by decide +kernel
theorem dX0_letRowIn_36 : decode cX0_letRowIn 36 = .ok (.iconst 1, 1) := by decide +kernel
theorem dX0_letRowIn_37 : decode cX0_letRowIn 37 = .ok (.isub, 1) := by decide +kernel
theorem dX0_letRowIn_38 : decode cX0_letRowIn 38 = .ok (.bipush 6, 2) := by decide +kernel
theorem dX0_letRowIn_40 : decode cX0_letRowIn 40 = .ok (.imul, 1) := by decide +kernel
theorem dX0_letRowIn_41 : decode cX0_letRowIn 41 = .ok (.iload_n 2, 1) := by decide +kernel
theorem dX0_letRowIn_42 : decode cX0_letRowIn 42 = .ok (.iadd, 1) := by decide +kernel
theorem dX0_letRowIn_43 : decode cX0_letRowIn 43 = .ok (.iaload, 1) := by decide +kernel
theorem dX0_letRowIn_44 : decode cX0_letRowIn 44 = .ok (.iastore, 1) := by decide +kernel
theorem dX0_letRowIn_45 : decode cX0_letRowIn 45 = .ok (.iinc 2 1, 3) := by decide +kernel
theorem dX0_letRowIn_48 : decode cX0_letRowIn 48 = .ok (.goto (-35), 3) := by decide +kernel
theorem dX0_letRowIn_51 : decode cX0_letRowIn 51 = .ok (.iinc 1 (-1), 3) := by decide +kernel
theorem dX0_letRowIn_54 : decode cX0_letRowIn 54 = .ok (.goto (-47), 3) := by decide +kernel
theorem dX0_letRowIn_57 : decode cX0_letRowIn 57 = .ok (.iconst 0, 1) := by decide +kernel
theorem dX0_letRowIn_58 : decode cX0_letRowIn 58 = .ok (.istore_n 1, 1) := by decide +kernel
theorem dX0_letRowIn_59 : decode cX0_letRowIn 59 = .ok (.iload_n 1, 1) := by decide +kernel
theorem dX0_letRowIn_60 : decode cX0_letRowIn 60 = .ok (.aload_n 0, 1) := by decide +kernel
theorem dX0_letRowIn_61 : decode cX0_letRowIn 61 = .ok (.getfield 124, 3) := by decide +kernel
theorem dX0_letRowIn_64 : decode cX0_letRowIn 64 = .ok (.if_icmp .ge 29, 3) := by decide +kernel
theorem dX0_letRowIn_67 : decode cX0_letRowIn 67 = .ok (.aload_n 0, 1) := by decide +kernel
theorem dX0_letRowIn_68 : decode cX0_letRowIn 68 = .ok (.getfield 38, 3) := by decide +kernel
theorem dX0_letRowIn_71 : decode cX0_letRowIn 71 = .ok (.iload_n 1, 1) := by decide +kernel
theorem dX0_letRowIn_72 : decode cX0_letRowIn 72 = .ok (.aload_n 0, 1) := by decide +kernel
theorem dX0_letRowIn_73 : decode cX0_letRowIn 73 = .ok (.getfield 9, 3) := by decide +kernel
theorem dX0_letRowIn_76 : decode cX0_letRowIn 76 = .ok (.aload_n 0, 1) := by decide +kernel
theorem dX0_letRowIn_77 : decode cX0_letRowIn 77 = .ok (.getfield 112, 3) := by decide +kernel
theorem dX0_letRowIn_80 : decode cX0_letRowIn 80 = .ok (.bipush 6, 2) := by decide +kernel
theorem dX0_letRowIn_82 : decode cX0_letRowIn 82 = .ok (.imul, 1) := by decide +kernel
theorem dX0_letRowIn_83 : decode cX0_letRowIn 83 = .ok (.iload_n 1, 1) := by decide +kernel
theorem dX0_letRowIn_84 : decode cX0_letRowIn 84 = .ok (.iadd, 1) := by decide +kernel
theorem dX0_letRowIn_85 : decode cX0_letRowIn 85 = .ok (.iaload, 1) := by decide +kernel
theorem dX0_letRowIn_86 : decode cX0_letRowIn 86 = .ok (.iastore, 1) := by decide +kernel
theorem dX0_letRowIn_87 : decode cX0_letRowIn 87 = .ok (.iinc 1 1, 3) := by decide +kernel
theorem dX0_letRowIn_90 : decode cX0_letRowIn 90 = .ok (.goto (-31), 3) := by decide +kernel
theorem dX0_letRowIn_93 : decode cX0_letRowIn 93 = .ok (.aload_n 0, 1) := by decide +kernel
theorem dX0_letRowIn_94 : decode cX0_letRowIn 94 = .ok (.dup, 1) := by decide +kernel
theorem dX0_letRowIn_95 : decode cX0_letRowIn 95 = .ok (.getfield 112, 3) := by decide +kernel
theorem dX0_letRowIn_98 : decode cX0_letRowIn 98 = .ok (.iconst 1, 1) := by decide +kernel
theorem dX0_letRowIn_99 : decode cX0_letRowIn 99 = .ok (.iadd, 1) := by decide +kernel
theorem dX0_letRowIn_100 : decode cX0_letRowIn 100 = .ok (.putfield 112, 3) := by decide +kernel
theorem dX0_letRowIn_103 : decode cX0_letRowIn 103 = .ok (.aload_n 0, 1) := by decide +kernel
theorem dX0_letRowIn_104 : decode cX0_letRowIn 104 = .ok (.dup, 1) := by decide +kernel
theorem dX0_letRowIn_105 : decode cX0_letRowIn 105 = .ok (.getfield 129, 3) := by decide +kernel
theorem dX0_letRowIn_108 : decode cX0_letRowIn 108 = .ok (.iconst 1, 1) := by decide +kernel
theorem dX0_letRowIn_109 : decode cX0_letRowIn 109 = .ok (.iadd, 1) := by decide +kernel
theorem dX0_letRowIn_110 : decode cX0_letRowIn 110 = .ok (.putfield 129, 3) := by decide +kernel
theorem dX0_letRowIn_113 : decode cX0_letRowIn 113 = .ok (.return_, 1) := by decide +kernel
theorem dX0_goOn_0 : decode cX0_goOn 0 = .ok (.aload_n 0, 1) := by decide +kernel
theorem dX0_goOn_1 : decode cX0_goOn 1 = .ok (.getfield 124, 3) := by decide +kernel
theorem dX0_goOn_4 : decode cX0_goOn 4 = .ok (.iconst 1, 1) := by decide +kernel
theorem dX0_goOn_5 : decode cX0_goOn 5 = .ok (.isub, 1) := by decide +kernel
theorem dX0_goOn_6 : decode cX0_goOn 6 = .ok (.istore_n 1, 1) := by decide +kernel
theorem dX0_goOn_7 : decode cX0_goOn 7 = .ok (.iload_n 1, 1) := by decide +kernel
theorem dX0_goOn_8 : decode cX0_goOn 8 = .ok (.ifCond .lt 60, 3) := by decide +kernel
theorem dX0_goOn_11 : decode cX0_goOn 11 = .ok (.aload_n 0, 1) := by decide +kernel
theorem dX0_goOn_12 : decode cX0_goOn 12 = .ok (.getfield 124, 3) := by decide +kernel
theorem dX0_goOn_15 : decode cX0_goOn 15 = .ok (.iconst 1, 1) := by decide +kernel
theorem dX0_goOn_16 : decode cX0_goOn 16 = .ok (.isub, 1) := by decide +kernel
theorem dX0_goOn_17 : decode cX0_goOn 17 = .ok (.istore_n 2, 1) := by decide +kernel
theorem dX0_goOn_18 : decode cX0_goOn 18 = .ok (.iload_n 2, 1) := by decide +kernel
theorem dX0_goOn_19 : decode cX0_goOn 19 = .ok (.ifCond .le 38, 3) := by decide +kernel
theorem dX0_goOn_22 : decode cX0_goOn 22 = .ok (.iload_n 1, 1) := by decide +kernel
theorem dX0_goOn_23 : decode cX0_goOn 23 = .ok (.bipush 6, 2) := by decide +kernel
theorem dX0_goOn_25 : decode cX0_goOn 25 = .ok (.imul, 1) := by decide +kernel
theorem dX0_goOn_26 : decode cX0_goOn 26 = .ok (.iload_n 2, 1) := by decide +kernel
theorem dX0_goOn_27 : decode cX0_goOn 27 = .ok (.iadd, 1) := by decide +kernel
theorem dX0_goOn_28 : decode cX0_goOn 28 = .ok (.istore_n 3, 1) := by decide +kernel
theorem dX0_goOn_29 : decode cX0_goOn 29 = .ok (.aload_n 0, 1) := by decide +kernel
theorem dX0_goOn_30 : decode cX0_goOn 30 = .ok (.iload_n 1, 1) := by decide +kernel
theorem dX0_goOn_31 : decode cX0_goOn 31 = .ok (.iload_n 3, 1) := by decide +kernel
theorem dX0_goOn_32 : decode cX0_goOn 32 = .ok (.aload_n 0, 1) := by decide +kernel
theorem dX0_goOn_33 : decode cX0_goOn 33 = .ok (.getfield 29, 3) := by decide +kernel
theorem dX0_goOn_36 : decode cX0_goOn 36 = .ok (.iload_n 3, 1) := by decide +kernel
theorem dX0_goOn_37 : decode cX0_goOn 37 = .ok (.iconst 1, 1) := by decide +kernel
theorem dX0_goOn_38 : decode cX0_goOn 38 = .ok (.isub, 1) := by decide +kernel
theorem dX0_goOn_39 : decode cX0_goOn 39 = .ok (.iaload, 1) := by decide +kernel
theorem dX0_goOn_40 : decode cX0_goOn 40 = .ok (.aload_n 0, 1) := by decide +kernel
theorem dX0_goOn_41 : decode cX0_goOn 41 = .ok (.getfield 41, 3) := by decide +kernel
theorem dX0_goOn_44 : decode cX0_goOn 44 = .ok (.iload_n 3, 1) := by decide +kernel
theorem dX0_goOn_45 : decode cX0_goOn 45 = .ok (.iconst 1, 1) := by decide +kernel
theorem dX0_goOn_46 : decode cX0_goOn 46 = .ok (.isub, 1) := by decide +kernel
theorem dX0_goOn_47 : decode cX0_goOn 47 = .ok (.baload, 1) := by decide +kernel
theorem dX0_goOn_48 : decode cX0_goOn 48 = .ok (.invokevirtual 162, 3) := by decide +kernel
theorem dX0_goOn_51 : decode cX0_goOn 51 = .ok (.iinc 2 (-1), 3) := by decide +kernel
theorem dX0_goOn_54 : decode cX0_goOn 54 = .ok (.goto (-36), 3) := by decide +kernel
theorem dX0_goOn_57 : decode cX0_goOn 57 = .ok (.aload_n 0, 1) := by decide +kernel
theorem dX0_goOn_58 : decode cX0_goOn 58 = .ok (.iload_n 1, 1) := by decide +kernel
theorem dX0_goOn_59 : decode cX0_goOn 59 = .ok (.invokevirtual 166, 3) := by decide +kernel
theorem dX0_goOn_62 : decode cX0_goOn 62 = .ok (.iinc 1 (-1), 3) := by decide +kernel
theorem dX0_goOn_65 : decode cX0_goOn 65 = .ok (.goto (-58), 3) := by decide +kernel
theorem dX0_goOn_68 : decode cX0_goOn 68 = .ok (.return_, 1) := by decide +kernel
theorem dX0_advance_0 : decode cX0_advance 0 = .ok (.aload_n 0, 1) := by decide +kernel
theorem dX0_advance_1 : decode cX0_advance 1 = .ok (.getfield 29, 3) := by decide +kernel
theorem dX0_advance_4 : decode cX0_advance 4 = .ok (.iload_n 2, 1) := by decide +kernel
theorem dX0_advance_5 : decode cX0_advance 5 = .ok (.iload_n 3, 1) := by decide +kernel
theorem dX0_advance_6 : decode cX0_advance 6 = .ok (.iastore, 1) := by decide +kernel
theorem dX0_advance_7 : decode cX0_advance 7 = .ok (.aload_n 0, 1) := by decide +kernel
theorem dX0_advance_8 : decode cX0_advance 8 = .ok (.getfield 41, 3) := by decide +kernel
theorem dX0_advance_11 : decode cX0_advance 11 = .ok (.iload_n 2, 1) := by decide +kernel
theorem dX0_advance_12 : decode cX0_advance 12 = .ok (.iload 4, 2) := by decide +kernel
theorem dX0_advance_14 : decode cX0_advance 14 = .ok (.bastore, 1) := by decide +kernel
theorem dX0_advance_15 : decode cX0_advance 15 = .ok (.iload 4, 2) := by decide +kernel
theorem dX0_advance_17 : decode cX0_advance 17 = .ok (.ifCond .eq 15, 3) := by decide +kernel
theorem dX0_advance_20 : decode cX0_advance 20 = .ok (.aload_n 0, 1) := by decide +kernel
theorem dX0_advance_21 : decode cX0_advance 21 = .ok (.getfield 35, 3) := by decide +kernel
theorem dX0_advance_24 : decode cX0_advance 24 = .ok (.iload_n 2, 1) := by decide +kernel
theorem dX0_advance_25 : decode cX0_advance 25 = .ok (.aload_n 0, 1) := by decide +kernel
theorem dX0_advance_26 : decode cX0_advance 26 = .ok (.getfield 38, 3) := by decide +kernel
theorem dX0_advance_29 : decode cX0_advance 29 = .ok (.iload_n 2, 1) := by decide +kernel
theorem dX0_advance_30 : decode cX0_advance 30 = .ok (.iaload, 1) := by decide +kernel
theorem dX0_advance_31 : decode cX0_advance 31 = .ok (.iastore, 1) := by decide +kernel
theorem dX0_advance_32 : decode cX0_advance 32 = .ok (.iload_n 1, 1) := by decide +kernel
theorem dX0_advance_33 : decode cX0_advance 33 = .ok (.ifCond .ne 7, 3) := by decide +kernel
theorem dX0_advance_36 : decode cX0_advance 36 = .ok (.iconst 0, 1) := by decide +kernel
theorem dX0_advance_37 : decode cX0_advance 37 = .ok (.goto 12, 3) := by decide +kernel
theorem dX0_advance_40 : decode cX0_advance 40 = .ok (.aload_n 0, 1) := by decide +kernel
theorem dX0_advance_41 : decode cX0_advance 41 = .ok (.getfield 32, 3) := by decide +kernel
theorem dX0_advance_44 : decode cX0_advance 44 = .ok (.iload_n 2, 1) := by decide +kernel
theorem dX0_advance_45 : decode cX0_advance 45 = .ok (.bipush 6, 2) := by decide +kernel
theorem dX0_advance_47 : decode cX0_advance 47 = .ok (.isub, 1) := by decide +kernel
theorem dX0_advance_48 : decode cX0_advance 48 = .ok (.iaload, 1) := by decide +kernel
theorem dX0_advance_49 : decode cX0_advance 49 = .ok (.istore 5, 2) := by decide +kernel
theorem dX0_advance_51 : decode cX0_advance 51 = .ok (.aload_n 0, 1) := by decide +kernel
theorem dX0_advance_52 : decode cX0_advance 52 = .ok (.getfield 32, 3) := by decide +kernel
theorem dX0_advance_55 : decode cX0_advance 55 = .ok (.iload_n 2, 1) := by decide +kernel
theorem dX0_advance_56 : decode cX0_advance 56 = .ok (.iload 5, 2) := by decide +kernel
theorem dX0_advance_58 : decode cX0_advance 58 = .ok (.aload_n 0, 1) := by decide +kernel
theorem dX0_advance_59 : decode cX0_advance 59 = .ok (.getfield 35, 3) := by decide +kernel
theorem dX0_advance_62 : decode cX0_advance 62 = .ok (.iload_n 2, 1) := by decide +kernel
theorem dX0_advance_63 : decode cX0_advance 63 = .ok (.iaload, 1) := by decide +kernel
theorem dX0_advance_64 : decode cX0_advance 64 = .ok (.iload_n 3, 1) := by decide +kernel
theorem dX0_advance_65 : decode cX0_advance 65 = .ok (.imul, 1) := by decide +kernel
theorem dX0_advance_66 : decode cX0_advance 66 = .ok (.iadd, 1) := by decide +kernel
theorem dX0_advance_67 : decode cX0_advance 67 = .ok (.iastore, 1) := by decide +kernel
theorem dX0_advance_68 : decode cX0_advance 68 = .ok (.return_, 1) := by decide +kernel
theorem dX0_feed_0 : decode cX0_feed 0 = .ok (.aload_n 0, 1) := by decide +kernel
theorem dX0_feed_1 : decode cX0_feed 1 = .ok (.getfield 26, 3) := by decide +kernel
theorem dX0_feed_4 : decode cX0_feed 4 = .ok (.iload_n 1, 1) := by decide +kernel
theorem dX0_feed_5 : decode cX0_feed 5 = .ok (.iaload, 1) := by decide +kernel
theorem dX0_feed_6 : decode cX0_feed 6 = .ok (.istore_n 2, 1) := by decide +kernel
theorem dX0_feed_7 : decode cX0_feed 7 = .ok (.iload_n 2, 1) := by decide +kernel
theorem dX0_feed_8 : decode cX0_feed 8 = .ok (.iconst (-1), 1) := by decide +kernel
theorem dX0_feed_9 : decode cX0_feed 9 = .ok (.if_icmp .ne 17, 3) := by decide +kernel
theorem dX0_feed_12 : decode cX0_feed 12 = .ok (.aload_n 0, 1) := by decide +kernel
theorem dX0_feed_13 : decode cX0_feed 13 = .ok (.iload_n 1, 1) := by decide +kernel
theorem dX0_feed_14 : decode cX0_feed 14 = .ok (.iload_n 1, 1) := by decide +kernel
theorem dX0_feed_15 : decode cX0_feed 15 = .ok (.bipush 6, 2) := by decide +kernel
theorem dX0_feed_17 : decode cX0_feed 17 = .ok (.imul, 1) := by decide +kernel
theorem dX0_feed_18 : decode cX0_feed 18 = .ok (.iconst 0, 1) := by decide +kernel
theorem dX0_feed_19 : decode cX0_feed 19 = .ok (.iconst 0, 1) := by decide +kernel
theorem dX0_feed_20 : decode cX0_feed 20 = .ok (.invokevirtual 162, 3) := by decide +kernel
theorem dX0_feed_23 : decode cX0_feed 23 = .ok (.goto 29, 3) := by decide +kernel
theorem dX0_feed_26 : decode cX0_feed 26 = .ok (.aload_n 0, 1) := by decide +kernel
theorem dX0_feed_27 : decode cX0_feed 27 = .ok (.iload_n 1, 1) := by decide +kernel
theorem dX0_feed_28 : decode cX0_feed 28 = .ok (.iload_n 1, 1) := by decide +kernel
theorem dX0_feed_29 : decode cX0_feed 29 = .ok (.bipush 6, 2) := by decide +kernel
theorem dX0_feed_31 : decode cX0_feed 31 = .ok (.imul, 1) := by decide +kernel
theorem dX0_feed_32 : decode cX0_feed 32 = .ok (.aload_n 0, 1) := by decide +kernel
theorem dX0_feed_33 : decode cX0_feed 33 = .ok (.getfield 13, 3) := by decide +kernel
theorem dX0_feed_36 : decode cX0_feed 36 = .ok (.iload_n 2, 1) := by decide +kernel
theorem dX0_feed_37 : decode cX0_feed 37 = .ok (.bipush 6, 2) := by decide +kernel
theorem dX0_feed_39 : decode cX0_feed 39 = .ok (.imul, 1) := by decide +kernel
theorem dX0_feed_40 : decode cX0_feed 40 = .ok (.iload_n 1, 1) := by decide +kernel
theorem dX0_feed_41 : decode cX0_feed 41 = .ok (.iadd, 1) := by decide +kernel
theorem dX0_feed_42 : decode cX0_feed 42 = .ok (.iaload, 1) := by decide +kernel
theorem dX0_feed_43 : decode cX0_feed 43 = .ok (.aload_n 0, 1) := by decide +kernel
theorem dX0_feed_44 : decode cX0_feed 44 = .ok (.getfield 19, 3) := by decide +kernel
theorem dX0_feed_47 : decode cX0_feed 47 = .ok (.iload_n 2, 1) := by decide +kernel
theorem dX0_feed_48 : decode cX0_feed 48 = .ok (.baload, 1) := by decide +kernel
theorem dX0_feed_49 : decode cX0_feed 49 = .ok (.invokevirtual 162, 3) := by decide +kernel
theorem dX0_feed_52 : decode cX0_feed 52 = .ok (.return_, 1) := by decide +kernel
theorem dX0_keepResults_0 : decode cX0_keepResults 0 = .ok (.aload_n 0, 1) := by decide +kernel
theorem dX0_keepResults_1 : decode cX0_keepResults 1 = .ok (.getfield 124, 3) := by decide +kernel
theorem dX0_keepResults_4 : decode cX0_keepResults 4 = .ok (.iconst 1, 1) := by decide +kernel
theorem dX0_keepResults_5 : decode cX0_keepResults 5 = .ok (.isub, 1) := by decide +kernel
theorem dX0_keepResults_6 : decode cX0_keepResults 6 = .ok (.istore_n 1, 1) := by decide +kernel
theorem dX0_keepResults_7 : decode cX0_keepResults 7 = .ok (.iconst 0, 1) := by decide +kernel
theorem dX0_keepResults_8 : decode cX0_keepResults 8 = .ok (.istore_n 2, 1) := by decide +kernel
theorem dX0_keepResults_9 : decode cX0_keepResults 9 = .ok (.iload_n 2, 1) := by decide +kernel
theorem dX0_keepResults_10 : decode cX0_keepResults 10 = .ok (.aload_n 0, 1) := by decide +kernel
theorem dX0_keepResults_11 : decode cX0_keepResults 11 = .ok (.getfield 124, 3) := by decide +kernel
theorem dX0_keepResults_14 : decode cX0_keepResults 14 = .ok (.if_icmp .ge 45, 3) := by decide +kernel
theorem dX0_keepResults_17 : decode cX0_keepResults 17 = .ok (.aload_n 0, 1) := by decide +kernel
theorem dX0_keepResults_18 : decode cX0_keepResults 18 = .ok (.getfield 26, 3) := by decide +kernel
theorem dX0_keepResults_21 : decode cX0_keepResults 21 = .ok (.iload_n 1, 1) := by decide +kernel
theorem dX0_keepResults_22 : decode cX0_keepResults 22 = .ok (.iload_n 2, 1) := by decide +kernel
theorem dX0_keepResults_23 : decode cX0_keepResults 23 = .ok (.iadd, 1) := by decide +kernel
theorem dX0_keepResults_24 : decode cX0_keepResults 24 = .ok (.iaload, 1) := by decide +kernel
theorem dX0_keepResults_25 : decode cX0_keepResults 25 = .ok (.istore_n 3, 1) := by decide +kernel
theorem dX0_keepResults_26 : decode cX0_keepResults 26 = .ok (.iload_n 3, 1) := by decide +kernel
theorem dX0_keepResults_27 : decode cX0_keepResults 27 = .ok (.iconst (-1), 1) := by decide +kernel
theorem dX0_keepResults_28 : decode cX0_keepResults 28 = .ok (.if_icmp .eq 25, 3) := by decide +kernel
theorem dX0_keepResults_31 : decode cX0_keepResults 31 = .ok (.aload_n 0, 1) := by decide +kernel
theorem dX0_keepResults_32 : decode cX0_keepResults 32 = .ok (.getfield 16, 3) := by decide +kernel
theorem dX0_keepResults_35 : decode cX0_keepResults 35 = .ok (.iload_n 3, 1) := by decide +kernel
theorem dX0_keepResults_36 : decode cX0_keepResults 36 = .ok (.bipush 6, 2) := by decide +kernel
theorem dX0_keepResults_38 : decode cX0_keepResults 38 = .ok (.imul, 1) := by decide +kernel
theorem dX0_keepResults_39 : decode cX0_keepResults 39 = .ok (.iload_n 2, 1) := by decide +kernel
theorem dX0_keepResults_40 : decode cX0_keepResults 40 = .ok (.iadd, 1) := by decide +kernel
theorem dX0_keepResults_41 : decode cX0_keepResults 41 = .ok (.aload_n 0, 1) := by decide +kernel
theorem dX0_keepResults_42 : decode cX0_keepResults 42 = .ok (.getfield 32, 3) := by decide +kernel
theorem dX0_keepResults_45 : decode cX0_keepResults 45 = .ok (.iload_n 1, 1) := by decide +kernel
theorem dX0_keepResults_46 : decode cX0_keepResults 46 = .ok (.bipush 6, 2) := by decide +kernel
theorem dX0_keepResults_48 : decode cX0_keepResults 48 = .ok (.imul, 1) := by decide +kernel
theorem dX0_keepResults_49 : decode cX0_keepResults 49 = .ok (.iload_n 2, 1) := by decide +kernel
theorem dX0_keepResults_50 : decode cX0_keepResults 50 = .ok (.iadd, 1) := by decide +kernel
theorem dX0_keepResults_51 : decode cX0_keepResults 51 = .ok (.iaload, 1) := by decide +kernel
theorem dX0_keepResults_52 : decode cX0_keepResults 52 = .ok (.iastore, 1) := by decide +kernel
theorem dX0_keepResults_53 : decode cX0_keepResults 53 = .ok (.iinc 2 1, 3) := by decide +kernel
theorem dX0_keepResults_56 : decode cX0_keepResults 56 = .ok (.goto (-47), 3) := by decide +kernel
theorem dX0_keepResults_59 : decode cX0_keepResults 59 = .ok (.return_, 1) := by decide +kernel
theorem dL_cell_0 : decode cL_cell 0 = .ok (.aload 4, 2) := by decide +kernel
theorem dL_cell_2 : decode cL_cell 2 = .ok (.iconst 0, 1) := by decide +kernel
theorem dL_cell_3 : decode cL_cell 3 = .ok (.aload_n 0, 1) := by decide +kernel
theorem dL_cell_4 : decode cL_cell 4 = .ok (.iload_n 1, 1) := by decide +kernel
theorem dL_cell_5 : decode cL_cell 5 = .ok (.iload_n 2, 1) := by decide +kernel
theorem dL_cell_6 : decode cL_cell 6 = .ok (.iload_n 3, 1) := by decide +kernel
theorem dL_cell_7 : decode cL_cell 7 = .ok (.invokevirtual 29, 3) := by decide +kernel
theorem dL_cell_10 : decode cL_cell 10 = .ok (.i2l, 1) := by decide +kernel
theorem dL_cell_11 : decode cL_cell 11 = .ok (.lastore, 1) := by decide +kernel
theorem dL_cell_12 : decode cL_cell 12 = .ok (.goto 11, 3) := by decide +kernel
theorem dL_cell_15 : decode cL_cell 15 = .ok (.astore 5, 2) := by decide +kernel
theorem dL_cell_17 : decode cL_cell 17 = .ok (.iconst 1, 1) := by decide +kernel
theorem dL_cell_18 : decode cL_cell 18 = .ok (.ireturn, 1) := by decide +kernel
theorem dL_cell_19 : decode cL_cell 19 = .ok (.astore 5, 2) := by decide +kernel
theorem dL_cell_21 : decode cL_cell 21 = .ok (.iconst 2, 1) := by decide +kernel
theorem dL_cell_22 : decode cL_cell 22 = .ok (.ireturn, 1) := by decide +kernel
theorem dL_cell_23 : decode cL_cell 23 = .ok (.iconst 0, 1) := by decide +kernel
theorem dL_cell_24 : decode cL_cell 24 = .ok (.ireturn, 1) := by decide +kernel
theorem dX0_cell_0 : decode cX0_cell 0 = .ok (.aload_n 0, 1) := by decide +kernel
theorem dX0_cell_1 : decode cX0_cell 1 = .ok (.iload_n 1, 1) := by decide +kernel
theorem dX0_cell_2 : decode cX0_cell 2 = .ok (.invokevirtual 82, 3) := by decide +kernel
theorem dX0_cell_5 : decode cX0_cell 5 = .ok (.ifCond .eq 11, 3) := by decide +kernel
theorem dX0_cell_8 : decode cX0_cell 8 = .ok (.aload_n 0, 1) := by decide +kernel
theorem dX0_cell_9 : decode cX0_cell 9 = .ok (.iload_n 2, 1) := by decide +kernel
theorem dX0_cell_10 : decode cX0_cell 10 = .ok (.invokevirtual 82, 3) := by decide +kernel
theorem dX0_cell_13 : decode cX0_cell 13 = .ok (.ifCond .ne 13, 3) := by decide +kernel
theorem dX0_cell_16 : decode cX0_cell 16 = .ok (.new 86, 3) := by decide +kernel
theorem dX0_cell_19 : decode cX0_cell 19 = .ok (.dup, 1) := by decide +kernel
theorem dX0_cell_20 : decode cX0_cell 20 = .ok (.ldc 88, 2) := by decide +kernel
theorem dX0_cell_22 : decode cX0_cell 22 = .ok (.invokespecial 90, 3) := by decide +kernel
theorem dX0_cell_25 : decode cX0_cell 25 = .ok (.athrow, 1) := by decide +kernel
theorem dX0_cell_26 : decode cX0_cell 26 = .ok (.iload_n 1, 1) := by decide +kernel
theorem dX0_cell_27 : decode cX0_cell 27 = .ok (.bipush 6, 2) := by decide +kernel
theorem dX0_cell_29 : decode cX0_cell 29 = .ok (.imul, 1) := by decide +kernel
theorem dX0_cell_30 : decode cX0_cell 30 = .ok (.iload_n 2, 1) := by decide +kernel
theorem dX0_cell_31 : decode cX0_cell 31 = .ok (.iadd, 1) := by decide +kernel
theorem dX0_cell_32 : decode cX0_cell 32 = .ok (.istore 4, 2) := by decide +kernel
theorem dX0_cell_34 : decode cX0_cell 34 = .ok (.iload_n 3, 1) := by decide +kernel
theorem dX0_cell_35 : decode cX0_cell 35 = .ok (.tableswitch 81 0 4 #[33, 41, 49, 57, 65], 33) := by decide +kernel
theorem dX0_cell_68 : decode cX0_cell 68 = .ok (.aload_n 0, 1) := by decide +kernel
theorem dX0_cell_69 : decode cX0_cell 69 = .ok (.getfield 29, 3) := by decide +kernel
theorem dX0_cell_72 : decode cX0_cell 72 = .ok (.iload 4, 2) := by decide +kernel
theorem dX0_cell_74 : decode cX0_cell 74 = .ok (.iaload, 1) := by decide +kernel
theorem dX0_cell_75 : decode cX0_cell 75 = .ok (.ireturn, 1) := by decide +kernel
theorem dX0_cell_76 : decode cX0_cell 76 = .ok (.aload_n 0, 1) := by decide +kernel
theorem dX0_cell_77 : decode cX0_cell 77 = .ok (.getfield 32, 3) := by decide +kernel
theorem dX0_cell_80 : decode cX0_cell 80 = .ok (.iload 4, 2) := by decide +kernel
theorem dX0_cell_82 : decode cX0_cell 82 = .ok (.iaload, 1) := by decide +kernel
theorem dX0_cell_83 : decode cX0_cell 83 = .ok (.ireturn, 1) := by decide +kernel
theorem dX0_cell_84 : decode cX0_cell 84 = .ok (.aload_n 0, 1) := by decide +kernel
theorem dX0_cell_85 : decode cX0_cell 85 = .ok (.getfield 35, 3) := by decide +kernel
theorem dX0_cell_88 : decode cX0_cell 88 = .ok (.iload 4, 2) := by decide +kernel
theorem dX0_cell_90 : decode cX0_cell 90 = .ok (.iaload, 1) := by decide +kernel
theorem dX0_cell_91 : decode cX0_cell 91 = .ok (.ireturn, 1) := by decide +kernel
theorem dX0_cell_92 : decode cX0_cell 92 = .ok (.aload_n 0, 1) := by decide +kernel
theorem dX0_cell_93 : decode cX0_cell 93 = .ok (.getfield 38, 3) := by decide +kernel
theorem dX0_cell_96 : decode cX0_cell 96 = .ok (.iload 4, 2) := by decide +kernel
theorem dX0_cell_98 : decode cX0_cell 98 = .ok (.iaload, 1) := by decide +kernel
theorem dX0_cell_99 : decode cX0_cell 99 = .ok (.ireturn, 1) := by decide +kernel
theorem dX0_cell_100 : decode cX0_cell 100 = .ok (.aload_n 0, 1) := by decide +kernel
theorem dX0_cell_101 : decode cX0_cell 101 = .ok (.getfield 41, 3) := by decide +kernel
theorem dX0_cell_104 : decode cX0_cell 104 = .ok (.iload 4, 2) := by decide +kernel
theorem dX0_cell_106 : decode cX0_cell 106 = .ok (.baload, 1) := by decide +kernel
theorem dX0_cell_107 : decode cX0_cell 107 = .ok (.ifCond .eq 7, 3) := by decide +kernel
theorem dX0_cell_110 : decode cX0_cell 110 = .ok (.iconst 1, 1) := by decide +kernel
theorem dX0_cell_111 : decode cX0_cell 111 = .ok (.goto 4, 3) := by decide +kernel
theorem dX0_cell_114 : decode cX0_cell 114 = .ok (.iconst 0, 1) := by decide +kernel
theorem dX0_cell_115 : decode cX0_cell 115 = .ok (.ireturn, 1) := by decide +kernel
theorem dX0_cell_116 : decode cX0_cell 116 = .ok (.new 48, 3) := by decide +kernel
theorem dX0_cell_119 : decode cX0_cell 119 = .ok (.dup, 1) := by decide +kernel
theorem dX0_cell_120 : decode cX0_cell 120 = .ok (.ldc 91, 2) := by decide +kernel
theorem dX0_cell_122 : decode cX0_cell 122 = .ok (.invokespecial 52, 3) := by decide +kernel
theorem dX0_cell_125 : decode cX0_cell 125 = .ok (.athrow, 1) := by decide +kernel
theorem dX0_isInSquare_0 : decode cX0_isInSquare 0 = .ok (.iload_n 1, 1) := by decide +kernel
theorem dX0_isInSquare_1 : decode cX0_isInSquare 1 = .ok (.ifCond .lt 15, 3) := by decide +kernel
theorem dX0_isInSquare_4 : decode cX0_isInSquare 4 = .ok (.iload_n 1, 1) := by decide +kernel
theorem dX0_isInSquare_5 : decode cX0_isInSquare 5 = .ok (.aload_n 0, 1) := by decide +kernel
theorem dX0_isInSquare_6 : decode cX0_isInSquare 6 = .ok (.getfield 124, 3) := by decide +kernel
theorem dX0_isInSquare_9 : decode cX0_isInSquare 9 = .ok (.if_icmp .ge 7, 3) := by decide +kernel
theorem dX0_isInSquare_12 : decode cX0_isInSquare 12 = .ok (.iconst 1, 1) := by decide +kernel
theorem dX0_isInSquare_13 : decode cX0_isInSquare 13 = .ok (.goto 4, 3) := by decide +kernel
theorem dX0_isInSquare_16 : decode cX0_isInSquare 16 = .ok (.iconst 0, 1) := by decide +kernel
theorem dX0_isInSquare_17 : decode cX0_isInSquare 17 = .ok (.ireturn, 1) := by decide +kernel
theorem dL_entered_0 : decode cL_entered 0 = .ok (.aload_n 2, 1) := by decide +kernel
theorem dL_entered_1 : decode cL_entered 1 = .ok (.iconst 0, 1) := by decide +kernel
theorem dL_entered_2 : decode cL_entered 2 = .ok (.aload_n 0, 1) := by decide +kernel
theorem dL_entered_3 : decode cL_entered 3 = .ok (.iload_n 1, 1) := by decide +kernel
theorem dL_entered_4 : decode cL_entered 4 = .ok (.invokevirtual 35, 3) := by decide +kernel
theorem dL_entered_7 : decode cL_entered 7 = .ok (.i2l, 1) := by decide +kernel
theorem dL_entered_8 : decode cL_entered 8 = .ok (.lastore, 1) := by decide +kernel
theorem dL_entered_9 : decode cL_entered 9 = .ok (.goto 6, 3) := by decide +kernel
theorem dL_entered_12 : decode cL_entered 12 = .ok (.astore_n 3, 1) := by decide +kernel
theorem dL_entered_13 : decode cL_entered 13 = .ok (.iconst 1, 1) := by decide +kernel
theorem dL_entered_14 : decode cL_entered 14 = .ok (.ireturn, 1) := by decide +kernel
theorem dL_entered_15 : decode cL_entered 15 = .ok (.iconst 0, 1) := by decide +kernel
theorem dL_entered_16 : decode cL_entered 16 = .ok (.ireturn, 1) := by decide +kernel
theorem dX0_entered_0 : decode cX0_entered 0 = .ok (.aload_n 0, 1) := by decide +kernel
theorem dX0_entered_1 : decode cX0_entered 1 = .ok (.iload_n 1, 1) := by decide +kernel
theorem dX0_entered_2 : decode cX0_entered 2 = .ok (.invokevirtual 93, 3) := by decide +kernel
theorem dX0_entered_5 : decode cX0_entered 5 = .ok (.ifCond .ne 13, 3) := by decide +kernel
theorem dX0_entered_8 : decode cX0_entered 8 = .ok (.new 86, 3) := by decide +kernel
theorem dX0_entered_11 : decode cX0_entered 11 = .ok (.dup, 1) := by decide +kernel
theorem dX0_entered_12 : decode cX0_entered 12 = .ok (.ldc 96, 2) := by decide +kernel
theorem dX0_entered_14 : decode cX0_entered 14 = .ok (.invokespecial 90, 3) := by decide +kernel
theorem dX0_entered_17 : decode cX0_entered 17 = .ok (.athrow, 1) := by decide +kernel
theorem dX0_entered_18 : decode cX0_entered 18 = .ok (.iload_n 1, 1) := by decide +kernel
theorem dX0_entered_19 : decode cX0_entered 19 = .ok (.aload_n 0, 1) := by decide +kernel
theorem dX0_entered_20 : decode cX0_entered 20 = .ok (.getfield 98, 3) := by decide +kernel
theorem dX0_entered_23 : decode cX0_entered 23 = .ok (.if_icmp .ge 12, 3) := by decide +kernel
theorem dX0_entered_26 : decode cX0_entered 26 = .ok (.aload_n 0, 1) := by decide +kernel
theorem dX0_entered_27 : decode cX0_entered 27 = .ok (.getfield 23, 3) := by decide +kernel
theorem dX0_entered_30 : decode cX0_entered 30 = .ok (.iload_n 1, 1) := by decide +kernel
theorem dX0_entered_31 : decode cX0_entered 31 = .ok (.iaload, 1) := by decide +kernel
theorem dX0_entered_32 : decode cX0_entered 32 = .ok (.goto 4, 3) := by decide +kernel
theorem dX0_entered_35 : decode cX0_entered 35 = .ok (.iconst (-1), 1) := by decide +kernel
theorem dX0_entered_36 : decode cX0_entered 36 = .ok (.ireturn, 1) := by decide +kernel
theorem dX0_isVector_0 : decode cX0_isVector 0 = .ok (.iload_n 1, 1) := by decide +kernel
theorem dX0_isVector_1 : decode cX0_isVector 1 = .ok (.ifCond .lt 15, 3) := by decide +kernel
theorem dX0_isVector_4 : decode cX0_isVector 4 = .ok (.iload_n 1, 1) := by decide +kernel
theorem dX0_isVector_5 : decode cX0_isVector 5 = .ok (.aload_n 0, 1) := by decide +kernel
theorem dX0_isVector_6 : decode cX0_isVector 6 = .ok (.getfield 64, 3) := by decide +kernel
theorem dX0_isVector_9 : decode cX0_isVector 9 = .ok (.if_icmp .ge 7, 3) := by decide +kernel
theorem dX0_isVector_12 : decode cX0_isVector 12 = .ok (.iconst 1, 1) := by decide +kernel
theorem dX0_isVector_13 : decode cX0_isVector 13 = .ok (.goto 4, 3) := by decide +kernel
theorem dX0_isVector_16 : decode cX0_isVector 16 = .ok (.iconst 0, 1) := by decide +kernel
theorem dX0_isVector_17 : decode cX0_isVector 17 = .ok (.ireturn, 1) := by decide +kernel
theorem dL_result_0 : decode cL_result 0 = .ok (.aload_n 3, 1) := by decide +kernel
theorem dL_result_1 : decode cL_result 1 = .ok (.iconst 0, 1) := by decide +kernel
theorem dL_result_2 : decode cL_result 2 = .ok (.aload_n 0, 1) := by decide +kernel
theorem dL_result_3 : decode cL_result 3 = .ok (.iload_n 1, 1) := by decide +kernel
theorem dL_result_4 : decode cL_result 4 = .ok (.iload_n 2, 1) := by decide +kernel
theorem dL_result_5 : decode cL_result 5 = .ok (.invokevirtual 38, 3) := by decide +kernel
theorem dL_result_8 : decode cL_result 8 = .ok (.i2l, 1) := by decide +kernel
theorem dL_result_9 : decode cL_result 9 = .ok (.lastore, 1) := by decide +kernel
theorem dL_result_10 : decode cL_result 10 = .ok (.goto 11, 3) := by decide +kernel
theorem dL_result_13 : decode cL_result 13 = .ok (.astore 4, 2) := by decide +kernel
theorem dL_result_15 : decode cL_result 15 = .ok (.iconst 1, 1) := by decide +kernel
theorem dL_result_16 : decode cL_result 16 = .ok (.ireturn, 1) := by decide +kernel
theorem dL_result_17 : decode cL_result 17 = .ok (.astore 4, 2) := by decide +kernel
theorem dL_result_19 : decode cL_result 19 = .ok (.iconst 2, 1) := by decide +kernel
theorem dL_result_20 : decode cL_result 20 = .ok (.ireturn, 1) := by decide +kernel
theorem dL_result_21 : decode cL_result 21 = .ok (.iconst 0, 1) := by decide +kernel
theorem dL_result_22 : decode cL_result 22 = .ok (.ireturn, 1) := by decide +kernel
theorem dX0_result_0 : decode cX0_result 0 = .ok (.aload_n 0, 1) := by decide +kernel
theorem dX0_result_1 : decode cX0_result 1 = .ok (.iload_n 1, 1) := by decide +kernel
theorem dX0_result_2 : decode cX0_result 2 = .ok (.invokevirtual 93, 3) := by decide +kernel
theorem dX0_result_5 : decode cX0_result 5 = .ok (.ifCond .eq 11, 3) := by decide +kernel
theorem dX0_result_8 : decode cX0_result 8 = .ok (.aload_n 0, 1) := by decide +kernel
theorem dX0_result_9 : decode cX0_result 9 = .ok (.iload_n 2, 1) := by decide +kernel
theorem dX0_result_10 : decode cX0_result 10 = .ok (.invokevirtual 82, 3) := by decide +kernel
theorem dX0_result_13 : decode cX0_result 13 = .ok (.ifCond .ne 13, 3) := by decide +kernel
theorem dX0_result_16 : decode cX0_result 16 = .ok (.new 86, 3) := by decide +kernel
theorem dX0_result_19 : decode cX0_result 19 = .ok (.dup, 1) := by decide +kernel
theorem dX0_result_20 : decode cX0_result 20 = .ok (.ldc 101, 2) := by decide +kernel
theorem dX0_result_22 : decode cX0_result 22 = .ok (.invokespecial 90, 3) := by decide +kernel
theorem dX0_result_25 : decode cX0_result 25 = .ok (.athrow, 1) := by decide +kernel
theorem dX0_result_26 : decode cX0_result 26 = .ok (.iload_n 1, 1) := by decide +kernel
theorem dX0_result_27 : decode cX0_result 27 = .ok (.aload_n 0, 1) := by decide +kernel
theorem dX0_result_28 : decode cX0_result 28 = .ok (.getfield 98, 3) := by decide +kernel
theorem dX0_result_31 : decode cX0_result 31 = .ok (.if_icmp .ge 21, 3) := by decide +kernel
theorem dX0_result_34 : decode cX0_result 34 = .ok (.aload_n 0, 1) := by decide +kernel
theorem dX0_result_35 : decode cX0_result 35 = .ok (.getfield 70, 3) := by decide +kernel
theorem dX0_result_38 : decode cX0_result 38 = .ok (.aload_n 0, 1) := by decide +kernel
theorem dX0_result_39 : decode cX0_result 39 = .ok (.getfield 23, 3) := by decide +kernel
theorem dX0_result_42 : decode cX0_result 42 = .ok (.iload_n 1, 1) := by decide +kernel
theorem dX0_result_43 : decode cX0_result 43 = .ok (.iaload, 1) := by decide +kernel
theorem dX0_result_44 : decode cX0_result 44 = .ok (.isub, 1) := by decide +kernel
theorem dX0_result_45 : decode cX0_result 45 = .ok (.aload_n 0, 1) := by decide +kernel
theorem dX0_result_46 : decode cX0_result 46 = .ok (.invokevirtual 103, 3) := by decide +kernel
theorem dX0_result_49 : decode cX0_result 49 = .ok (.if_icmp .ge 13, 3) := by decide +kernel
theorem dX0_result_52 : decode cX0_result 52 = .ok (.new 107, 3) := by decide +kernel
theorem dX0_result_55 : decode cX0_result 55 = .ok (.dup, 1) := by decide +kernel
theorem dX0_result_56 : decode cX0_result 56 = .ok (.ldc 109, 2) := by decide +kernel
theorem dX0_result_58 : decode cX0_result 58 = .ok (.invokespecial 111, 3) := by decide +kernel
theorem dX0_result_61 : decode cX0_result 61 = .ok (.athrow, 1) := by decide +kernel
theorem dX0_result_62 : decode cX0_result 62 = .ok (.aload_n 0, 1) := by decide +kernel
theorem dX0_result_63 : decode cX0_result 63 = .ok (.getfield 16, 3) := by decide +kernel
theorem dX0_result_66 : decode cX0_result 66 = .ok (.iload_n 1, 1) := by decide +kernel
theorem dX0_result_67 : decode cX0_result 67 = .ok (.bipush 6, 2) := by decide +kernel
theorem dX0_result_69 : decode cX0_result 69 = .ok (.imul, 1) := by decide +kernel
theorem dX0_result_70 : decode cX0_result 70 = .ok (.iload_n 2, 1) := by decide +kernel
theorem dX0_result_71 : decode cX0_result 71 = .ok (.iadd, 1) := by decide +kernel
theorem dX0_result_72 : decode cX0_result 72 = .ok (.iaload, 1) := by decide +kernel
theorem dX0_result_73 : decode cX0_result 73 = .ok (.ireturn, 1) := by decide +kernel
theorem dL_about_0 : decode cL_about 0 = .ok (.aload_n 2, 1) := by decide +kernel
theorem dL_about_1 : decode cL_about 1 = .ok (.iconst 0, 1) := by decide +kernel
theorem dL_about_2 : decode cL_about 2 = .ok (.aload_n 0, 1) := by decide +kernel
theorem dL_about_3 : decode cL_about 3 = .ok (.iload_n 1, 1) := by decide +kernel
theorem dL_about_4 : decode cL_about 4 = .ok (.invokevirtual 44, 3) := by decide +kernel
theorem dL_about_7 : decode cL_about 7 = .ok (.i2l, 1) := by decide +kernel
theorem dL_about_8 : decode cL_about 8 = .ok (.lastore, 1) := by decide +kernel
theorem dL_about_9 : decode cL_about 9 = .ok (.goto 6, 3) := by decide +kernel
theorem dL_about_12 : decode cL_about 12 = .ok (.astore_n 3, 1) := by decide +kernel
theorem dL_about_13 : decode cL_about 13 = .ok (.iconst 1, 1) := by decide +kernel
theorem dL_about_14 : decode cL_about 14 = .ok (.ireturn, 1) := by decide +kernel
theorem dL_about_15 : decode cL_about 15 = .ok (.iconst 0, 1) := by decide +kernel
theorem dL_about_16 : decode cL_about 16 = .ok (.ireturn, 1) := by decide +kernel
theorem dX0_about_0 : decode cX0_about 0 = .ok (.iload_n 1, 1) := by decide +kernel
theorem dX0_about_1 : decode cX0_about 1 = .ok (.tableswitch 96 0 6 #[43, 48, 58, 68, 73, 86, 91], 43) := by decide +kernel
theorem dX0_about_44 : decode cX0_about 44 = .ok (.aload_n 0, 1) := by decide +kernel
theorem dX0_about_45 : decode cX0_about 45 = .ok (.getfield 70, 3) := by decide +kernel
theorem dX0_about_48 : decode cX0_about 48 = .ok (.ireturn, 1) := by decide +kernel
theorem dX0_about_49 : decode cX0_about 49 = .ok (.aload_n 0, 1) := by decide +kernel
theorem dX0_about_50 : decode cX0_about 50 = .ok (.getfield 64, 3) := by decide +kernel
theorem dX0_about_53 : decode cX0_about 53 = .ok (.aload_n 0, 1) := by decide +kernel
theorem dX0_about_54 : decode cX0_about 54 = .ok (.getfield 98, 3) := by decide +kernel
theorem dX0_about_57 : decode cX0_about 57 = .ok (.isub, 1) := by decide +kernel
theorem dX0_about_58 : decode cX0_about 58 = .ok (.ireturn, 1) := by decide +kernel
theorem dX0_about_59 : decode cX0_about 59 = .ok (.aload_n 0, 1) := by decide +kernel
theorem dX0_about_60 : decode cX0_about 60 = .ok (.getfield 55, 3) := by decide +kernel
theorem dX0_about_63 : decode cX0_about 63 = .ok (.aload_n 0, 1) := by decide +kernel
theorem dX0_about_64 : decode cX0_about 64 = .ok (.getfield 112, 3) := by decide +kernel
theorem dX0_about_67 : decode cX0_about 67 = .ok (.isub, 1) := by decide +kernel
theorem dX0_about_68 : decode cX0_about 68 = .ok (.ireturn, 1) := by decide +kernel
theorem dX0_about_69 : decode cX0_about 69 = .ok (.aload_n 0, 1) := by decide +kernel
theorem dX0_about_70 : decode cX0_about 70 = .ok (.getfield 115, 3) := by decide +kernel
theorem dX0_about_73 : decode cX0_about 73 = .ok (.ireturn, 1) := by decide +kernel
theorem dX0_about_74 : decode cX0_about 74 = .ok (.aload_n 0, 1) := by decide +kernel
theorem dX0_about_75 : decode cX0_about 75 = .ok (.invokevirtual 118, 3) := by decide +kernel
theorem dX0_about_78 : decode cX0_about 78 = .ok (.ifCond .eq 7, 3) := by decide +kernel
theorem dX0_about_81 : decode cX0_about 81 = .ok (.iconst 1, 1) := by decide +kernel
theorem dX0_about_82 : decode cX0_about 82 = .ok (.goto 4, 3) := by decide +kernel
theorem dX0_about_85 : decode cX0_about 85 = .ok (.iconst 0, 1) := by decide +kernel
theorem dX0_about_86 : decode cX0_about 86 = .ok (.ireturn, 1) := by decide +kernel
theorem dX0_about_87 : decode cX0_about 87 = .ok (.aload_n 0, 1) := by decide +kernel
theorem dX0_about_88 : decode cX0_about 88 = .ok (.invokevirtual 121, 3) := by decide +kernel
theorem dX0_about_91 : decode cX0_about 91 = .ok (.ireturn, 1) := by decide +kernel
theorem dX0_about_92 : decode cX0_about 92 = .ok (.aload_n 0, 1) := by decide +kernel
theorem dX0_about_93 : decode cX0_about 93 = .ok (.getfield 124, 3) := by decide +kernel
theorem dX0_about_96 : decode cX0_about 96 = .ok (.ireturn, 1) := by decide +kernel
theorem dX0_about_97 : decode cX0_about 97 = .ok (.new 48, 3) := by decide +kernel
theorem dX0_about_100 : decode cX0_about 100 = .ok (.dup, 1) := by decide +kernel
theorem dX0_about_101 : decode cX0_about 101 = .ok (.ldc 127, 2) := by decide +kernel
theorem dX0_about_103 : decode cX0_about 103 = .ok (.invokespecial 52, 3) := by decide +kernel
theorem dX0_about_106 : decode cX0_about 106 = .ok (.athrow, 1) := by decide +kernel
theorem dX1_init_0 : decode cX1_init 0 = .ok (.aload_n 0, 1) := by decide +kernel
theorem dX1_init_1 : decode cX1_init 1 = .ok (.invokespecial 1, 3) := by decide +kernel
theorem dX1_init_4 : decode cX1_init 4 = .ok (.aload_n 0, 1) := by decide +kernel
theorem dX1_init_5 : decode cX1_init 5 = .ok (.iconst 1, 1) := by decide +kernel
theorem dX1_init_6 : decode cX1_init 6 = .ok (.putfield 7, 3) := by decide +kernel
theorem dX1_init_9 : decode cX1_init 9 = .ok (.aload_n 0, 1) := by decide +kernel
theorem dX1_init_10 : decode cX1_init 10 = .ok (.sipush 720, 3) := by decide +kernel
theorem dX1_init_13 : decode cX1_init 13 = .ok (.newarray .int, 2) := by decide +kernel
theorem dX1_init_15 : decode cX1_init 15 = .ok (.putfield 13, 3) := by decide +kernel
theorem dX1_init_18 : decode cX1_init 18 = .ok (.aload_n 0, 1) := by decide +kernel
theorem dX1_init_19 : decode cX1_init 19 = .ok (.sipush 1200, 3) := by decide +kernel
theorem dX1_init_22 : decode cX1_init 22 = .ok (.newarray .int, 2) := by decide +kernel
theorem dX1_init_24 : decode cX1_init 24 = .ok (.putfield 17, 3) := by decide +kernel
theorem dX1_init_27 : decode cX1_init 27 = .ok (.aload_n 0, 1) := by decide +kernel
theorem dX1_init_28 : decode cX1_init 28 = .ok (.sipush 200, 3) := by decide +kernel
theorem dX1_init_31 : decode cX1_init 31 = .ok (.newarray .boolean, 2) := by decide +kernel
theorem dX1_init_33 : decode cX1_init 33 = .ok (.putfield 20, 3) := by decide +kernel
theorem dX1_init_36 : decode cX1_init 36 = .ok (.aload_n 0, 1) := by decide +kernel
theorem dX1_init_37 : decode cX1_init 37 = .ok (.sipush 200, 3) := by decide +kernel
theorem dX1_init_40 : decode cX1_init 40 = .ok (.newarray .int, 2) := by decide +kernel
theorem dX1_init_42 : decode cX1_init 42 = .ok (.putfield 24, 3) := by decide +kernel
theorem dX1_init_45 : decode cX1_init 45 = .ok (.aload_n 0, 1) := by decide +kernel
theorem dX1_init_46 : decode cX1_init 46 = .ok (.sipush 1200, 3) := by decide +kernel
theorem dX1_init_49 : decode cX1_init 49 = .ok (.newarray .int, 2) := by decide +kernel
theorem dX1_init_51 : decode cX1_init 51 = .ok (.putfield 27, 3) := by decide +kernel
theorem dX1_init_54 : decode cX1_init 54 = .ok (.aload_n 0, 1) := by decide +kernel
theorem dX1_init_55 : decode cX1_init 55 = .ok (.bipush 16, 2) := by decide +kernel
theorem dX1_init_57 : decode cX1_init 57 = .ok (.newarray .int, 2) := by decide +kernel
theorem dX1_init_59 : decode cX1_init 59 = .ok (.putfield 30, 3) := by decide +kernel
theorem dX1_init_62 : decode cX1_init 62 = .ok (.aload_n 0, 1) := by decide +kernel
theorem dX1_init_63 : decode cX1_init 63 = .ok (.bipush 36, 2) := by decide +kernel
theorem dX1_init_65 : decode cX1_init 65 = .ok (.newarray .int, 2) := by decide +kernel
theorem dX1_init_67 : decode cX1_init 67 = .ok (.putfield 33, 3) := by decide +kernel
theorem dX1_init_70 : decode cX1_init 70 = .ok (.aload_n 0, 1) := by decide +kernel
theorem dX1_init_71 : decode cX1_init 71 = .ok (.bipush 36, 2) := by decide +kernel
theorem dX1_init_73 : decode cX1_init 73 = .ok (.newarray .int, 2) := by decide +kernel
theorem dX1_init_75 : decode cX1_init 75 = .ok (.putfield 36, 3) := by decide +kernel
theorem dX1_init_78 : decode cX1_init 78 = .ok (.aload_n 0, 1) := by decide +kernel
theorem dX1_init_79 : decode cX1_init 79 = .ok (.bipush 36, 2) := by decide +kernel
theorem dX1_init_81 : decode cX1_init 81 = .ok (.newarray .int, 2) := by decide +kernel
theorem dX1_init_83 : decode cX1_init 83 = .ok (.putfield 39, 3) := by decide +kernel
theorem dX1_init_86 : decode cX1_init 86 = .ok (.aload_n 0, 1) := by decide +kernel
theorem dX1_init_87 : decode cX1_init 87 = .ok (.bipush 36, 2) := by decide +kernel
theorem dX1_init_89 : decode cX1_init 89 = .ok (.newarray .int, 2) := by decide +kernel
theorem dX1_init_91 : decode cX1_init 91 = .ok (.putfield 42, 3) := by decide +kernel
theorem dX1_init_94 : decode cX1_init 94 = .ok (.aload_n 0, 1) := by decide +kernel
theorem dX1_init_95 : decode cX1_init 95 = .ok (.bipush 36, 2) := by decide +kernel
theorem dX1_init_97 : decode cX1_init 97 = .ok (.newarray .boolean, 2) := by decide +kernel
theorem dX1_init_99 : decode cX1_init 99 = .ok (.putfield 45, 3) := by decide +kernel
theorem dX1_init_102 : decode cX1_init 102 = .ok (.aload_n 0, 1) := by decide +kernel
theorem dX1_init_103 : decode cX1_init 103 = .ok (.bipush 36, 2) := by decide +kernel
theorem dX1_init_105 : decode cX1_init 105 = .ok (.newarray .boolean, 2) := by decide +kernel
theorem dX1_init_107 : decode cX1_init 107 = .ok (.putfield 48, 3) := by decide +kernel
theorem dX1_init_110 : decode cX1_init 110 = .ok (.aload_n 0, 1) := by decide +kernel
theorem dX1_init_111 : decode cX1_init 111 = .ok (.invokevirtual 51, 3) := by decide +kernel
theorem dX1_init_114 : decode cX1_init 114 = .ok (.return_, 1) := by decide +kernel
theorem dX1_clear_0 : decode cX1_clear 0 = .ok (.aload_n 0, 1) := by decide +kernel
theorem dX1_clear_1 : decode cX1_clear 1 = .ok (.iconst 0, 1) := by decide +kernel
theorem dX1_clear_2 : decode cX1_clear 2 = .ok (.putfield 57, 3) := by decide +kernel
theorem dX1_clear_5 : decode cX1_clear 5 = .ok (.aload_n 0, 1) := by decide +kernel
theorem dX1_clear_6 : decode cX1_clear 6 = .ok (.iconst 0, 1) := by decide +kernel
theorem dX1_clear_7 : decode cX1_clear 7 = .ok (.putfield 60, 3) := by decide +kernel
theorem dX1_clear_10 : decode cX1_clear 10 = .ok (.aload_n 0, 1) := by decide +kernel
theorem dX1_clear_11 : decode cX1_clear 11 = .ok (.iconst 0, 1) := by decide +kernel
theorem dX1_clear_12 : decode cX1_clear 12 = .ok (.putfield 63, 3) := by decide +kernel
theorem dX1_clear_15 : decode cX1_clear 15 = .ok (.aload_n 0, 1) := by decide +kernel
theorem dX1_clear_16 : decode cX1_clear 16 = .ok (.iconst 0, 1) := by decide +kernel
theorem dX1_clear_17 : decode cX1_clear 17 = .ok (.putfield 66, 3) := by decide +kernel
theorem dX1_clear_20 : decode cX1_clear 20 = .ok (.aload_n 0, 1) := by decide +kernel
theorem dX1_clear_21 : decode cX1_clear 21 = .ok (.iconst 0, 1) := by decide +kernel
theorem dX1_clear_22 : decode cX1_clear 22 = .ok (.putfield 69, 3) := by decide +kernel
theorem dX1_clear_25 : decode cX1_clear 25 = .ok (.aload_n 0, 1) := by decide +kernel
theorem dX1_clear_26 : decode cX1_clear 26 = .ok (.iconst 0, 1) := by decide +kernel
theorem dX1_clear_27 : decode cX1_clear 27 = .ok (.putfield 73, 3) := by decide +kernel
theorem dX1_clear_30 : decode cX1_clear 30 = .ok (.aload_n 0, 1) := by decide +kernel
theorem dX1_clear_31 : decode cX1_clear 31 = .ok (.iconst 0, 1) := by decide +kernel
theorem dX1_clear_32 : decode cX1_clear 32 = .ok (.putfield 76, 3) := by decide +kernel
theorem dX1_clear_35 : decode cX1_clear 35 = .ok (.aload_n 0, 1) := by decide +kernel
theorem dX1_clear_36 : decode cX1_clear 36 = .ok (.iconst 0, 1) := by decide +kernel
theorem dX1_clear_37 : decode cX1_clear 37 = .ok (.putfield 79, 3) := by decide +kernel
theorem dX1_clear_40 : decode cX1_clear 40 = .ok (.iconst 0, 1) := by decide +kernel
theorem dX1_clear_41 : decode cX1_clear 41 = .ok (.istore_n 1, 1) := by decide +kernel
theorem dX1_clear_42 : decode cX1_clear 42 = .ok (.iload_n 1, 1) := by decide +kernel
theorem dX1_clear_43 : decode cX1_clear 43 = .ok (.bipush 16, 2) := by decide +kernel
theorem dX1_clear_45 : decode cX1_clear 45 = .ok (.if_icmp .ge 16, 3) := by decide +kernel
theorem dX1_clear_48 : decode cX1_clear 48 = .ok (.aload_n 0, 1) := by decide +kernel
theorem dX1_clear_49 : decode cX1_clear 49 = .ok (.getfield 30, 3) := by decide +kernel
theorem dX1_clear_52 : decode cX1_clear 52 = .ok (.iload_n 1, 1) := by decide +kernel
theorem dX1_clear_53 : decode cX1_clear 53 = .ok (.iconst (-1), 1) := by decide +kernel
theorem dX1_clear_54 : decode cX1_clear 54 = .ok (.iastore, 1) := by decide +kernel
theorem dX1_clear_55 : decode cX1_clear 55 = .ok (.iinc 1 1, 3) := by decide +kernel
theorem dX1_clear_58 : decode cX1_clear 58 = .ok (.goto (-16), 3) := by decide +kernel
theorem dX1_clear_61 : decode cX1_clear 61 = .ok (.iconst 0, 1) := by decide +kernel
theorem dX1_clear_62 : decode cX1_clear 62 = .ok (.istore_n 1, 1) := by decide +kernel
theorem dX1_clear_63 : decode cX1_clear 63 = .ok (.iload_n 1, 1) := by decide +kernel
theorem dX1_clear_64 : decode cX1_clear 64 = .ok (.bipush 36, 2) := by decide +kernel
theorem dX1_clear_66 : decode cX1_clear 66 = .ok (.if_icmp .ge 51, 3) := by decide +kernel
theorem dX1_clear_69 : decode cX1_clear 69 = .ok (.aload_n 0, 1) := by decide +kernel
theorem dX1_clear_70 : decode cX1_clear 70 = .ok (.getfield 33, 3) := by decide +kernel
theorem dX1_clear_73 : decode cX1_clear 73 = .ok (.iload_n 1, 1) := by decide +kernel
theorem dX1_clear_74 : decode cX1_clear 74 = .ok (.iconst 0, 1) := by decide +kernel
theorem dX1_clear_75 : decode cX1_clear 75 = .ok (.iastore, 1) := by decide +kernel
theorem dX1_clear_76 : decode cX1_clear 76 = .ok (.aload_n 0, 1) := by decide +kernel
theorem dX1_clear_77 : decode cX1_clear 77 = .ok (.getfield 36, 3) := by decide +kernel
theorem dX1_clear_80 : decode cX1_clear 80 = .ok (.iload_n 1, 1) := by decide +kernel
theorem dX1_clear_81 : decode cX1_clear 81 = .ok (.iconst 0, 1) := by decide +kernel
theorem dX1_clear_82 : decode cX1_clear 82 = .ok (.iastore, 1) := by decide +kernel
theorem dX1_clear_83 : decode cX1_clear 83 = .ok (.aload_n 0, 1) := by decide +kernel
theorem dX1_clear_84 : decode cX1_clear 84 = .ok (.getfield 39, 3) := by decide +kernel
theorem dX1_clear_87 : decode cX1_clear 87 = .ok (.iload_n 1, 1) := by decide +kernel
theorem dX1_clear_88 : decode cX1_clear 88 = .ok (.iconst 0, 1) := by decide +kernel
theorem dX1_clear_89 : decode cX1_clear 89 = .ok (.iastore, 1) := by decide +kernel
theorem dX1_clear_90 : decode cX1_clear 90 = .ok (.aload_n 0, 1) := by decide +kernel
theorem dX1_clear_91 : decode cX1_clear 91 = .ok (.getfield 42, 3) := by decide +kernel
theorem dX1_clear_94 : decode cX1_clear 94 = .ok (.iload_n 1, 1) := by decide +kernel
theorem dX1_clear_95 : decode cX1_clear 95 = .ok (.iconst 0, 1) := by decide +kernel
theorem dX1_clear_96 : decode cX1_clear 96 = .ok (.iastore, 1) := by decide +kernel
theorem dX1_clear_97 : decode cX1_clear 97 = .ok (.aload_n 0, 1) := by decide +kernel
theorem dX1_clear_98 : decode cX1_clear 98 = .ok (.getfield 45, 3) := by decide +kernel
theorem dX1_clear_101 : decode cX1_clear 101 = .ok (.iload_n 1, 1) := by decide +kernel
theorem dX1_clear_102 : decode cX1_clear 102 = .ok (.iconst 0, 1) := by decide +kernel
theorem dX1_clear_103 : decode cX1_clear 103 = .ok (.bastore, 1) := by decide +kernel
theorem dX1_clear_104 : decode cX1_clear 104 = .ok (.aload_n 0, 1) := by decide +kernel
theorem dX1_clear_105 : decode cX1_clear 105 = .ok (.getfield 48, 3) := by decide +kernel
theorem dX1_clear_108 : decode cX1_clear 108 = .ok (.iload_n 1, 1) := by decide +kernel
theorem dX1_clear_109 : decode cX1_clear 109 = .ok (.iconst 0, 1) := by decide +kernel
theorem dX1_clear_110 : decode cX1_clear 110 = .ok (.bastore, 1) := by decide +kernel
theorem dX1_clear_111 : decode cX1_clear 111 = .ok (.iinc 1 1, 3) := by decide +kernel
theorem dX1_clear_114 : decode cX1_clear 114 = .ok (.goto (-51), 3) := by decide +kernel
theorem dX1_clear_117 : decode cX1_clear 117 = .ok (.return_, 1) := by decide +kernel
theorem dX1_thrown_0 : decode cX1_thrown 0 = .ok (.aload_n 0, 1) := by decide +kernel
theorem dX1_thrown_1 : decode cX1_thrown 1 = .ok (.getfield 54, 3) := by decide +kernel
theorem dX1_thrown_4 : decode cX1_thrown 4 = .ok (.ireturn, 1) := by decide +kernel
theorem dX1_begin_0 : decode cX1_begin 0 = .ok (.aload_n 0, 1) := by decide +kernel
theorem dX1_begin_1 : decode cX1_begin 1 = .ok (.iload_n 1, 1) := by decide +kernel
theorem dX1_begin_2 : decode cX1_begin 2 = .ok (.iconst 1, 1) := by decide +kernel
theorem dX1_begin_3 : decode cX1_begin 3 = .ok (.bipush 6, 2) := by decide +kernel
theorem dX1_begin_5 : decode cX1_begin 5 = .ok (.invokestatic 82, 3) := by decide +kernel
theorem dX1_begin_8 : decode cX1_begin 8 = .ok (.ifCond .ne 7, 3) := by decide +kernel
theorem dX1_begin_11 : decode cX1_begin 11 = .ok (.iconst 1, 1) := by decide +kernel
theorem dX1_begin_12 : decode cX1_begin 12 = .ok (.goto 4, 3) := by decide +kernel
theorem dX1_begin_15 : decode cX1_begin 15 = .ok (.iconst 0, 1) := by decide +kernel
theorem dX1_begin_16 : decode cX1_begin 16 = .ok (.iconst 0, 1) := by decide +kernel
theorem dX1_begin_17 : decode cX1_begin 17 = .ok (.invokevirtual 86, 3) := by decide +kernel
theorem dX1_begin_20 : decode cX1_begin 20 = .ok (.ifCond .ne 12, 3) := by decide +kernel
theorem dX1_begin_23 : decode cX1_begin 23 = .ok (.aload_n 0, 1) := by decide +kernel
theorem dX1_begin_24 : decode cX1_begin 24 = .ok (.iload_n 1, 1) := by decide +kernel
theorem dX1_begin_25 : decode cX1_begin 25 = .ok (.putfield 7, 3) := by decide +kernel
theorem dX1_begin_28 : decode cX1_begin 28 = .ok (.aload_n 0, 1) := by decide +kernel
theorem dX1_begin_29 : decode cX1_begin 29 = .ok (.invokevirtual 51, 3) := by decide +kernel
theorem dX1_begin_32 : decode cX1_begin 32 = .ok (.return_, 1) := by decide +kernel
theorem dX1_in__0 : decode cX1_in_ 0 = .ok (.iload_n 0, 1) := by decide +kernel
theorem dX1_in__1 : decode cX1_in_ 1 = .ok (.iload_n 1, 1) := by decide +kernel
theorem dX1_in__2 : decode cX1_in_ 2 = .ok (.if_icmp .lt 12, 3) := by decide +kernel
theorem dX1_in__5 : decode cX1_in_ 5 = .ok (.iload_n 0, 1) := by decide +kernel
theorem dX1_in__6 : decode cX1_in_ 6 = .ok (.iload_n 2, 1) := by decide +kernel
theorem dX1_in__7 : decode cX1_in_ 7 = .ok (.if_icmp .gt 7, 3) := by decide +kernel
theorem dX1_in__10 : decode cX1_in_ 10 = .ok (.iconst 1, 1) := by decide +kernel
theorem dX1_in__11 : decode cX1_in_ 11 = .ok (.goto 4, 3) := by decide +kernel
theorem dX1_in__14 : decode cX1_in_ 14 = .ok (.iconst 0, 1) := by decide +kernel
theorem dX1_in__15 : decode cX1_in_ 15 = .ok (.ireturn, 1) := by decide +kernel
theorem dX1_refuse_0 : decode cX1_refuse 0 = .ok (.aload_n 0, 1) := by decide +kernel
theorem dX1_refuse_1 : decode cX1_refuse 1 = .ok (.iload_n 1, 1) := by decide +kernel
theorem dX1_refuse_2 : decode cX1_refuse 2 = .ok (.ifCond .eq 7, 3) := by decide +kernel
theorem dX1_refuse_5 : decode cX1_refuse 5 = .ok (.iconst 1, 1) := by decide +kernel
theorem dX1_refuse_6 : decode cX1_refuse 6 = .ok (.goto 12, 3) := by decide +kernel
theorem dX1_refuse_9 : decode cX1_refuse 9 = .ok (.iload_n 2, 1) := by decide +kernel
theorem dX1_refuse_10 : decode cX1_refuse 10 = .ok (.ifCond .eq 7, 3) := by decide +kernel
theorem dX1_refuse_13 : decode cX1_refuse 13 = .ok (.iconst 2, 1) := by decide +kernel
theorem dX1_refuse_14 : decode cX1_refuse 14 = .ok (.goto 4, 3) := by decide +kernel
theorem dX1_refuse_17 : decode cX1_refuse 17 = .ok (.iconst 0, 1) := by decide +kernel
theorem dX1_refuse_18 : decode cX1_refuse 18 = .ok (.putfield 54, 3) := by decide +kernel
theorem dX1_refuse_21 : decode cX1_refuse 21 = .ok (.aload_n 0, 1) := by decide +kernel
theorem dX1_refuse_22 : decode cX1_refuse 22 = .ok (.getfield 54, 3) := by decide +kernel
theorem dX1_refuse_25 : decode cX1_refuse 25 = .ok (.ifCond .le 7, 3) := by decide +kernel
theorem dX1_refuse_28 : decode cX1_refuse 28 = .ok (.iconst 1, 1) := by decide +kernel
theorem dX1_refuse_29 : decode cX1_refuse 29 = .ok (.goto 4, 3) := by decide +kernel
theorem dX1_refuse_32 : decode cX1_refuse 32 = .ok (.iconst 0, 1) := by decide +kernel
theorem dX1_refuse_33 : decode cX1_refuse 33 = .ok (.ireturn, 1) := by decide +kernel
theorem dX1_weights_0 : decode cX1_weights 0 = .ok (.aload_n 0, 1) := by decide +kernel
theorem dX1_weights_1 : decode cX1_weights 1 = .ok (.aload_n 0, 1) := by decide +kernel
theorem dX1_weights_2 : decode cX1_weights 2 = .ok (.getfield 60, 3) := by decide +kernel
theorem dX1_weights_5 : decode cX1_weights 5 = .ok (.bipush 120, 2) := by decide +kernel
theorem dX1_weights_7 : decode cX1_weights 7 = .ok (.if_icmp .ne 7, 3) := by decide +kernel
theorem dX1_weights_10 : decode cX1_weights 10 = .ok (.iconst 1, 1) := by decide +kernel
theorem dX1_weights_11 : decode cX1_weights 11 = .ok (.goto 4, 3) := by decide +kernel
theorem dX1_weights_14 : decode cX1_weights 14 = .ok (.iconst 0, 1) := by decide +kernel
theorem dX1_weights_15 : decode cX1_weights 15 = .ok (.iconst 0, 1) := by decide +kernel
theorem dX1_weights_16 : decode cX1_weights 16 = .ok (.invokevirtual 86, 3) := by decide +kernel
theorem dX1_weights_19 : decode cX1_weights 19 = .ok (.ifCond .eq 5, 3) := by decide +kernel
theorem dX1_weights_22 : decode cX1_weights 22 = .ok (.iconst 0, 1) := by decide +kernel
theorem dX1_weights_23 : decode cX1_weights 23 = .ok (.ireturn, 1) := by decide +kernel
theorem dX1_weights_24 : decode cX1_weights 24 = .ok (.aload_n 0, 1) := by decide +kernel
theorem dX1_weights_25 : decode cX1_weights 25 = .ok (.getfield 13, 3) := by decide +kernel
theorem dX1_weights_28 : decode cX1_weights 28 = .ok (.bipush 6, 2) := by decide +kernel
theorem dX1_weights_30 : decode cX1_weights 30 = .ok (.aload_n 0, 1) := by decide +kernel
theorem dX1_weights_31 : decode cX1_weights 31 = .ok (.getfield 60, 3) := by decide +kernel
theorem dX1_weights_34 : decode cX1_weights 34 = .ok (.imul, 1) := by decide +kernel
theorem dX1_weights_35 : decode cX1_weights 35 = .ok (.iload_n 1, 1) := by decide +kernel
theorem dX1_weights_36 : decode cX1_weights 36 = .ok (.iload_n 2, 1) := by decide +kernel
theorem dX1_weights_37 : decode cX1_weights 37 = .ok (.iload_n 3, 1) := by decide +kernel
theorem dX1_weights_38 : decode cX1_weights 38 = .ok (.iload 4, 2) := by decide +kernel
theorem dX1_weights_40 : decode cX1_weights 40 = .ok (.iload 5, 2) := by decide +kernel
theorem dX1_weights_42 : decode cX1_weights 42 = .ok (.iload 6, 2) := by decide +kernel
theorem dX1_weights_44 : decode cX1_weights 44 = .ok (.invokestatic 90, 3) := by decide +kernel
theorem dX1_weights_47 : decode cX1_weights 47 = .ok (.aload_n 0, 1) := by decide +kernel
theorem dX1_weights_48 : decode cX1_weights 48 = .ok (.dup, 1) := by decide +kernel
theorem dX1_weights_49 : decode cX1_weights 49 = .ok (.getfield 60, 3) := by decide +kernel
theorem dX1_weights_52 : decode cX1_weights 52 = .ok (.iconst 1, 1) := by decide +kernel
theorem dX1_weights_53 : decode cX1_weights 53 = .ok (.iadd, 1) := by decide +kernel
theorem dX1_weights_54 : decode cX1_weights 54 = .ok (.putfield 60, 3) := by decide +kernel
theorem dX1_weights_57 : decode cX1_weights 57 = .ok (.aload_n 0, 1) := by decide +kernel
theorem dX1_weights_58 : decode cX1_weights 58 = .ok (.getfield 60, 3) := by decide +kernel
theorem dX1_weights_61 : decode cX1_weights 61 = .ok (.iconst 1, 1) := by decide +kernel
theorem dX1_weights_62 : decode cX1_weights 62 = .ok (.isub, 1) := by decide +kernel
theorem dX1_weights_63 : decode cX1_weights 63 = .ok (.ireturn, 1) := by decide +kernel
theorem dX1_six_0 : decode cX1_six 0 = .ok (.aload_n 0, 1) := by decide +kernel
theorem dX1_six_1 : decode cX1_six 1 = .ok (.iload_n 1, 1) := by decide +kernel
theorem dX1_six_2 : decode cX1_six 2 = .ok (.iload_n 2, 1) := by decide +kernel
theorem dX1_six_3 : decode cX1_six 3 = .ok (.iastore, 1) := by decide +kernel
theorem dX1_six_4 : decode cX1_six 4 = .ok (.aload_n 0, 1) := by decide +kernel
theorem dX1_six_5 : decode cX1_six 5 = .ok (.iload_n 1, 1) := by decide +kernel
theorem dX1_six_6 : decode cX1_six 6 = .ok (.iconst 1, 1) := by decide +kernel
theorem dX1_six_7 : decode cX1_six 7 = .ok (.iadd, 1) := by decide +kernel
theorem dX1_six_8 : decode cX1_six 8 = .ok (.iload_n 3, 1) := by decide +kernel
theorem dX1_six_9 : decode cX1_six 9 = .ok (.iastore, 1) := by decide +kernel
theorem dX1_six_10 : decode cX1_six 10 = .ok (.aload_n 0, 1) := by decide +kernel
theorem dX1_six_11 : decode cX1_six 11 = .ok (.iload_n 1, 1) := by decide +kernel
theorem dX1_six_12 : decode cX1_six 12 = .ok (.iconst 2, 1) := by decide +kernel
theorem dX1_six_13 : decode cX1_six 13 = .ok (.iadd, 1) := by decide +kernel
theorem dX1_six_14 : decode cX1_six 14 = .ok (.iload 4, 2) := by decide +kernel
theorem dX1_six_16 : decode cX1_six 16 = .ok (.iastore, 1) := by decide +kernel
theorem dX1_six_17 : decode cX1_six 17 = .ok (.aload_n 0, 1) := by decide +kernel
theorem dX1_six_18 : decode cX1_six 18 = .ok (.iload_n 1, 1) := by decide +kernel
theorem dX1_six_19 : decode cX1_six 19 = .ok (.iconst 3, 1) := by decide +kernel
theorem dX1_six_20 : decode cX1_six 20 = .ok (.iadd, 1) := by decide +kernel
theorem dX1_six_21 : decode cX1_six 21 = .ok (.iload 5, 2) := by decide +kernel
theorem dX1_six_23 : decode cX1_six 23 = .ok (.iastore, 1) := by decide +kernel
theorem dX1_six_24 : decode cX1_six 24 = .ok (.aload_n 0, 1) := by decide +kernel
theorem dX1_six_25 : decode cX1_six 25 = .ok (.iload_n 1, 1) := by decide +kernel
theorem dX1_six_26 : decode cX1_six 26 = .ok (.iconst 4, 1) := by decide +kernel
theorem dX1_six_27 : decode cX1_six 27 = .ok (.iadd, 1) := by decide +kernel
theorem dX1_six_28 : decode cX1_six 28 = .ok (.iload 6, 2) := by decide +kernel
theorem dX1_six_30 : decode cX1_six 30 = .ok (.iastore, 1) := by decide +kernel
theorem dX1_six_31 : decode cX1_six 31 = .ok (.aload_n 0, 1) := by decide +kernel
theorem dX1_six_32 : decode cX1_six 32 = .ok (.iload_n 1, 1) := by decide +kernel
theorem dX1_six_33 : decode cX1_six 33 = .ok (.iconst 5, 1) := by decide +kernel
theorem dX1_six_34 : decode cX1_six 34 = .ok (.iadd, 1) := by decide +kernel
theorem dX1_six_35 : decode cX1_six 35 = .ok (.iload 7, 2) := by decide +kernel
theorem dX1_six_37 : decode cX1_six 37 = .ok (.iastore, 1) := by decide +kernel
theorem dX1_six_38 : decode cX1_six 38 = .ok (.return_, 1) := by decide +kernel
theorem dX1_vector_0 : decode cX1_vector 0 = .ok (.aload_n 0, 1) := by decide +kernel
theorem dX1_vector_1 : decode cX1_vector 1 = .ok (.aload_n 0, 1) := by decide +kernel
theorem dX1_vector_2 : decode cX1_vector 2 = .ok (.getfield 73, 3) := by decide +kernel
theorem dX1_vector_5 : decode cX1_vector 5 = .ok (.sipush 200, 3) := by decide +kernel
theorem dX1_vector_8 : decode cX1_vector 8 = .ok (.if_icmp .ne 7, 3) := by decide +kernel
theorem dX1_vector_11 : decode cX1_vector 11 = .ok (.iconst 1, 1) := by decide +kernel
theorem dX1_vector_12 : decode cX1_vector 12 = .ok (.goto 4, 3) := by decide +kernel
theorem dX1_vector_15 : decode cX1_vector 15 = .ok (.iconst 0, 1) := by decide +kernel
theorem dX1_vector_16 : decode cX1_vector 16 = .ok (.iconst 0, 1) := by decide +kernel
theorem dX1_vector_17 : decode cX1_vector 17 = .ok (.invokevirtual 86, 3) := by decide +kernel
theorem dX1_vector_20 : decode cX1_vector 20 = .ok (.ifCond .eq 5, 3) := by decide +kernel
theorem dX1_vector_23 : decode cX1_vector 23 = .ok (.iconst 0, 1) := by decide +kernel
theorem dX1_vector_24 : decode cX1_vector 24 = .ok (.ireturn, 1) := by decide +kernel
theorem dX1_vector_25 : decode cX1_vector 25 = .ok (.aload_n 0, 1) := by decide +kernel
theorem dX1_vector_26 : decode cX1_vector 26 = .ok (.getfield 17, 3) := by decide +kernel
theorem dX1_vector_29 : decode cX1_vector 29 = .ok (.bipush 6, 2) := by decide +kernel
theorem dX1_vector_31 : decode cX1_vector 31 = .ok (.aload_n 0, 1) := by decide +kernel
theorem dX1_vector_32 : decode cX1_vector 32 = .ok (.getfield 73, 3) := by decide +kernel
theorem dX1_vector_35 : decode cX1_vector 35 = .ok (.imul, 1) := by decide +kernel
theorem dX1_vector_36 : decode cX1_vector 36 = .ok (.iload_n 2, 1) := by decide +kernel
theorem dX1_vector_37 : decode cX1_vector 37 = .ok (.iload_n 3, 1) := by decide +kernel
theorem dX1_vector_38 : decode cX1_vector 38 = .ok (.iload 4, 2) := by decide +kernel
theorem dX1_vector_40 : decode cX1_vector 40 = .ok (.iload 5, 2) := by decide +kernel
theorem dX1_vector_42 : decode cX1_vector 42 = .ok (.iload 6, 2) := by decide +kernel
theorem dX1_vector_44 : decode cX1_vector 44 = .ok (.iload 7, 2) := by decide +kernel
theorem dX1_vector_46 : decode cX1_vector 46 = .ok (.invokestatic 90, 3) := by decide +kernel
theorem dX1_vector_49 : decode cX1_vector 49 = .ok (.aload_n 0, 1) := by decide +kernel
theorem dX1_vector_50 : decode cX1_vector 50 = .ok (.getfield 20, 3) := by decide +kernel
theorem dX1_vector_53 : decode cX1_vector 53 = .ok (.aload_n 0, 1) := by decide +kernel
theorem dX1_vector_54 : decode cX1_vector 54 = .ok (.getfield 73, 3) := by decide +kernel
theorem dX1_vector_57 : decode cX1_vector 57 = .ok (.iload_n 1, 1) := by decide +kernel
theorem dX1_vector_58 : decode cX1_vector 58 = .ok (.bastore, 1) := by decide +kernel
theorem dX1_vector_59 : decode cX1_vector 59 = .ok (.aload_n 0, 1) := by decide +kernel
theorem dX1_vector_60 : decode cX1_vector 60 = .ok (.getfield 24, 3) := by decide +kernel
theorem dX1_vector_63 : decode cX1_vector 63 = .ok (.aload_n 0, 1) := by decide +kernel
theorem dX1_vector_64 : decode cX1_vector 64 = .ok (.getfield 73, 3) := by decide +kernel
theorem dX1_vector_67 : decode cX1_vector 67 = .ok (.iconst (-1), 1) := by decide +kernel
theorem dX1_vector_68 : decode cX1_vector 68 = .ok (.iastore, 1) := by decide +kernel
theorem dX1_vector_69 : decode cX1_vector 69 = .ok (.aload_n 0, 1) := by decide +kernel
theorem dX1_vector_70 : decode cX1_vector 70 = .ok (.dup, 1) := by decide +kernel
theorem dX1_vector_71 : decode cX1_vector 71 = .ok (.getfield 73, 3) := by decide +kernel
theorem dX1_vector_74 : decode cX1_vector 74 = .ok (.iconst 1, 1) := by decide +kernel
theorem dX1_vector_75 : decode cX1_vector 75 = .ok (.iadd, 1) := by decide +kernel
theorem dX1_vector_76 : decode cX1_vector 76 = .ok (.putfield 73, 3) := by decide +kernel
theorem dX1_vector_79 : decode cX1_vector 79 = .ok (.aload_n 0, 1) := by decide +kernel
theorem dX1_vector_80 : decode cX1_vector 80 = .ok (.getfield 73, 3) := by decide +kernel
theorem dX1_vector_83 : decode cX1_vector 83 = .ok (.iconst 1, 1) := by decide +kernel
theorem dX1_vector_84 : decode cX1_vector 84 = .ok (.isub, 1) := by decide +kernel
theorem dX1_vector_85 : decode cX1_vector 85 = .ok (.ireturn, 1) := by decide +kernel
theorem dX1_cycle_0 : decode cX1_cycle 0 = .ok (.aload_n 0, 1) := by decide +kernel
theorem dX1_cycle_1 : decode cX1_cycle 1 = .ok (.iload_n 1, 1) := by decide +kernel
theorem dX1_cycle_2 : decode cX1_cycle 2 = .ok (.ifCond .lt 14, 3) := by decide +kernel
theorem dX1_cycle_5 : decode cX1_cycle 5 = .ok (.iload_n 1, 1) := by decide +kernel
theorem dX1_cycle_6 : decode cX1_cycle 6 = .ok (.ldc 101, 2) := by decide +kernel
theorem dX1_cycle_8 : decode cX1_cycle 8 = .ok (.aload_n 0, 1) := by decide +kernel
theorem dX1_cycle_9 : decode cX1_cycle 9 = .ok (.getfield 57, 3) := by decide +kernel
theorem dX1_cycle_12 : decode cX1_cycle 12 = .ok (.isub, 1) := by decide +kernel
theorem dX1_cycle_13 : decode cX1_cycle 13 = .ok (.if_icmp .le 7, 3) := by decide +kernel
theorem dX1_cycle_16 : decode cX1_cycle 16 = .ok (.iconst 1, 1) := by decide +kernel
theorem dX1_cycle_17 : decode cX1_cycle 17 = .ok (.goto 4, 3) := by decide +kernel
theorem dX1_cycle_20 : decode cX1_cycle 20 = .ok (.iconst 0, 1) := by decide +kernel
theorem dX1_cycle_21 : decode cX1_cycle 21 = .ok (.iconst 0, 1) := by decide +kernel
theorem dX1_cycle_22 : decode cX1_cycle 22 = .ok (.invokevirtual 86, 3) := by decide +kernel
theorem dX1_cycle_25 : decode cX1_cycle 25 = .ok (.ifCond .eq 5, 3) := by decide +kernel
theorem dX1_cycle_28 : decode cX1_cycle 28 = .ok (.iconst 0, 1) := by decide +kernel
theorem dX1_cycle_29 : decode cX1_cycle 29 = .ok (.ireturn, 1) := by decide +kernel
theorem dX1_cycle_30 : decode cX1_cycle 30 = .ok (.iconst 0, 1) := by decide +kernel
theorem dX1_cycle_31 : decode cX1_cycle 31 = .ok (.istore_n 2, 1) := by decide +kernel
theorem dX1_cycle_32 : decode cX1_cycle 32 = .ok (.iload_n 2, 1) := by decide +kernel
theorem dX1_cycle_33 : decode cX1_cycle 33 = .ok (.iload_n 1, 1) := by decide +kernel
theorem dX1_cycle_34 : decode cX1_cycle 34 = .ok (.if_icmp .ge 31, 3) := by decide +kernel
theorem dX1_cycle_37 : decode cX1_cycle 37 = .ok (.aload_n 0, 1) := by decide +kernel
theorem dX1_cycle_38 : decode cX1_cycle 38 = .ok (.dup, 1) := by decide +kernel
theorem dX1_cycle_39 : decode cX1_cycle 39 = .ok (.getfield 57, 3) := by decide +kernel
theorem dX1_cycle_42 : decode cX1_cycle 42 = .ok (.iconst 1, 1) := by decide +kernel
theorem dX1_cycle_43 : decode cX1_cycle 43 = .ok (.iadd, 1) := by decide +kernel
theorem dX1_cycle_44 : decode cX1_cycle 44 = .ok (.putfield 57, 3) := by decide +kernel
theorem dX1_cycle_47 : decode cX1_cycle 47 = .ok (.aload_n 0, 1) := by decide +kernel
theorem dX1_cycle_48 : decode cX1_cycle 48 = .ok (.invokevirtual 102, 3) := by decide +kernel
theorem dX1_cycle_51 : decode cX1_cycle 51 = .ok (.aload_n 0, 1) := by decide +kernel
theorem dX1_cycle_52 : decode cX1_cycle 52 = .ok (.invokevirtual 105, 3) := by decide +kernel
theorem dX1_cycle_55 : decode cX1_cycle 55 = .ok (.aload_n 0, 1) := by decide +kernel
theorem dX1_cycle_56 : decode cX1_cycle 56 = .ok (.invokevirtual 108, 3) := by decide +kernel
theorem dX1_cycle_59 : decode cX1_cycle 59 = .ok (.iinc 2 1, 3) := by decide +kernel
theorem dX1_cycle_62 : decode cX1_cycle 62 = .ok (.goto (-30), 3) := by decide +kernel
theorem dX1_cycle_65 : decode cX1_cycle 65 = .ok (.aload_n 0, 1) := by decide +kernel
theorem dX1_cycle_66 : decode cX1_cycle 66 = .ok (.getfield 57, 3) := by decide +kernel
theorem dX1_cycle_69 : decode cX1_cycle 69 = .ok (.ireturn, 1) := by decide +kernel
theorem dX1_enter_0 : decode cX1_enter 0 = .ok (.aload_n 0, 1) := by decide +kernel
theorem dX1_enter_1 : decode cX1_enter 1 = .ok (.getfield 30, 3) := by decide +kernel
theorem dX1_enter_4 : decode cX1_enter 4 = .ok (.aload_n 0, 1) := by decide +kernel
theorem dX1_enter_5 : decode cX1_enter 5 = .ok (.getfield 57, 3) := by decide +kernel
theorem dX1_enter_8 : decode cX1_enter 8 = .ok (.bipush 16, 2) := by decide +kernel
theorem dX1_enter_10 : decode cX1_enter 10 = .ok (.irem, 1) := by decide +kernel
theorem dX1_enter_11 : decode cX1_enter 11 = .ok (.iconst (-1), 1) := by decide +kernel
theorem dX1_enter_12 : decode cX1_enter 12 = .ok (.iastore, 1) := by decide +kernel
theorem dX1_enter_13 : decode cX1_enter 13 = .ok (.aload_n 0, 1) := by decide +kernel
theorem dX1_enter_14 : decode cX1_enter 14 = .ok (.getfield 76, 3) := by decide +kernel
theorem dX1_enter_17 : decode cX1_enter 17 = .ok (.aload_n 0, 1) := by decide +kernel
theorem dX1_enter_18 : decode cX1_enter 18 = .ok (.getfield 73, 3) := by decide +kernel
theorem dX1_enter_21 : decode cX1_enter 21 = .ok (.if_icmp .ge 26, 3) := by decide +kernel
theorem dX1_enter_24 : decode cX1_enter 24 = .ok (.aload_n 0, 1) := by decide +kernel
theorem dX1_enter_25 : decode cX1_enter 25 = .ok (.getfield 20, 3) := by decide +kernel
theorem dX1_enter_28 : decode cX1_enter 28 = .ok (.aload_n 0, 1) := by decide +kernel
theorem dX1_enter_29 : decode cX1_enter 29 = .ok (.getfield 76, 3) := by decide +kernel
theorem dX1_enter_32 : decode cX1_enter 32 = .ok (.baload, 1) := by decide +kernel
theorem dX1_enter_33 : decode cX1_enter 33 = .ok (.ifCond .eq 10, 3) := by decide +kernel
theorem dX1_enter_36 : decode cX1_enter 36 = .ok (.aload_n 0, 1) := by decide +kernel
theorem dX1_enter_37 : decode cX1_enter 37 = .ok (.getfield 69, 3) := by decide +kernel
theorem dX1_enter_40 : decode cX1_enter 40 = .ok (.ifCond .eq 7, 3) := by decide +kernel
theorem dX1_enter_43 : decode cX1_enter 43 = .ok (.iconst 1, 1) := by decide +kernel
theorem dX1_enter_44 : decode cX1_enter 44 = .ok (.goto 4, 3) := by decide +kernel
theorem dX1_enter_47 : decode cX1_enter 47 = .ok (.iconst 0, 1) := by decide +kernel
theorem dX1_enter_48 : decode cX1_enter 48 = .ok (.istore_n 1, 1) := by decide +kernel
theorem dX1_enter_49 : decode cX1_enter 49 = .ok (.iload_n 1, 1) := by decide +kernel
theorem dX1_enter_50 : decode cX1_enter 50 = .ok (.ifCond .ne 4, 3) := by decide +kernel
theorem dX1_enter_53 : decode cX1_enter 53 = .ok (.return_, 1) := by decide +kernel
theorem dX1_enter_54 : decode cX1_enter 54 = .ok (.aload_n 0, 1) := by decide +kernel
theorem dX1_enter_55 : decode cX1_enter 55 = .ok (.getfield 30, 3) := by decide +kernel
theorem dX1_enter_58 : decode cX1_enter 58 = .ok (.aload_n 0, 1) := by decide +kernel
theorem dX1_enter_59 : decode cX1_enter 59 = .ok (.getfield 57, 3) := by decide +kernel
theorem dX1_enter_62 : decode cX1_enter 62 = .ok (.bipush 16, 2) := by decide +kernel
theorem dX1_enter_64 : decode cX1_enter 64 = .ok (.irem, 1) := by decide +kernel
theorem dX1_enter_65 : decode cX1_enter 65 = .ok (.aload_n 0, 1) := by decide +kernel
theorem dX1_enter_66 : decode cX1_enter 66 = .ok (.getfield 76, 3) := by decide +kernel
theorem dX1_enter_69 : decode cX1_enter 69 = .ok (.iastore, 1) := by decide +kernel
theorem dX1_enter_70 : decode cX1_enter 70 = .ok (.aload_n 0, 1) := by decide +kernel
theorem dX1_enter_71 : decode cX1_enter 71 = .ok (.getfield 24, 3) := by decide +kernel
theorem dX1_enter_74 : decode cX1_enter 74 = .ok (.aload_n 0, 1) := by decide +kernel
theorem dX1_enter_75 : decode cX1_enter 75 = .ok (.getfield 76, 3) := by decide +kernel
theorem dX1_enter_78 : decode cX1_enter 78 = .ok (.aload_n 0, 1) := by decide +kernel
theorem dX1_enter_79 : decode cX1_enter 79 = .ok (.getfield 57, 3) := by decide +kernel
theorem dX1_enter_82 : decode cX1_enter 82 = .ok (.iastore, 1) := by decide +kernel
theorem dX1_enter_83 : decode cX1_enter 83 = .ok (.aload_n 0, 1) := by decide +kernel
theorem dX1_enter_84 : decode cX1_enter 84 = .ok (.getfield 20, 3) := by decide +kernel
theorem dX1_enter_87 : decode cX1_enter 87 = .ok (.aload_n 0, 1) := by decide +kernel
theorem dX1_enter_88 : decode cX1_enter 88 = .ok (.getfield 76, 3) := by decide +kernel
theorem dX1_enter_91 : decode cX1_enter 91 = .ok (.baload, 1) := by decide +kernel
theorem dX1_enter_92 : decode cX1_enter 92 = .ok (.ifCond .eq 26, 3) := by decide +kernel
theorem dX1_enter_95 : decode cX1_enter 95 = .ok (.aload_n 0, 1) := by decide +kernel
theorem dX1_enter_96 : decode cX1_enter 96 = .ok (.iconst 0, 1) := by decide +kernel
theorem dX1_enter_97 : decode cX1_enter 97 = .ok (.putfield 69, 3) := by decide +kernel
theorem dX1_enter_100 : decode cX1_enter 100 = .ok (.aload_n 0, 1) := by decide +kernel
theorem dX1_enter_101 : decode cX1_enter 101 = .ok (.dup, 1) := by decide +kernel
theorem dX1_enter_102 : decode cX1_enter 102 = .ok (.getfield 79, 3) := by decide +kernel
theorem dX1_enter_105 : decode cX1_enter 105 = .ok (.iconst 1, 1) := by decide +kernel
theorem dX1_enter_106 : decode cX1_enter 106 = .ok (.iadd, 1) := by decide +kernel
theorem dX1_enter_107 : decode cX1_enter 107 = .ok (.putfield 79, 3) := by decide +kernel
theorem dX1_enter_110 : decode cX1_enter 110 = .ok (.aload_n 0, 1) := by decide +kernel
theorem dX1_enter_111 : decode cX1_enter 111 = .ok (.aload_n 0, 1) := by decide +kernel
theorem dX1_enter_112 : decode cX1_enter 112 = .ok (.getfield 57, 3) := by decide +kernel
theorem dX1_enter_115 : decode cX1_enter 115 = .ok (.putfield 94, 3) := by decide +kernel
theorem dX1_enter_118 : decode cX1_enter 118 = .ok (.aload_n 0, 1) := by decide +kernel
theorem dX1_enter_119 : decode cX1_enter 119 = .ok (.dup, 1) := by decide +kernel
theorem dX1_enter_120 : decode cX1_enter 120 = .ok (.getfield 76, 3) := by decide +kernel
theorem dX1_enter_123 : decode cX1_enter 123 = .ok (.iconst 1, 1) := by decide +kernel
theorem dX1_enter_124 : decode cX1_enter 124 = .ok (.iadd, 1) := by decide +kernel
theorem dX1_enter_125 : decode cX1_enter 125 = .ok (.putfield 76, 3) := by decide +kernel
theorem dX1_enter_128 : decode cX1_enter 128 = .ok (.return_, 1) := by decide +kernel
theorem dX1_letIn_0 : decode cX1_letIn 0 = .ok (.aload_n 0, 1) := by decide +kernel
theorem dX1_letIn_1 : decode cX1_letIn 1 = .ok (.getfield 63, 3) := by decide +kernel
theorem dX1_letIn_4 : decode cX1_letIn 4 = .ok (.aload_n 0, 1) := by decide +kernel
theorem dX1_letIn_5 : decode cX1_letIn 5 = .ok (.getfield 60, 3) := by decide +kernel
theorem dX1_letIn_8 : decode cX1_letIn 8 = .ok (.if_icmp .ge 41, 3) := by decide +kernel
theorem dX1_letIn_11 : decode cX1_letIn 11 = .ok (.aload_n 0, 1) := by decide +kernel
theorem dX1_letIn_12 : decode cX1_letIn 12 = .ok (.getfield 69, 3) := by decide +kernel
theorem dX1_letIn_15 : decode cX1_letIn 15 = .ok (.ifCond .ne 34, 3) := by decide +kernel
theorem dX1_letIn_18 : decode cX1_letIn 18 = .ok (.aload_n 0, 1) := by decide +kernel
theorem dX1_letIn_19 : decode cX1_letIn 19 = .ok (.getfield 79, 3) := by decide +kernel
theorem dX1_letIn_22 : decode cX1_letIn 22 = .ok (.ifCond .eq 23, 3) := by decide +kernel
theorem dX1_letIn_25 : decode cX1_letIn 25 = .ok (.aload_n 0, 1) := by decide +kernel
theorem dX1_letIn_26 : decode cX1_letIn 26 = .ok (.getfield 57, 3) := by decide +kernel
theorem dX1_letIn_29 : decode cX1_letIn 29 = .ok (.aload_n 0, 1) := by decide +kernel
theorem dX1_letIn_30 : decode cX1_letIn 30 = .ok (.getfield 94, 3) := by decide +kernel
theorem dX1_letIn_33 : decode cX1_letIn 33 = .ok (.isub, 1) := by decide +kernel
theorem dX1_letIn_34 : decode cX1_letIn 34 = .ok (.iconst 2, 1) := by decide +kernel
theorem dX1_letIn_35 : decode cX1_letIn 35 = .ok (.aload_n 0, 1) := by decide +kernel
theorem dX1_letIn_36 : decode cX1_letIn 36 = .ok (.getfield 7, 3) := by decide +kernel
theorem dX1_letIn_39 : decode cX1_letIn 39 = .ok (.imul, 1) := by decide +kernel
theorem dX1_letIn_40 : decode cX1_letIn 40 = .ok (.iconst 2, 1) := by decide +kernel
theorem dX1_letIn_41 : decode cX1_letIn 41 = .ok (.isub, 1) := by decide +kernel
theorem dX1_letIn_42 : decode cX1_letIn 42 = .ok (.if_icmp .le 7, 3) := by decide +kernel
theorem dX1_letIn_45 : decode cX1_letIn 45 = .ok (.iconst 1, 1) := by decide +kernel
theorem dX1_letIn_46 : decode cX1_letIn 46 = .ok (.goto 4, 3) := by decide +kernel
theorem dX1_letIn_49 : decode cX1_letIn 49 = .ok (.iconst 0, 1) := by decide +kernel
theorem dX1_letIn_50 : decode cX1_letIn 50 = .ok (.istore_n 1, 1) := by decide +kernel
theorem dX1_letIn_51 : decode cX1_letIn 51 = .ok (.iload_n 1, 1) := by decide +kernel
theorem dX1_letIn_52 : decode cX1_letIn 52 = .ok (.ifCond .ne 4, 3) := by decide +kernel
theorem dX1_letIn_55 : decode cX1_letIn 55 = .ok (.return_, 1) := by decide +kernel
theorem dX1_letIn_56 : decode cX1_letIn 56 = .ok (.aload_n 0, 1) := by decide +kernel
theorem dX1_letIn_57 : decode cX1_letIn 57 = .ok (.getfield 7, 3) := by decide +kernel
theorem dX1_letIn_60 : decode cX1_letIn 60 = .ok (.iconst 1, 1) := by decide +kernel
theorem dX1_letIn_61 : decode cX1_letIn 61 = .ok (.isub, 1) := by decide +kernel
theorem dX1_letIn_62 : decode cX1_letIn 62 = .ok (.istore_n 2, 1) := by decide +kernel
theorem dX1_letIn_63 : decode cX1_letIn 63 = .ok (.iload_n 2, 1) := by decide +kernel
theorem dX1_letIn_64 : decode cX1_letIn 64 = .ok (.ifCond .le 50, 3) := by decide +kernel
theorem dX1_letIn_67 : decode cX1_letIn 67 = .ok (.iconst 0, 1) := by decide +kernel
theorem dX1_letIn_68 : decode cX1_letIn 68 = .ok (.istore_n 3, 1) := by decide +kernel
theorem dX1_letIn_69 : decode cX1_letIn 69 = .ok (.iload_n 3, 1) := by decide +kernel
theorem dX1_letIn_70 : decode cX1_letIn 70 = .ok (.aload_n 0, 1) := by decide +kernel
theorem dX1_letIn_71 : decode cX1_letIn 71 = .ok (.getfield 7, 3) := by decide +kernel
theorem dX1_letIn_74 : decode cX1_letIn 74 = .ok (.if_icmp .ge 34, 3) := by decide +kernel
theorem dX1_letIn_77 : decode cX1_letIn 77 = .ok (.aload_n 0, 1) := by decide +kernel
theorem dX1_letIn_78 : decode cX1_letIn 78 = .ok (.getfield 42, 3) := by decide +kernel
theorem dX1_letIn_81 : decode cX1_letIn 81 = .ok (.bipush 6, 2) := by decide +kernel
theorem dX1_letIn_83 : decode cX1_letIn 83 = .ok (.iload_n 2, 1) := by decide +kernel
theorem dX1_letIn_84 : decode cX1_letIn 84 = .ok (.imul, 1) := by decide +kernel
theorem dX1_letIn_85 : decode cX1_letIn 85 = .ok (.iload_n 3, 1) := by decide +kernel
theorem dX1_letIn_86 : decode cX1_letIn 86 = .ok (.iadd, 1) := by decide +kernel
theorem dX1_letIn_87 : decode cX1_letIn 87 = .ok (.aload_n 0, 1) := by decide +kernel
theorem dX1_letIn_88 : decode cX1_letIn 88 = .ok (.getfield 42, 3) := by decide +kernel
theorem dX1_letIn_91 : decode cX1_letIn 91 = .ok (.bipush 6, 2) := by decide +kernel
theorem dX1_letIn_93 : decode cX1_letIn 93 = .ok (.iload_n 2, 1) := by decide +kernel
theorem dX1_letIn_94 : decode cX1_letIn 94 = .ok (.imul, 1) := by decide +kernel
theorem dX1_letIn_95 : decode cX1_letIn 95 = .ok (.bipush 6, 2) := by decide +kernel
theorem dX1_letIn_97 : decode cX1_letIn 97 = .ok (.isub, 1) := by decide +kernel
theorem dX1_letIn_98 : decode cX1_letIn 98 = .ok (.iload_n 3, 1) := by decide +kernel
theorem dX1_letIn_99 : decode cX1_letIn 99 = .ok (.iadd, 1) := by decide +kernel
theorem dX1_letIn_100 : decode cX1_letIn 100 = .ok (.iaload, 1) := by decide +kernel
theorem dX1_letIn_101 : decode cX1_letIn 101 = .ok (.iastore, 1) := by decide +kernel
theorem dX1_letIn_102 : decode cX1_letIn 102 = .ok (.iinc 3 1, 3) := by decide +kernel
theorem dX1_letIn_105 : decode cX1_letIn 105 = .ok (.goto (-36), 3) := by decide +kernel
theorem dX1_letIn_108 : decode cX1_letIn 108 = .ok (.iinc 2 (-1), 3) := by decide +kernel
theorem dX1_letIn_111 : decode cX1_letIn 111 = .ok (.goto (-48), 3) := by decide +kernel
theorem dX1_letIn_114 : decode cX1_letIn 114 = .ok (.iconst 0, 1) := by decide +kernel
theorem dX1_letIn_115 : decode cX1_letIn 115 = .ok (.istore_n 2, 1) := by decide +kernel
theorem dX1_letIn_116 : decode cX1_letIn 116 = .ok (.iload_n 2, 1) := by decide +kernel
theorem dX1_letIn_117 : decode cX1_letIn 117 = .ok (.aload_n 0, 1) := by decide +kernel
theorem dX1_letIn_118 : decode cX1_letIn 118 = .ok (.getfield 7, 3) := by decide +kernel
theorem dX1_letIn_121 : decode cX1_letIn 121 = .ok (.if_icmp .ge 29, 3) := by decide +kernel
theorem dX1_letIn_124 : decode cX1_letIn 124 = .ok (.aload_n 0, 1) := by decide +kernel
theorem dX1_letIn_125 : decode cX1_letIn 125 = .ok (.getfield 42, 3) := by decide +kernel
theorem dX1_letIn_128 : decode cX1_letIn 128 = .ok (.iload_n 2, 1) := by decide +kernel
theorem dX1_letIn_129 : decode cX1_letIn 129 = .ok (.aload_n 0, 1) := by decide +kernel
theorem dX1_letIn_130 : decode cX1_letIn 130 = .ok (.getfield 13, 3) := by decide +kernel
theorem dX1_letIn_133 : decode cX1_letIn 133 = .ok (.bipush 6, 2) := by decide +kernel
theorem dX1_letIn_135 : decode cX1_letIn 135 = .ok (.aload_n 0, 1) := by decide +kernel
theorem dX1_letIn_136 : decode cX1_letIn 136 = .ok (.getfield 63, 3) := by decide +kernel
theorem dX1_letIn_139 : decode cX1_letIn 139 = .ok (.imul, 1) := by decide +kernel
theorem dX1_letIn_140 : decode cX1_letIn 140 = .ok (.iload_n 2, 1) := by decide +kernel
theorem dX1_letIn_141 : decode cX1_letIn 141 = .ok (.iadd, 1) := by decide +kernel
theorem dX1_letIn_142 : decode cX1_letIn 142 = .ok (.iaload, 1) := by decide +kernel
theorem dX1_letIn_143 : decode cX1_letIn 143 = .ok (.iastore, 1) := by decide +kernel
theorem dX1_letIn_144 : decode cX1_letIn 144 = .ok (.iinc 2 1, 3) := by decide +kernel
theorem dX1_letIn_147 : decode cX1_letIn 147 = .ok (.goto (-31), 3) := by decide +kernel
theorem dX1_letIn_150 : decode cX1_letIn 150 = .ok (.aload_n 0, 1) := by decide +kernel
theorem dX1_letIn_151 : decode cX1_letIn 151 = .ok (.dup, 1) := by decide +kernel
theorem dX1_letIn_152 : decode cX1_letIn 152 = .ok (.getfield 63, 3) := by decide +kernel
theorem dX1_letIn_155 : decode cX1_letIn 155 = .ok (.iconst 1, 1) := by decide +kernel
theorem dX1_letIn_156 : decode cX1_letIn 156 = .ok (.iadd, 1) := by decide +kernel
theorem dX1_letIn_157 : decode cX1_letIn 157 = .ok (.putfield 63, 3) := by decide +kernel
theorem dX1_letIn_160 : decode cX1_letIn 160 = .ok (.aload_n 0, 1) := by decide +kernel
theorem dX1_letIn_161 : decode cX1_letIn 161 = .ok (.dup, 1) := by decide +kernel
theorem dX1_letIn_162 : decode cX1_letIn 162 = .ok (.getfield 66, 3) := by decide +kernel
theorem dX1_letIn_165 : decode cX1_letIn 165 = .ok (.iconst 1, 1) := by decide +kernel
theorem dX1_letIn_166 : decode cX1_letIn 166 = .ok (.iadd, 1) := by decide +kernel
theorem dX1_letIn_167 : decode cX1_letIn 167 = .ok (.putfield 66, 3) := by decide +kernel
theorem dX1_letIn_170 : decode cX1_letIn 170 = .ok (.aload_n 0, 1) := by decide +kernel
theorem dX1_letIn_171 : decode cX1_letIn 171 = .ok (.getfield 66, 3) := by decide +kernel
theorem dX1_letIn_174 : decode cX1_letIn 174 = .ok (.aload_n 0, 1) := by decide +kernel
theorem dX1_letIn_175 : decode cX1_letIn 175 = .ok (.getfield 7, 3) := by decide +kernel
theorem dX1_letIn_178 : decode cX1_letIn 178 = .ok (.if_icmp .ne 13, 3) := by decide +kernel
theorem dX1_letIn_181 : decode cX1_letIn 181 = .ok (.aload_n 0, 1) := by decide +kernel
theorem dX1_letIn_182 : decode cX1_letIn 182 = .ok (.iconst 0, 1) := by decide +kernel
theorem dX1_letIn_183 : decode cX1_letIn 183 = .ok (.putfield 66, 3) := by decide +kernel
theorem dX1_letIn_186 : decode cX1_letIn 186 = .ok (.aload_n 0, 1) := by decide +kernel
theorem dX1_letIn_187 : decode cX1_letIn 187 = .ok (.iconst 1, 1) := by decide +kernel
theorem dX1_letIn_188 : decode cX1_letIn 188 = .ok (.putfield 69, 3) := by decide +kernel
theorem dX1_letIn_191 : decode cX1_letIn 191 = .ok (.return_, 1) := by decide +kernel
theorem dX1_goOn_0 : decode cX1_goOn 0 = .ok (.iconst 0, 1) := by decide +kernel
theorem dX1_goOn_1 : decode cX1_goOn 1 = .ok (.istore_n 1, 1) := by decide +kernel
theorem dX1_goOn_2 : decode cX1_goOn 2 = .ok (.iload_n 1, 1) := by decide +kernel
theorem dX1_goOn_3 : decode cX1_goOn 3 = .ok (.aload_n 0, 1) := by decide +kernel
theorem dX1_goOn_4 : decode cX1_goOn 4 = .ok (.getfield 7, 3) := by decide +kernel
theorem dX1_goOn_7 : decode cX1_goOn 7 = .ok (.if_icmp .ge 154, 3) := by decide +kernel
theorem dX1_goOn_10 : decode cX1_goOn 10 = .ok (.aload_n 0, 1) := by decide +kernel
theorem dX1_goOn_11 : decode cX1_goOn 11 = .ok (.getfield 7, 3) := by decide +kernel
theorem dX1_goOn_14 : decode cX1_goOn 14 = .ok (.iconst 1, 1) := by decide +kernel
theorem dX1_goOn_15 : decode cX1_goOn 15 = .ok (.isub, 1) := by decide +kernel
theorem dX1_goOn_16 : decode cX1_goOn 16 = .ok (.istore_n 2, 1) := by decide +kernel
theorem dX1_goOn_17 : decode cX1_goOn 17 = .ok (.iload_n 2, 1) := by decide +kernel
theorem dX1_goOn_18 : decode cX1_goOn 18 = .ok (.ifCond .le 58, 3) := by decide +kernel
theorem dX1_goOn_21 : decode cX1_goOn 21 = .ok (.bipush 6, 2) := by decide +kernel
theorem dX1_goOn_23 : decode cX1_goOn 23 = .ok (.iload_n 1, 1) := by decide +kernel
theorem dX1_goOn_24 : decode cX1_goOn 24 = .ok (.imul, 1) := by decide +kernel
theorem dX1_goOn_25 : decode cX1_goOn 25 = .ok (.iload_n 2, 1) := by decide +kernel
theorem dX1_goOn_26 : decode cX1_goOn 26 = .ok (.iadd, 1) := by decide +kernel
theorem dX1_goOn_27 : decode cX1_goOn 27 = .ok (.istore_n 3, 1) := by decide +kernel
theorem dX1_goOn_28 : decode cX1_goOn 28 = .ok (.aload_n 0, 1) := by decide +kernel
theorem dX1_goOn_29 : decode cX1_goOn 29 = .ok (.getfield 33, 3) := by decide +kernel
theorem dX1_goOn_32 : decode cX1_goOn 32 = .ok (.iload_n 3, 1) := by decide +kernel
theorem dX1_goOn_33 : decode cX1_goOn 33 = .ok (.aload_n 0, 1) := by decide +kernel
theorem dX1_goOn_34 : decode cX1_goOn 34 = .ok (.getfield 33, 3) := by decide +kernel
theorem dX1_goOn_37 : decode cX1_goOn 37 = .ok (.iload_n 3, 1) := by decide +kernel
theorem dX1_goOn_38 : decode cX1_goOn 38 = .ok (.iconst 1, 1) := by decide +kernel
theorem dX1_goOn_39 : decode cX1_goOn 39 = .ok (.isub, 1) := by decide +kernel
theorem dX1_goOn_40 : decode cX1_goOn 40 = .ok (.iaload, 1) := by decide +kernel
theorem dX1_goOn_41 : decode cX1_goOn 41 = .ok (.iastore, 1) := by decide +kernel
theorem dX1_goOn_42 : decode cX1_goOn 42 = .ok (.aload_n 0, 1) := by decide +kernel
theorem dX1_goOn_43 : decode cX1_goOn 43 = .ok (.getfield 45, 3) := by decide +kernel
theorem dX1_goOn_46 : decode cX1_goOn 46 = .ok (.iload_n 3, 1) := by decide +kernel
theorem dX1_goOn_47 : decode cX1_goOn 47 = .ok (.aload_n 0, 1) := by decide +kernel
theorem dX1_goOn_48 : decode cX1_goOn 48 = .ok (.getfield 45, 3) := by decide +kernel
theorem dX1_goOn_51 : decode cX1_goOn 51 = .ok (.iload_n 3, 1) := by decide +kernel
theorem dX1_goOn_52 : decode cX1_goOn 52 = .ok (.iconst 1, 1) := by decide +kernel
theorem dX1_goOn_53 : decode cX1_goOn 53 = .ok (.isub, 1) := by decide +kernel
theorem dX1_goOn_54 : decode cX1_goOn 54 = .ok (.baload, 1) := by decide +kernel
theorem dX1_goOn_55 : decode cX1_goOn 55 = .ok (.bastore, 1) := by decide +kernel
theorem dX1_goOn_56 : decode cX1_goOn 56 = .ok (.aload_n 0, 1) := by decide +kernel
theorem dX1_goOn_57 : decode cX1_goOn 57 = .ok (.getfield 48, 3) := by decide +kernel
theorem dX1_goOn_60 : decode cX1_goOn 60 = .ok (.iload_n 3, 1) := by decide +kernel
theorem dX1_goOn_61 : decode cX1_goOn 61 = .ok (.aload_n 0, 1) := by decide +kernel
theorem dX1_goOn_62 : decode cX1_goOn 62 = .ok (.getfield 48, 3) := by decide +kernel
theorem dX1_goOn_65 : decode cX1_goOn 65 = .ok (.iload_n 3, 1) := by decide +kernel
theorem dX1_goOn_66 : decode cX1_goOn 66 = .ok (.iconst 1, 1) := by decide +kernel
theorem dX1_goOn_67 : decode cX1_goOn 67 = .ok (.isub, 1) := by decide +kernel
theorem dX1_goOn_68 : decode cX1_goOn 68 = .ok (.baload, 1) := by decide +kernel
theorem dX1_goOn_69 : decode cX1_goOn 69 = .ok (.bastore, 1) := by decide +kernel
theorem dX1_goOn_70 : decode cX1_goOn 70 = .ok (.iinc 2 (-1), 3) := by decide +kernel
theorem dX1_goOn_73 : decode cX1_goOn 73 = .ok (.goto (-56), 3) := by decide +kernel
theorem dX1_goOn_76 : decode cX1_goOn 76 = .ok (.aload_n 0, 1) := by decide +kernel
theorem dX1_goOn_77 : decode cX1_goOn 77 = .ok (.iload_n 1, 1) := by decide +kernel
theorem dX1_goOn_78 : decode cX1_goOn 78 = .ok (.invokevirtual 97, 3) := by decide +kernel
theorem dX1_goOn_81 : decode cX1_goOn 81 = .ok (.istore_n 2, 1) := by decide +kernel
theorem dX1_goOn_82 : decode cX1_goOn 82 = .ok (.aload_n 0, 1) := by decide +kernel
theorem dX1_goOn_83 : decode cX1_goOn 83 = .ok (.getfield 33, 3) := by decide +kernel
theorem dX1_goOn_86 : decode cX1_goOn 86 = .ok (.bipush 6, 2) := by decide +kernel
theorem dX1_goOn_88 : decode cX1_goOn 88 = .ok (.iload_n 1, 1) := by decide +kernel
theorem dX1_goOn_89 : decode cX1_goOn 89 = .ok (.imul, 1) := by decide +kernel
theorem dX1_goOn_90 : decode cX1_goOn 90 = .ok (.iload_n 2, 1) := by decide +kernel
theorem dX1_goOn_91 : decode cX1_goOn 91 = .ok (.ifCond .ge 7, 3) := by decide +kernel
theorem dX1_goOn_94 : decode cX1_goOn 94 = .ok (.iconst 0, 1) := by decide +kernel
theorem dX1_goOn_95 : decode cX1_goOn 95 = .ok (.goto 14, 3) := by decide +kernel
theorem dX1_goOn_98 : decode cX1_goOn 98 = .ok (.aload_n 0, 1) := by decide +kernel
theorem dX1_goOn_99 : decode cX1_goOn 99 = .ok (.getfield 17, 3) := by decide +kernel
theorem dX1_goOn_102 : decode cX1_goOn 102 = .ok (.bipush 6, 2) := by decide +kernel
theorem dX1_goOn_104 : decode cX1_goOn 104 = .ok (.iload_n 2, 1) := by decide +kernel
theorem dX1_goOn_105 : decode cX1_goOn 105 = .ok (.imul, 1) := by decide +kernel
theorem dX1_goOn_106 : decode cX1_goOn 106 = .ok (.iload_n 1, 1) := by decide +kernel
theorem dX1_goOn_107 : decode cX1_goOn 107 = .ok (.iadd, 1) := by decide +kernel
theorem dX1_goOn_108 : decode cX1_goOn 108 = .ok (.iaload, 1) := by decide +kernel
theorem dX1_goOn_109 : decode cX1_goOn 109 = .ok (.iastore, 1) := by decide +kernel
theorem dX1_goOn_110 : decode cX1_goOn 110 = .ok (.aload_n 0, 1) := by decide +kernel
theorem dX1_goOn_111 : decode cX1_goOn 111 = .ok (.getfield 45, 3) := by decide +kernel
theorem dX1_goOn_114 : decode cX1_goOn 114 = .ok (.bipush 6, 2) := by decide +kernel
theorem dX1_goOn_116 : decode cX1_goOn 116 = .ok (.iload_n 1, 1) := by decide +kernel
theorem dX1_goOn_117 : decode cX1_goOn 117 = .ok (.imul, 1) := by decide +kernel
theorem dX1_goOn_118 : decode cX1_goOn 118 = .ok (.iload_n 2, 1) := by decide +kernel
theorem dX1_goOn_119 : decode cX1_goOn 119 = .ok (.ifCond .lt 16, 3) := by decide +kernel
theorem dX1_goOn_122 : decode cX1_goOn 122 = .ok (.aload_n 0, 1) := by decide +kernel
theorem dX1_goOn_123 : decode cX1_goOn 123 = .ok (.getfield 20, 3) := by decide +kernel
theorem dX1_goOn_126 : decode cX1_goOn 126 = .ok (.iload_n 2, 1) := by decide +kernel
theorem dX1_goOn_127 : decode cX1_goOn 127 = .ok (.baload, 1) := by decide +kernel
theorem dX1_goOn_128 : decode cX1_goOn 128 = .ok (.ifCond .eq 7, 3) := by decide +kernel
theorem dX1_goOn_131 : decode cX1_goOn 131 = .ok (.iconst 1, 1) := by decide +kernel
theorem dX1_goOn_132 : decode cX1_goOn 132 = .ok (.goto 4, 3) := by decide +kernel
theorem dX1_goOn_135 : decode cX1_goOn 135 = .ok (.iconst 0, 1) := by decide +kernel
theorem dX1_goOn_136 : decode cX1_goOn 136 = .ok (.bastore, 1) := by decide +kernel
theorem dX1_goOn_137 : decode cX1_goOn 137 = .ok (.aload_n 0, 1) := by decide +kernel
theorem dX1_goOn_138 : decode cX1_goOn 138 = .ok (.getfield 48, 3) := by decide +kernel
theorem dX1_goOn_141 : decode cX1_goOn 141 = .ok (.bipush 6, 2) := by decide +kernel
theorem dX1_goOn_143 : decode cX1_goOn 143 = .ok (.iload_n 1, 1) := by decide +kernel
theorem dX1_goOn_144 : decode cX1_goOn 144 = .ok (.imul, 1) := by decide +kernel
theorem dX1_goOn_145 : decode cX1_goOn 145 = .ok (.iload_n 2, 1) := by decide +kernel
theorem dX1_goOn_146 : decode cX1_goOn 146 = .ok (.ifCond .lt 7, 3) := by decide +kernel
theorem dX1_goOn_149 : decode cX1_goOn 149 = .ok (.iconst 1, 1) := by decide +kernel
theorem dX1_goOn_150 : decode cX1_goOn 150 = .ok (.goto 4, 3) := by decide +kernel
theorem dX1_goOn_153 : decode cX1_goOn 153 = .ok (.iconst 0, 1) := by decide +kernel
theorem dX1_goOn_154 : decode cX1_goOn 154 = .ok (.bastore, 1) := by decide +kernel
theorem dX1_goOn_155 : decode cX1_goOn 155 = .ok (.iinc 1 1, 3) := by decide +kernel
theorem dX1_goOn_158 : decode cX1_goOn 158 = .ok (.goto (-156), 3) := by decide +kernel
theorem dX1_goOn_161 : decode cX1_goOn 161 = .ok (.aload_n 0, 1) := by decide +kernel
theorem dX1_goOn_162 : decode cX1_goOn 162 = .ok (.getfield 7, 3) := by decide +kernel
theorem dX1_goOn_165 : decode cX1_goOn 165 = .ok (.iconst 1, 1) := by decide +kernel
theorem dX1_goOn_166 : decode cX1_goOn 166 = .ok (.isub, 1) := by decide +kernel
theorem dX1_goOn_167 : decode cX1_goOn 167 = .ok (.istore_n 1, 1) := by decide +kernel
theorem dX1_goOn_168 : decode cX1_goOn 168 = .ok (.iload_n 1, 1) := by decide +kernel
theorem dX1_goOn_169 : decode cX1_goOn 169 = .ok (.ifCond .lt 99, 3) := by decide +kernel
theorem dX1_goOn_172 : decode cX1_goOn 172 = .ok (.iconst 0, 1) := by decide +kernel
theorem dX1_goOn_173 : decode cX1_goOn 173 = .ok (.istore_n 2, 1) := by decide +kernel
theorem dX1_goOn_174 : decode cX1_goOn 174 = .ok (.iload_n 2, 1) := by decide +kernel
theorem dX1_goOn_175 : decode cX1_goOn 175 = .ok (.aload_n 0, 1) := by decide +kernel
theorem dX1_goOn_176 : decode cX1_goOn 176 = .ok (.getfield 7, 3) := by decide +kernel
theorem dX1_goOn_179 : decode cX1_goOn 179 = .ok (.if_icmp .ge 83, 3) := by decide +kernel
theorem dX1_goOn_182 : decode cX1_goOn 182 = .ok (.bipush 6, 2) := by decide +kernel
theorem dX1_goOn_184 : decode cX1_goOn 184 = .ok (.iload_n 1, 1) := by decide +kernel
theorem dX1_goOn_185 : decode cX1_goOn 185 = .ok (.imul, 1) := by decide +kernel
theorem dX1_goOn_186 : decode cX1_goOn 186 = .ok (.iload_n 2, 1) := by decide +kernel
theorem dX1_goOn_187 : decode cX1_goOn 187 = .ok (.iadd, 1) := by decide +kernel
theorem dX1_goOn_188 : decode cX1_goOn 188 = .ok (.istore_n 3, 1) := by decide +kernel
theorem dX1_goOn_189 : decode cX1_goOn 189 = .ok (.aload_n 0, 1) := by decide +kernel
theorem dX1_goOn_190 : decode cX1_goOn 190 = .ok (.getfield 39, 3) := by decide +kernel
theorem dX1_goOn_193 : decode cX1_goOn 193 = .ok (.iload_n 3, 1) := by decide +kernel
theorem dX1_goOn_194 : decode cX1_goOn 194 = .ok (.aload_n 0, 1) := by decide +kernel
theorem dX1_goOn_195 : decode cX1_goOn 195 = .ok (.getfield 45, 3) := by decide +kernel
theorem dX1_goOn_198 : decode cX1_goOn 198 = .ok (.iload_n 3, 1) := by decide +kernel
theorem dX1_goOn_199 : decode cX1_goOn 199 = .ok (.baload, 1) := by decide +kernel
theorem dX1_goOn_200 : decode cX1_goOn 200 = .ok (.ifCond .eq 12, 3) := by decide +kernel
theorem dX1_goOn_203 : decode cX1_goOn 203 = .ok (.aload_n 0, 1) := by decide +kernel
theorem dX1_goOn_204 : decode cX1_goOn 204 = .ok (.getfield 42, 3) := by decide +kernel
theorem dX1_goOn_207 : decode cX1_goOn 207 = .ok (.iload_n 3, 1) := by decide +kernel
theorem dX1_goOn_208 : decode cX1_goOn 208 = .ok (.iaload, 1) := by decide +kernel
theorem dX1_goOn_209 : decode cX1_goOn 209 = .ok (.goto 9, 3) := by decide +kernel
theorem dX1_goOn_212 : decode cX1_goOn 212 = .ok (.aload_n 0, 1) := by decide +kernel
theorem dX1_goOn_213 : decode cX1_goOn 213 = .ok (.getfield 39, 3) := by decide +kernel
theorem dX1_goOn_216 : decode cX1_goOn 216 = .ok (.iload_n 3, 1) := by decide +kernel
theorem dX1_goOn_217 : decode cX1_goOn 217 = .ok (.iaload, 1) := by decide +kernel
theorem dX1_goOn_218 : decode cX1_goOn 218 = .ok (.iastore, 1) := by decide +kernel
theorem dX1_goOn_219 : decode cX1_goOn 219 = .ok (.aload_n 0, 1) := by decide +kernel
theorem dX1_goOn_220 : decode cX1_goOn 220 = .ok (.getfield 36, 3) := by decide +kernel
theorem dX1_goOn_223 : decode cX1_goOn 223 = .ok (.iload_n 3, 1) := by decide +kernel
theorem dX1_goOn_224 : decode cX1_goOn 224 = .ok (.iload_n 1, 1) := by decide +kernel
theorem dX1_goOn_225 : decode cX1_goOn 225 = .ok (.ifCond .ne 7, 3) := by decide +kernel
theorem dX1_goOn_228 : decode cX1_goOn 228 = .ok (.iconst 0, 1) := by decide +kernel
theorem dX1_goOn_229 : decode cX1_goOn 229 = .ok (.goto 12, 3) := by decide +kernel
theorem dX1_goOn_232 : decode cX1_goOn 232 = .ok (.aload_n 0, 1) := by decide +kernel
theorem dX1_goOn_233 : decode cX1_goOn 233 = .ok (.getfield 36, 3) := by decide +kernel
theorem dX1_goOn_236 : decode cX1_goOn 236 = .ok (.iload_n 3, 1) := by decide +kernel
theorem dX1_goOn_237 : decode cX1_goOn 237 = .ok (.bipush 6, 2) := by decide +kernel
theorem dX1_goOn_239 : decode cX1_goOn 239 = .ok (.isub, 1) := by decide +kernel
theorem dX1_goOn_240 : decode cX1_goOn 240 = .ok (.iaload, 1) := by decide +kernel
theorem dX1_goOn_241 : decode cX1_goOn 241 = .ok (.aload_n 0, 1) := by decide +kernel
theorem dX1_goOn_242 : decode cX1_goOn 242 = .ok (.getfield 39, 3) := by decide +kernel
theorem dX1_goOn_245 : decode cX1_goOn 245 = .ok (.iload_n 3, 1) := by decide +kernel
theorem dX1_goOn_246 : decode cX1_goOn 246 = .ok (.iaload, 1) := by decide +kernel
theorem dX1_goOn_247 : decode cX1_goOn 247 = .ok (.aload_n 0, 1) := by decide +kernel
theorem dX1_goOn_248 : decode cX1_goOn 248 = .ok (.getfield 33, 3) := by decide +kernel
theorem dX1_goOn_251 : decode cX1_goOn 251 = .ok (.iload_n 3, 1) := by decide +kernel
theorem dX1_goOn_252 : decode cX1_goOn 252 = .ok (.iaload, 1) := by decide +kernel
theorem dX1_goOn_253 : decode cX1_goOn 253 = .ok (.imul, 1) := by decide +kernel
theorem dX1_goOn_254 : decode cX1_goOn 254 = .ok (.iadd, 1) := by decide +kernel
theorem dX1_goOn_255 : decode cX1_goOn 255 = .ok (.iastore, 1) := by decide +kernel
theorem dX1_goOn_256 : decode cX1_goOn 256 = .ok (.iinc 2 1, 3) := by decide +kernel
theorem dX1_goOn_259 : decode cX1_goOn 259 = .ok (.goto (-85), 3) := by decide +kernel
theorem dX1_goOn_262 : decode cX1_goOn 262 = .ok (.iinc 1 (-1), 3) := by decide +kernel
theorem dX1_goOn_265 : decode cX1_goOn 265 = .ok (.goto (-97), 3) := by decide +kernel
theorem dX1_goOn_268 : decode cX1_goOn 268 = .ok (.iconst 0, 1) := by decide +kernel
theorem dX1_goOn_269 : decode cX1_goOn 269 = .ok (.istore_n 1, 1) := by decide +kernel
theorem dX1_goOn_270 : decode cX1_goOn 270 = .ok (.iload_n 1, 1) := by decide +kernel
theorem dX1_goOn_271 : decode cX1_goOn 271 = .ok (.aload_n 0, 1) := by decide +kernel
theorem dX1_goOn_272 : decode cX1_goOn 272 = .ok (.getfield 7, 3) := by decide +kernel
theorem dX1_goOn_275 : decode cX1_goOn 275 = .ok (.if_icmp .ge 54, 3) := by decide +kernel
theorem dX1_goOn_278 : decode cX1_goOn 278 = .ok (.aload_n 0, 1) := by decide +kernel
theorem dX1_goOn_279 : decode cX1_goOn 279 = .ok (.aload_n 0, 1) := by decide +kernel
theorem dX1_goOn_280 : decode cX1_goOn 280 = .ok (.getfield 7, 3) := by decide +kernel
theorem dX1_goOn_283 : decode cX1_goOn 283 = .ok (.iconst 1, 1) := by decide +kernel
theorem dX1_goOn_284 : decode cX1_goOn 284 = .ok (.isub, 1) := by decide +kernel
theorem dX1_goOn_285 : decode cX1_goOn 285 = .ok (.iload_n 1, 1) := by decide +kernel
theorem dX1_goOn_286 : decode cX1_goOn 286 = .ok (.iadd, 1) := by decide +kernel
theorem dX1_goOn_287 : decode cX1_goOn 287 = .ok (.invokevirtual 97, 3) := by decide +kernel
theorem dX1_goOn_290 : decode cX1_goOn 290 = .ok (.istore_n 2, 1) := by decide +kernel
theorem dX1_goOn_291 : decode cX1_goOn 291 = .ok (.iload_n 2, 1) := by decide +kernel
theorem dX1_goOn_292 : decode cX1_goOn 292 = .ok (.ifCond .lt 31, 3) := by decide +kernel
theorem dX1_goOn_295 : decode cX1_goOn 295 = .ok (.aload_n 0, 1) := by decide +kernel
theorem dX1_goOn_296 : decode cX1_goOn 296 = .ok (.getfield 27, 3) := by decide +kernel
theorem dX1_goOn_299 : decode cX1_goOn 299 = .ok (.bipush 6, 2) := by decide +kernel
theorem dX1_goOn_301 : decode cX1_goOn 301 = .ok (.iload_n 2, 1) := by decide +kernel
theorem dX1_goOn_302 : decode cX1_goOn 302 = .ok (.imul, 1) := by decide +kernel
theorem dX1_goOn_303 : decode cX1_goOn 303 = .ok (.iload_n 1, 1) := by decide +kernel
theorem dX1_goOn_304 : decode cX1_goOn 304 = .ok (.iadd, 1) := by decide +kernel
theorem dX1_goOn_305 : decode cX1_goOn 305 = .ok (.aload_n 0, 1) := by decide +kernel
theorem dX1_goOn_306 : decode cX1_goOn 306 = .ok (.getfield 36, 3) := by decide +kernel
theorem dX1_goOn_309 : decode cX1_goOn 309 = .ok (.bipush 6, 2) := by decide +kernel
theorem dX1_goOn_311 : decode cX1_goOn 311 = .ok (.aload_n 0, 1) := by decide +kernel
theorem dX1_goOn_312 : decode cX1_goOn 312 = .ok (.getfield 7, 3) := by decide +kernel
theorem dX1_goOn_315 : decode cX1_goOn 315 = .ok (.imul, 1) := by decide +kernel
theorem dX1_goOn_316 : decode cX1_goOn 316 = .ok (.bipush 6, 2) := by decide +kernel
theorem dX1_goOn_318 : decode cX1_goOn 318 = .ok (.isub, 1) := by decide +kernel
theorem dX1_goOn_319 : decode cX1_goOn 319 = .ok (.iload_n 1, 1) := by decide +kernel
theorem dX1_goOn_320 : decode cX1_goOn 320 = .ok (.iadd, 1) := by decide +kernel
theorem dX1_goOn_321 : decode cX1_goOn 321 = .ok (.iaload, 1) := by decide +kernel
theorem dX1_goOn_322 : decode cX1_goOn 322 = .ok (.iastore, 1) := by decide +kernel
theorem dX1_goOn_323 : decode cX1_goOn 323 = .ok (.iinc 1 1, 3) := by decide +kernel
theorem dX1_goOn_326 : decode cX1_goOn 326 = .ok (.goto (-56), 3) := by decide +kernel
theorem dX1_goOn_329 : decode cX1_goOn 329 = .ok (.return_, 1) := by decide +kernel
theorem dX1_enteredAgo_0 : decode cX1_enteredAgo 0 = .ok (.iload_n 1, 1) := by decide +kernel
theorem dX1_enteredAgo_1 : decode cX1_enteredAgo 1 = .ok (.aload_n 0, 1) := by decide +kernel
theorem dX1_enteredAgo_2 : decode cX1_enteredAgo 2 = .ok (.getfield 57, 3) := by decide +kernel
theorem dX1_enteredAgo_5 : decode cX1_enteredAgo 5 = .ok (.if_icmp .ge 20, 3) := by decide +kernel
theorem dX1_enteredAgo_8 : decode cX1_enteredAgo 8 = .ok (.aload_n 0, 1) := by decide +kernel
theorem dX1_enteredAgo_9 : decode cX1_enteredAgo 9 = .ok (.getfield 30, 3) := by decide +kernel
theorem dX1_enteredAgo_12 : decode cX1_enteredAgo 12 = .ok (.aload_n 0, 1) := by decide +kernel
theorem dX1_enteredAgo_13 : decode cX1_enteredAgo 13 = .ok (.getfield 57, 3) := by decide +kernel
theorem dX1_enteredAgo_16 : decode cX1_enteredAgo 16 = .ok (.iload_n 1, 1) := by decide +kernel
theorem dX1_enteredAgo_17 : decode cX1_enteredAgo 17 = .ok (.isub, 1) := by decide +kernel
theorem dX1_enteredAgo_18 : decode cX1_enteredAgo 18 = .ok (.bipush 16, 2) := by decide +kernel
theorem dX1_enteredAgo_20 : decode cX1_enteredAgo 20 = .ok (.irem, 1) := by decide +kernel
theorem dX1_enteredAgo_21 : decode cX1_enteredAgo 21 = .ok (.iaload, 1) := by decide +kernel
theorem dX1_enteredAgo_22 : decode cX1_enteredAgo 22 = .ok (.goto 4, 3) := by decide +kernel
theorem dX1_enteredAgo_25 : decode cX1_enteredAgo 25 = .ok (.iconst (-1), 1) := by decide +kernel
theorem dX1_enteredAgo_26 : decode cX1_enteredAgo 26 = .ok (.ireturn, 1) := by decide +kernel
theorem dX1_cell_0 : decode cX1_cell 0 = .ok (.iload_n 1, 1) := by decide +kernel
theorem dX1_cell_1 : decode cX1_cell 1 = .ok (.iconst 0, 1) := by decide +kernel
theorem dX1_cell_2 : decode cX1_cell 2 = .ok (.aload_n 0, 1) := by decide +kernel
theorem dX1_cell_3 : decode cX1_cell 3 = .ok (.getfield 7, 3) := by decide +kernel
theorem dX1_cell_6 : decode cX1_cell 6 = .ok (.iconst 1, 1) := by decide +kernel
theorem dX1_cell_7 : decode cX1_cell 7 = .ok (.isub, 1) := by decide +kernel
theorem dX1_cell_8 : decode cX1_cell 8 = .ok (.invokestatic 82, 3) := by decide +kernel
theorem dX1_cell_11 : decode cX1_cell 11 = .ok (.ifCond .eq 21, 3) := by decide +kernel
theorem dX1_cell_14 : decode cX1_cell 14 = .ok (.iload_n 2, 1) := by decide +kernel
theorem dX1_cell_15 : decode cX1_cell 15 = .ok (.iconst 0, 1) := by decide +kernel
theorem dX1_cell_16 : decode cX1_cell 16 = .ok (.aload_n 0, 1) := by decide +kernel
theorem dX1_cell_17 : decode cX1_cell 17 = .ok (.getfield 7, 3) := by decide +kernel
theorem dX1_cell_20 : decode cX1_cell 20 = .ok (.iconst 1, 1) := by decide +kernel
theorem dX1_cell_21 : decode cX1_cell 21 = .ok (.isub, 1) := by decide +kernel
theorem dX1_cell_22 : decode cX1_cell 22 = .ok (.invokestatic 82, 3) := by decide +kernel
theorem dX1_cell_25 : decode cX1_cell 25 = .ok (.ifCond .eq 7, 3) := by decide +kernel
theorem dX1_cell_28 : decode cX1_cell 28 = .ok (.iconst 1, 1) := by decide +kernel
theorem dX1_cell_29 : decode cX1_cell 29 = .ok (.goto 4, 3) := by decide +kernel
theorem dX1_cell_32 : decode cX1_cell 32 = .ok (.iconst 0, 1) := by decide +kernel
theorem dX1_cell_33 : decode cX1_cell 33 = .ok (.istore 4, 2) := by decide +kernel
theorem dX1_cell_35 : decode cX1_cell 35 = .ok (.aload_n 0, 1) := by decide +kernel
theorem dX1_cell_36 : decode cX1_cell 36 = .ok (.iload 4, 2) := by decide +kernel
theorem dX1_cell_38 : decode cX1_cell 38 = .ok (.ifCond .ne 7, 3) := by decide +kernel
theorem dX1_cell_41 : decode cX1_cell 41 = .ok (.iconst 1, 1) := by decide +kernel
theorem dX1_cell_42 : decode cX1_cell 42 = .ok (.goto 4, 3) := by decide +kernel
theorem dX1_cell_45 : decode cX1_cell 45 = .ok (.iconst 0, 1) := by decide +kernel
theorem dX1_cell_46 : decode cX1_cell 46 = .ok (.iload 4, 2) := by decide +kernel
theorem dX1_cell_48 : decode cX1_cell 48 = .ok (.ifCond .eq 16, 3) := by decide +kernel
theorem dX1_cell_51 : decode cX1_cell 51 = .ok (.iload_n 3, 1) := by decide +kernel
theorem dX1_cell_52 : decode cX1_cell 52 = .ok (.iconst 0, 1) := by decide +kernel
theorem dX1_cell_53 : decode cX1_cell 53 = .ok (.iconst 4, 1) := by decide +kernel
theorem dX1_cell_54 : decode cX1_cell 54 = .ok (.invokestatic 82, 3) := by decide +kernel
theorem dX1_cell_57 : decode cX1_cell 57 = .ok (.ifCond .ne 7, 3) := by decide +kernel
theorem dX1_cell_60 : decode cX1_cell 60 = .ok (.iconst 1, 1) := by decide +kernel
theorem dX1_cell_61 : decode cX1_cell 61 = .ok (.goto 4, 3) := by decide +kernel
theorem dX1_cell_64 : decode cX1_cell 64 = .ok (.iconst 0, 1) := by decide +kernel
theorem dX1_cell_65 : decode cX1_cell 65 = .ok (.invokevirtual 86, 3) := by decide +kernel
theorem dX1_cell_68 : decode cX1_cell 68 = .ok (.ifCond .eq 5, 3) := by decide +kernel
theorem dX1_cell_71 : decode cX1_cell 71 = .ok (.iconst 0, 1) := by decide +kernel
theorem dX1_cell_72 : decode cX1_cell 72 = .ok (.ireturn, 1) := by decide +kernel
theorem dX1_cell_73 : decode cX1_cell 73 = .ok (.bipush 6, 2) := by decide +kernel
theorem dX1_cell_75 : decode cX1_cell 75 = .ok (.iload_n 1, 1) := by decide +kernel
theorem dX1_cell_76 : decode cX1_cell 76 = .ok (.imul, 1) := by decide +kernel
theorem dX1_cell_77 : decode cX1_cell 77 = .ok (.iload_n 2, 1) := by decide +kernel
theorem dX1_cell_78 : decode cX1_cell 78 = .ok (.iadd, 1) := by decide +kernel
theorem dX1_cell_79 : decode cX1_cell 79 = .ok (.istore 5, 2) := by decide +kernel
theorem dX1_cell_81 : decode cX1_cell 81 = .ok (.iload_n 3, 1) := by decide +kernel
theorem dX1_cell_82 : decode cX1_cell 82 = .ok (.tableswitch 62 0 3 #[30, 38, 46, 54], 30) := by decide +kernel
theorem dX1_cell_112 : decode cX1_cell 112 = .ok (.aload_n 0, 1) := by decide +kernel
theorem dX1_cell_113 : decode cX1_cell 113 = .ok (.getfield 33, 3) := by decide +kernel
theorem dX1_cell_116 : decode cX1_cell 116 = .ok (.iload 5, 2) := by decide +kernel
theorem dX1_cell_118 : decode cX1_cell 118 = .ok (.iaload, 1) := by decide +kernel
theorem dX1_cell_119 : decode cX1_cell 119 = .ok (.ireturn, 1) := by decide +kernel
theorem dX1_cell_120 : decode cX1_cell 120 = .ok (.aload_n 0, 1) := by decide +kernel
theorem dX1_cell_121 : decode cX1_cell 121 = .ok (.getfield 36, 3) := by decide +kernel
theorem dX1_cell_124 : decode cX1_cell 124 = .ok (.iload 5, 2) := by decide +kernel
theorem dX1_cell_126 : decode cX1_cell 126 = .ok (.iaload, 1) := by decide +kernel
theorem dX1_cell_127 : decode cX1_cell 127 = .ok (.ireturn, 1) := by decide +kernel
theorem dX1_cell_128 : decode cX1_cell 128 = .ok (.aload_n 0, 1) := by decide +kernel
theorem dX1_cell_129 : decode cX1_cell 129 = .ok (.getfield 39, 3) := by decide +kernel
theorem dX1_cell_132 : decode cX1_cell 132 = .ok (.iload 5, 2) := by decide +kernel
theorem dX1_cell_134 : decode cX1_cell 134 = .ok (.iaload, 1) := by decide +kernel
theorem dX1_cell_135 : decode cX1_cell 135 = .ok (.ireturn, 1) := by decide +kernel
theorem dX1_cell_136 : decode cX1_cell 136 = .ok (.aload_n 0, 1) := by decide +kernel
theorem dX1_cell_137 : decode cX1_cell 137 = .ok (.getfield 42, 3) := by decide +kernel
theorem dX1_cell_140 : decode cX1_cell 140 = .ok (.iload 5, 2) := by decide +kernel
theorem dX1_cell_142 : decode cX1_cell 142 = .ok (.iaload, 1) := by decide +kernel
theorem dX1_cell_143 : decode cX1_cell 143 = .ok (.ireturn, 1) := by decide +kernel
theorem dX1_cell_144 : decode cX1_cell 144 = .ok (.aload_n 0, 1) := by decide +kernel
theorem dX1_cell_145 : decode cX1_cell 145 = .ok (.getfield 45, 3) := by decide +kernel
theorem dX1_cell_148 : decode cX1_cell 148 = .ok (.iload 5, 2) := by decide +kernel
theorem dX1_cell_150 : decode cX1_cell 150 = .ok (.baload, 1) := by decide +kernel
theorem dX1_cell_151 : decode cX1_cell 151 = .ok (.ifCond .eq 7, 3) := by decide +kernel
theorem dX1_cell_154 : decode cX1_cell 154 = .ok (.iconst 1, 1) := by decide +kernel
theorem dX1_cell_155 : decode cX1_cell 155 = .ok (.goto 4, 3) := by decide +kernel
theorem dX1_cell_158 : decode cX1_cell 158 = .ok (.iconst 0, 1) := by decide +kernel
theorem dX1_cell_159 : decode cX1_cell 159 = .ok (.ireturn, 1) := by decide +kernel
theorem dX1_entered_0 : decode cX1_entered 0 = .ok (.aload_n 0, 1) := by decide +kernel
theorem dX1_entered_1 : decode cX1_entered 1 = .ok (.iload_n 1, 1) := by decide +kernel
theorem dX1_entered_2 : decode cX1_entered 2 = .ok (.iconst 0, 1) := by decide +kernel
theorem dX1_entered_3 : decode cX1_entered 3 = .ok (.aload_n 0, 1) := by decide +kernel
theorem dX1_entered_4 : decode cX1_entered 4 = .ok (.getfield 73, 3) := by decide +kernel
theorem dX1_entered_7 : decode cX1_entered 7 = .ok (.iconst 1, 1) := by decide +kernel
theorem dX1_entered_8 : decode cX1_entered 8 = .ok (.isub, 1) := by decide +kernel
theorem dX1_entered_9 : decode cX1_entered 9 = .ok (.invokestatic 82, 3) := by decide +kernel
theorem dX1_entered_12 : decode cX1_entered 12 = .ok (.ifCond .ne 7, 3) := by decide +kernel
theorem dX1_entered_15 : decode cX1_entered 15 = .ok (.iconst 1, 1) := by decide +kernel
theorem dX1_entered_16 : decode cX1_entered 16 = .ok (.goto 4, 3) := by decide +kernel
theorem dX1_entered_19 : decode cX1_entered 19 = .ok (.iconst 0, 1) := by decide +kernel
theorem dX1_entered_20 : decode cX1_entered 20 = .ok (.iconst 0, 1) := by decide +kernel
theorem dX1_entered_21 : decode cX1_entered 21 = .ok (.invokevirtual 86, 3) := by decide +kernel
theorem dX1_entered_24 : decode cX1_entered 24 = .ok (.ifCond .eq 7, 3) := by decide +kernel
theorem dX1_entered_27 : decode cX1_entered 27 = .ok (.iconst 0, 1) := by decide +kernel
theorem dX1_entered_28 : decode cX1_entered 28 = .ok (.goto 9, 3) := by decide +kernel
theorem dX1_entered_31 : decode cX1_entered 31 = .ok (.aload_n 0, 1) := by decide +kernel
theorem dX1_entered_32 : decode cX1_entered 32 = .ok (.getfield 24, 3) := by decide +kernel
theorem dX1_entered_35 : decode cX1_entered 35 = .ok (.iload_n 1, 1) := by decide +kernel
theorem dX1_entered_36 : decode cX1_entered 36 = .ok (.iaload, 1) := by decide +kernel
theorem dX1_entered_37 : decode cX1_entered 37 = .ok (.ireturn, 1) := by decide +kernel
theorem dX1_result_0 : decode cX1_result 0 = .ok (.iload_n 1, 1) := by decide +kernel
theorem dX1_result_1 : decode cX1_result 1 = .ok (.iconst 0, 1) := by decide +kernel
theorem dX1_result_2 : decode cX1_result 2 = .ok (.aload_n 0, 1) := by decide +kernel
theorem dX1_result_3 : decode cX1_result 3 = .ok (.getfield 73, 3) := by decide +kernel
theorem dX1_result_6 : decode cX1_result 6 = .ok (.iconst 1, 1) := by decide +kernel
theorem dX1_result_7 : decode cX1_result 7 = .ok (.isub, 1) := by decide +kernel
theorem dX1_result_8 : decode cX1_result 8 = .ok (.invokestatic 82, 3) := by decide +kernel
theorem dX1_result_11 : decode cX1_result 11 = .ok (.ifCond .eq 21, 3) := by decide +kernel
theorem dX1_result_14 : decode cX1_result 14 = .ok (.iload_n 2, 1) := by decide +kernel
theorem dX1_result_15 : decode cX1_result 15 = .ok (.iconst 0, 1) := by decide +kernel
theorem dX1_result_16 : decode cX1_result 16 = .ok (.aload_n 0, 1) := by decide +kernel
theorem dX1_result_17 : decode cX1_result 17 = .ok (.getfield 7, 3) := by decide +kernel
theorem dX1_result_20 : decode cX1_result 20 = .ok (.iconst 1, 1) := by decide +kernel
theorem dX1_result_21 : decode cX1_result 21 = .ok (.isub, 1) := by decide +kernel
theorem dX1_result_22 : decode cX1_result 22 = .ok (.invokestatic 82, 3) := by decide +kernel
theorem dX1_result_25 : decode cX1_result 25 = .ok (.ifCond .eq 7, 3) := by decide +kernel
theorem dX1_result_28 : decode cX1_result 28 = .ok (.iconst 1, 1) := by decide +kernel
theorem dX1_result_29 : decode cX1_result 29 = .ok (.goto 4, 3) := by decide +kernel
theorem dX1_result_32 : decode cX1_result 32 = .ok (.iconst 0, 1) := by decide +kernel
theorem dX1_result_33 : decode cX1_result 33 = .ok (.istore_n 3, 1) := by decide +kernel
theorem dX1_result_34 : decode cX1_result 34 = .ok (.iload_n 3, 1) := by decide +kernel
theorem dX1_result_35 : decode cX1_result 35 = .ok (.ifCond .eq 54, 3) := by decide +kernel
theorem dX1_result_38 : decode cX1_result 38 = .ok (.aload_n 0, 1) := by decide +kernel
theorem dX1_result_39 : decode cX1_result 39 = .ok (.getfield 24, 3) := by decide +kernel
theorem dX1_result_42 : decode cX1_result 42 = .ok (.iload_n 3, 1) := by decide +kernel
theorem dX1_result_43 : decode cX1_result 43 = .ok (.ifCond .eq 7, 3) := by decide +kernel
theorem dX1_result_46 : decode cX1_result 46 = .ok (.iload_n 1, 1) := by decide +kernel
theorem dX1_result_47 : decode cX1_result 47 = .ok (.goto 4, 3) := by decide +kernel
theorem dX1_result_50 : decode cX1_result 50 = .ok (.iconst 0, 1) := by decide +kernel
theorem dX1_result_51 : decode cX1_result 51 = .ok (.iaload, 1) := by decide +kernel
theorem dX1_result_52 : decode cX1_result 52 = .ok (.ifCond .lt 37, 3) := by decide +kernel
theorem dX1_result_55 : decode cX1_result 55 = .ok (.aload_n 0, 1) := by decide +kernel
theorem dX1_result_56 : decode cX1_result 56 = .ok (.getfield 57, 3) := by decide +kernel
theorem dX1_result_59 : decode cX1_result 59 = .ok (.aload_n 0, 1) := by decide +kernel
theorem dX1_result_60 : decode cX1_result 60 = .ok (.getfield 24, 3) := by decide +kernel
theorem dX1_result_63 : decode cX1_result 63 = .ok (.iload_n 3, 1) := by decide +kernel
theorem dX1_result_64 : decode cX1_result 64 = .ok (.ifCond .eq 7, 3) := by decide +kernel
theorem dX1_result_67 : decode cX1_result 67 = .ok (.iload_n 1, 1) := by decide +kernel
theorem dX1_result_68 : decode cX1_result 68 = .ok (.goto 4, 3) := by decide +kernel
theorem dX1_result_71 : decode cX1_result 71 = .ok (.iconst 0, 1) := by decide +kernel
theorem dX1_result_72 : decode cX1_result 72 = .ok (.iaload, 1) := by decide +kernel
theorem dX1_result_73 : decode cX1_result 73 = .ok (.iconst 2, 1) := by decide +kernel
theorem dX1_result_74 : decode cX1_result 74 = .ok (.aload_n 0, 1) := by decide +kernel
theorem dX1_result_75 : decode cX1_result 75 = .ok (.getfield 7, 3) := by decide +kernel
theorem dX1_result_78 : decode cX1_result 78 = .ok (.imul, 1) := by decide +kernel
theorem dX1_result_79 : decode cX1_result 79 = .ok (.iadd, 1) := by decide +kernel
theorem dX1_result_80 : decode cX1_result 80 = .ok (.iconst 2, 1) := by decide +kernel
theorem dX1_result_81 : decode cX1_result 81 = .ok (.isub, 1) := by decide +kernel
theorem dX1_result_82 : decode cX1_result 82 = .ok (.if_icmp .lt 7, 3) := by decide +kernel
theorem dX1_result_85 : decode cX1_result 85 = .ok (.iconst 1, 1) := by decide +kernel
theorem dX1_result_86 : decode cX1_result 86 = .ok (.goto 4, 3) := by decide +kernel
theorem dX1_result_89 : decode cX1_result 89 = .ok (.iconst 0, 1) := by decide +kernel
theorem dX1_result_90 : decode cX1_result 90 = .ok (.istore 4, 2) := by decide +kernel
theorem dX1_result_92 : decode cX1_result 92 = .ok (.aload_n 0, 1) := by decide +kernel
theorem dX1_result_93 : decode cX1_result 93 = .ok (.iload_n 3, 1) := by decide +kernel
theorem dX1_result_94 : decode cX1_result 94 = .ok (.ifCond .ne 7, 3) := by decide +kernel
theorem dX1_result_97 : decode cX1_result 97 = .ok (.iconst 1, 1) := by decide +kernel
theorem dX1_result_98 : decode cX1_result 98 = .ok (.goto 4, 3) := by decide +kernel
theorem dX1_result_101 : decode cX1_result 101 = .ok (.iconst 0, 1) := by decide +kernel
theorem dX1_result_102 : decode cX1_result 102 = .ok (.iload_n 3, 1) := by decide +kernel
theorem dX1_result_103 : decode cX1_result 103 = .ok (.ifCond .eq 12, 3) := by decide +kernel
theorem dX1_result_106 : decode cX1_result 106 = .ok (.iload 4, 2) := by decide +kernel
theorem dX1_result_108 : decode cX1_result 108 = .ok (.ifCond .ne 7, 3) := by decide +kernel
theorem dX1_result_111 : decode cX1_result 111 = .ok (.iconst 1, 1) := by decide +kernel
theorem dX1_result_112 : decode cX1_result 112 = .ok (.goto 4, 3) := by decide +kernel
theorem dX1_result_115 : decode cX1_result 115 = .ok (.iconst 0, 1) := by decide +kernel
theorem dX1_result_116 : decode cX1_result 116 = .ok (.invokevirtual 86, 3) := by decide +kernel
theorem dX1_result_119 : decode cX1_result 119 = .ok (.ifCond .eq 5, 3) := by decide +kernel
theorem dX1_result_122 : decode cX1_result 122 = .ok (.iconst 0, 1) := by decide +kernel
theorem dX1_result_123 : decode cX1_result 123 = .ok (.ireturn, 1) := by decide +kernel
theorem dX1_result_124 : decode cX1_result 124 = .ok (.aload_n 0, 1) := by decide +kernel
theorem dX1_result_125 : decode cX1_result 125 = .ok (.getfield 27, 3) := by decide +kernel
theorem dX1_result_128 : decode cX1_result 128 = .ok (.bipush 6, 2) := by decide +kernel
theorem dX1_result_130 : decode cX1_result 130 = .ok (.iload_n 1, 1) := by decide +kernel
theorem dX1_result_131 : decode cX1_result 131 = .ok (.imul, 1) := by decide +kernel
theorem dX1_result_132 : decode cX1_result 132 = .ok (.iload_n 2, 1) := by decide +kernel
theorem dX1_result_133 : decode cX1_result 133 = .ok (.iadd, 1) := by decide +kernel
theorem dX1_result_134 : decode cX1_result 134 = .ok (.iaload, 1) := by decide +kernel
theorem dX1_result_135 : decode cX1_result 135 = .ok (.ireturn, 1) := by decide +kernel
theorem dX1_about_0 : decode cX1_about 0 = .ok (.aload_n 0, 1) := by decide +kernel
theorem dX1_about_1 : decode cX1_about 1 = .ok (.iload_n 1, 1) := by decide +kernel
theorem dX1_about_2 : decode cX1_about 2 = .ok (.iconst 0, 1) := by decide +kernel
theorem dX1_about_3 : decode cX1_about 3 = .ok (.bipush 6, 2) := by decide +kernel
theorem dX1_about_5 : decode cX1_about 5 = .ok (.invokestatic 82, 3) := by decide +kernel
theorem dX1_about_8 : decode cX1_about 8 = .ok (.ifCond .ne 7, 3) := by decide +kernel
theorem dX1_about_11 : decode cX1_about 11 = .ok (.iconst 1, 1) := by decide +kernel
theorem dX1_about_12 : decode cX1_about 12 = .ok (.goto 4, 3) := by decide +kernel
theorem dX1_about_15 : decode cX1_about 15 = .ok (.iconst 0, 1) := by decide +kernel
theorem dX1_about_16 : decode cX1_about 16 = .ok (.iconst 0, 1) := by decide +kernel
theorem dX1_about_17 : decode cX1_about 17 = .ok (.invokevirtual 86, 3) := by decide +kernel
theorem dX1_about_20 : decode cX1_about 20 = .ok (.ifCond .eq 5, 3) := by decide +kernel
theorem dX1_about_23 : decode cX1_about 23 = .ok (.iconst 0, 1) := by decide +kernel
theorem dX1_about_24 : decode cX1_about 24 = .ok (.ireturn, 1) := by decide +kernel
theorem dX1_about_25 : decode cX1_about 25 = .ok (.iconst 0, 1) := by decide +kernel
theorem dX1_about_26 : decode cX1_about 26 = .ok (.istore_n 2, 1) := by decide +kernel
theorem dX1_about_27 : decode cX1_about 27 = .ok (.iconst 0, 1) := by decide +kernel
theorem dX1_about_28 : decode cX1_about 28 = .ok (.istore_n 3, 1) := by decide +kernel
theorem dX1_about_29 : decode cX1_about 29 = .ok (.iload_n 3, 1) := by decide +kernel
theorem dX1_about_30 : decode cX1_about 30 = .ok (.bipush 36, 2) := by decide +kernel
theorem dX1_about_32 : decode cX1_about 32 = .ok (.if_icmp .ge 26, 3) := by decide +kernel
theorem dX1_about_35 : decode cX1_about 35 = .ok (.aload_n 0, 1) := by decide +kernel
theorem dX1_about_36 : decode cX1_about 36 = .ok (.getfield 48, 3) := by decide +kernel
theorem dX1_about_39 : decode cX1_about 39 = .ok (.iload_n 3, 1) := by decide +kernel
theorem dX1_about_40 : decode cX1_about 40 = .ok (.baload, 1) := by decide +kernel
theorem dX1_about_41 : decode cX1_about 41 = .ok (.ifCond .eq 9, 3) := by decide +kernel
theorem dX1_about_44 : decode cX1_about 44 = .ok (.iload_n 2, 1) := by decide +kernel
theorem dX1_about_45 : decode cX1_about 45 = .ok (.iconst 1, 1) := by decide +kernel
theorem dX1_about_46 : decode cX1_about 46 = .ok (.iadd, 1) := by decide +kernel
theorem dX1_about_47 : decode cX1_about 47 = .ok (.goto 4, 3) := by decide +kernel
theorem dX1_about_50 : decode cX1_about 50 = .ok (.iload_n 2, 1) := by decide +kernel
theorem dX1_about_51 : decode cX1_about 51 = .ok (.istore_n 2, 1) := by decide +kernel
theorem dX1_about_52 : decode cX1_about 52 = .ok (.iinc 3 1, 3) := by decide +kernel
theorem dX1_about_55 : decode cX1_about 55 = .ok (.goto (-26), 3) := by decide +kernel
theorem dX1_about_58 : decode cX1_about 58 = .ok (.iload_n 1, 1) := by decide +kernel
theorem dX1_about_59 : decode cX1_about 59 = .ok (.tableswitch 82 0 5 #[37, 42, 52, 62, 67, 80], 37) := by decide +kernel
theorem dX1_about_96 : decode cX1_about 96 = .ok (.aload_n 0, 1) := by decide +kernel
theorem dX1_about_97 : decode cX1_about 97 = .ok (.getfield 57, 3) := by decide +kernel
theorem dX1_about_100 : decode cX1_about 100 = .ok (.ireturn, 1) := by decide +kernel
theorem dX1_about_101 : decode cX1_about 101 = .ok (.aload_n 0, 1) := by decide +kernel
theorem dX1_about_102 : decode cX1_about 102 = .ok (.getfield 73, 3) := by decide +kernel
theorem dX1_about_105 : decode cX1_about 105 = .ok (.aload_n 0, 1) := by decide +kernel
theorem dX1_about_106 : decode cX1_about 106 = .ok (.getfield 76, 3) := by decide +kernel
theorem dX1_about_109 : decode cX1_about 109 = .ok (.isub, 1) := by decide +kernel
theorem dX1_about_110 : decode cX1_about 110 = .ok (.ireturn, 1) := by decide +kernel
theorem dX1_about_111 : decode cX1_about 111 = .ok (.aload_n 0, 1) := by decide +kernel
theorem dX1_about_112 : decode cX1_about 112 = .ok (.getfield 60, 3) := by decide +kernel
theorem dX1_about_115 : decode cX1_about 115 = .ok (.aload_n 0, 1) := by decide +kernel
theorem dX1_about_116 : decode cX1_about 116 = .ok (.getfield 63, 3) := by decide +kernel
theorem dX1_about_119 : decode cX1_about 119 = .ok (.isub, 1) := by decide +kernel
theorem dX1_about_120 : decode cX1_about 120 = .ok (.ireturn, 1) := by decide +kernel
theorem dX1_about_121 : decode cX1_about 121 = .ok (.aload_n 0, 1) := by decide +kernel
theorem dX1_about_122 : decode cX1_about 122 = .ok (.getfield 79, 3) := by decide +kernel
theorem dX1_about_125 : decode cX1_about 125 = .ok (.ireturn, 1) := by decide +kernel
theorem dX1_about_126 : decode cX1_about 126 = .ok (.aload_n 0, 1) := by decide +kernel
theorem dX1_about_127 : decode cX1_about 127 = .ok (.getfield 69, 3) := by decide +kernel
theorem dX1_about_130 : decode cX1_about 130 = .ok (.ifCond .eq 7, 3) := by decide +kernel
theorem dX1_about_133 : decode cX1_about 133 = .ok (.iconst 1, 1) := by decide +kernel
theorem dX1_about_134 : decode cX1_about 134 = .ok (.goto 4, 3) := by decide +kernel
theorem dX1_about_137 : decode cX1_about 137 = .ok (.iconst 0, 1) := by decide +kernel
theorem dX1_about_138 : decode cX1_about 138 = .ok (.ireturn, 1) := by decide +kernel
theorem dX1_about_139 : decode cX1_about 139 = .ok (.iload_n 2, 1) := by decide +kernel
theorem dX1_about_140 : decode cX1_about 140 = .ok (.ireturn, 1) := by decide +kernel
theorem dX1_about_141 : decode cX1_about 141 = .ok (.aload_n 0, 1) := by decide +kernel
theorem dX1_about_142 : decode cX1_about 142 = .ok (.getfield 7, 3) := by decide +kernel
theorem dX1_about_145 : decode cX1_about 145 = .ok (.ireturn, 1) := by decide +kernel
