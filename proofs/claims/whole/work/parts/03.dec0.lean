theorem dX0_init_0 : decode cX0_init 0 = .ok (.aload_n 0, 1) := by decide +kernel
theorem dX0_init_1 : decode cX0_init 1 = .ok (.invokespecial 1, 3) := by decide +kernel
theorem dX0_init_4 : decode cX0_init 4 = .ok (.aload_n 0, 1) := by decide +kernel
theorem dX0_init_5 : decode cX0_init 5 = .ok (.bipush 40, 2) := by decide +kernel
theorem dX0_init_7 : decode cX0_init 7 = .ok (.newarray .long, 2) := by decide +kernel
theorem dX0_init_9 : decode cX0_init 9 = .ok (.putfield 9, 3) := by decide +kernel
theorem dX0_init_12 : decode cX0_init 12 = .ok (.aload_n 0, 1) := by decide +kernel
theorem dX0_init_13 : decode cX0_init 13 = .ok (.bipush 40, 2) := by decide +kernel
theorem dX0_init_15 : decode cX0_init 15 = .ok (.newarray .long, 2) := by decide +kernel
theorem dX0_init_17 : decode cX0_init 17 = .ok (.putfield 13, 3) := by decide +kernel
theorem dX0_init_20 : decode cX0_init 20 = .ok (.aload_n 0, 1) := by decide +kernel
theorem dX0_init_21 : decode cX0_init 21 = .ok (.iconst 0, 1) := by decide +kernel
theorem dX0_init_22 : decode cX0_init 22 = .ok (.putfield 16, 3) := by decide +kernel
theorem dX0_init_25 : decode cX0_init 25 = .ok (.aload_n 0, 1) := by decide +kernel
theorem dX0_init_26 : decode cX0_init 26 = .ok (.bipush 16, 2) := by decide +kernel
theorem dX0_init_28 : decode cX0_init 28 = .ok (.newarray .long, 2) := by decide +kernel
theorem dX0_init_30 : decode cX0_init 30 = .ok (.putfield 20, 3) := by decide +kernel
theorem dX0_init_33 : decode cX0_init 33 = .ok (.aload_n 0, 1) := by decide +kernel
theorem dX0_init_34 : decode cX0_init 34 = .ok (.bipush 16, 2) := by decide +kernel
theorem dX0_init_36 : decode cX0_init 36 = .ok (.newarray .long, 2) := by decide +kernel
theorem dX0_init_38 : decode cX0_init 38 = .ok (.putfield 23, 3) := by decide +kernel
theorem dX0_init_41 : decode cX0_init 41 = .ok (.aload_n 0, 1) := by decide +kernel
theorem dX0_init_42 : decode cX0_init 42 = .ok (.iconst 0, 1) := by decide +kernel
theorem dX0_init_43 : decode cX0_init 43 = .ok (.putfield 26, 3) := by decide +kernel
theorem dX0_init_46 : decode cX0_init 46 = .ok (.aload_n 0, 1) := by decide +kernel
theorem dX0_init_47 : decode cX0_init 47 = .ok (.bipush 12, 2) := by decide +kernel
theorem dX0_init_49 : decode cX0_init 49 = .ok (.newarray .long, 2) := by decide +kernel
theorem dX0_init_51 : decode cX0_init 51 = .ok (.putfield 29, 3) := by decide +kernel
theorem dX0_init_54 : decode cX0_init 54 = .ok (.aload_n 0, 1) := by decide +kernel
theorem dX0_init_55 : decode cX0_init 55 = .ok (.bipush 12, 2) := by decide +kernel
theorem dX0_init_57 : decode cX0_init 57 = .ok (.newarray .long, 2) := by decide +kernel
theorem dX0_init_59 : decode cX0_init 59 = .ok (.putfield 32, 3) := by decide +kernel
theorem dX0_init_62 : decode cX0_init 62 = .ok (.aload_n 0, 1) := by decide +kernel
theorem dX0_init_63 : decode cX0_init 63 = .ok (.iconst 0, 1) := by decide +kernel
theorem dX0_init_64 : decode cX0_init 64 = .ok (.putfield 35, 3) := by decide +kernel
theorem dX0_init_67 : decode cX0_init 67 = .ok (.return_, 1) := by decide +kernel
theorem dX0_turn_0 : decode cX0_turn 0 = .ok (.lload_n 1, 1) := by decide +kernel
theorem dX0_turn_1 : decode cX0_turn 1 = .ok (.lconst 0, 1) := by decide +kernel
theorem dX0_turn_2 : decode cX0_turn 2 = .ok (.ldc2_w 38, 3) := by decide +kernel
theorem dX0_turn_5 : decode cX0_turn 5 = .ok (.invokestatic 40, 3) := by decide +kernel
theorem dX0_turn_8 : decode cX0_turn 8 = .ok (.ifCond .eq 10, 3) := by decide +kernel
theorem dX0_turn_11 : decode cX0_turn 11 = .ok (.lload_n 3, 1) := by decide +kernel
theorem dX0_turn_12 : decode cX0_turn 12 = .ok (.invokestatic 44, 3) := by decide +kernel
theorem dX0_turn_15 : decode cX0_turn 15 = .ok (.ifCond .ne 13, 3) := by decide +kernel
theorem dX0_turn_18 : decode cX0_turn 18 = .ok (.new 48, 3) := by decide +kernel
theorem dX0_turn_21 : decode cX0_turn 21 = .ok (.dup, 1) := by decide +kernel
theorem dX0_turn_22 : decode cX0_turn 22 = .ok (.ldc 50, 2) := by decide +kernel
theorem dX0_turn_24 : decode cX0_turn 24 = .ok (.invokespecial 52, 3) := by decide +kernel
theorem dX0_turn_27 : decode cX0_turn 27 = .ok (.athrow, 1) := by decide +kernel
theorem dX0_turn_28 : decode cX0_turn 28 = .ok (.aload_n 0, 1) := by decide +kernel
theorem dX0_turn_29 : decode cX0_turn 29 = .ok (.getfield 16, 3) := by decide +kernel
theorem dX0_turn_32 : decode cX0_turn 32 = .ok (.ifCond .le 29, 3) := by decide +kernel
theorem dX0_turn_35 : decode cX0_turn 35 = .ok (.lload_n 1, 1) := by decide +kernel
theorem dX0_turn_36 : decode cX0_turn 36 = .ok (.aload_n 0, 1) := by decide +kernel
theorem dX0_turn_37 : decode cX0_turn 37 = .ok (.getfield 9, 3) := by decide +kernel
theorem dX0_turn_40 : decode cX0_turn 40 = .ok (.aload_n 0, 1) := by decide +kernel
theorem dX0_turn_41 : decode cX0_turn 41 = .ok (.getfield 16, 3) := by decide +kernel
theorem dX0_turn_44 : decode cX0_turn 44 = .ok (.iconst 1, 1) := by decide +kernel
theorem dX0_turn_45 : decode cX0_turn 45 = .ok (.isub, 1) := by decide +kernel
theorem dX0_turn_46 : decode cX0_turn 46 = .ok (.laload, 1) := by decide +kernel
theorem dX0_turn_47 : decode cX0_turn 47 = .ok (.lcmp, 1) := by decide +kernel
theorem dX0_turn_48 : decode cX0_turn 48 = .ok (.ifCond .gt 13, 3) := by decide +kernel
theorem dX0_turn_51 : decode cX0_turn 51 = .ok (.new 48, 3) := by decide +kernel
theorem dX0_turn_54 : decode cX0_turn 54 = .ok (.dup, 1) := by decide +kernel
theorem dX0_turn_55 : decode cX0_turn 55 = .ok (.ldc 55, 2) := by decide +kernel
theorem dX0_turn_57 : decode cX0_turn 57 = .ok (.invokespecial 52, 3) := by decide +kernel
theorem dX0_turn_60 : decode cX0_turn 60 = .ok (.athrow, 1) := by decide +kernel
theorem dX0_turn_61 : decode cX0_turn 61 = .ok (.aload_n 0, 1) := by decide +kernel
theorem dX0_turn_62 : decode cX0_turn 62 = .ok (.getfield 16, 3) := by decide +kernel
theorem dX0_turn_65 : decode cX0_turn 65 = .ok (.bipush 40, 2) := by decide +kernel
theorem dX0_turn_67 : decode cX0_turn 67 = .ok (.if_icmp .lt 13, 3) := by decide +kernel
theorem dX0_turn_70 : decode cX0_turn 70 = .ok (.new 57, 3) := by decide +kernel
theorem dX0_turn_73 : decode cX0_turn 73 = .ok (.dup, 1) := by decide +kernel
theorem dX0_turn_74 : decode cX0_turn 74 = .ok (.ldc 59, 2) := by decide +kernel
theorem dX0_turn_76 : decode cX0_turn 76 = .ok (.invokespecial 61, 3) := by decide +kernel
theorem dX0_turn_79 : decode cX0_turn 79 = .ok (.athrow, 1) := by decide +kernel
theorem dX0_turn_80 : decode cX0_turn 80 = .ok (.aload_n 0, 1) := by decide +kernel
theorem dX0_turn_81 : decode cX0_turn 81 = .ok (.lload_n 3, 1) := by decide +kernel
theorem dX0_turn_82 : decode cX0_turn 82 = .ok (.invokevirtual 62, 3) := by decide +kernel
theorem dX0_turn_85 : decode cX0_turn 85 = .ok (.ifCond .ne 5, 3) := by decide +kernel
theorem dX0_turn_88 : decode cX0_turn 88 = .ok (.iconst 0, 1) := by decide +kernel
theorem dX0_turn_89 : decode cX0_turn 89 = .ok (.ireturn, 1) := by decide +kernel
theorem dX0_turn_90 : decode cX0_turn 90 = .ok (.aload_n 0, 1) := by decide +kernel
theorem dX0_turn_91 : decode cX0_turn 91 = .ok (.getfield 9, 3) := by decide +kernel
theorem dX0_turn_94 : decode cX0_turn 94 = .ok (.aload_n 0, 1) := by decide +kernel
theorem dX0_turn_95 : decode cX0_turn 95 = .ok (.getfield 16, 3) := by decide +kernel
theorem dX0_turn_98 : decode cX0_turn 98 = .ok (.lload_n 1, 1) := by decide +kernel
theorem dX0_turn_99 : decode cX0_turn 99 = .ok (.lastore, 1) := by decide +kernel
theorem dX0_turn_100 : decode cX0_turn 100 = .ok (.aload_n 0, 1) := by decide +kernel
theorem dX0_turn_101 : decode cX0_turn 101 = .ok (.getfield 13, 3) := by decide +kernel
theorem dX0_turn_104 : decode cX0_turn 104 = .ok (.aload_n 0, 1) := by decide +kernel
theorem dX0_turn_105 : decode cX0_turn 105 = .ok (.getfield 16, 3) := by decide +kernel
theorem dX0_turn_108 : decode cX0_turn 108 = .ok (.lload_n 3, 1) := by decide +kernel
theorem dX0_turn_109 : decode cX0_turn 109 = .ok (.lastore, 1) := by decide +kernel
theorem dX0_turn_110 : decode cX0_turn 110 = .ok (.aload_n 0, 1) := by decide +kernel
theorem dX0_turn_111 : decode cX0_turn 111 = .ok (.dup, 1) := by decide +kernel
theorem dX0_turn_112 : decode cX0_turn 112 = .ok (.getfield 16, 3) := by decide +kernel
theorem dX0_turn_115 : decode cX0_turn 115 = .ok (.iconst 1, 1) := by decide +kernel
theorem dX0_turn_116 : decode cX0_turn 116 = .ok (.iadd, 1) := by decide +kernel
theorem dX0_turn_117 : decode cX0_turn 117 = .ok (.putfield 16, 3) := by decide +kernel
theorem dX0_turn_120 : decode cX0_turn 120 = .ok (.iconst 1, 1) := by decide +kernel
theorem dX0_turn_121 : decode cX0_turn 121 = .ok (.ireturn, 1) := by decide +kernel
theorem dX0_height_0 : decode cX0_height 0 = .ok (.aload_n 0, 1) := by decide +kernel
theorem dX0_height_1 : decode cX0_height 1 = .ok (.lload_n 1, 1) := by decide +kernel
theorem dX0_height_2 : decode cX0_height 2 = .ok (.invokevirtual 65, 3) := by decide +kernel
theorem dX0_height_5 : decode cX0_height 5 = .ok (.ifCond .ne 13, 3) := by decide +kernel
theorem dX0_height_8 : decode cX0_height 8 = .ok (.new 48, 3) := by decide +kernel
theorem dX0_height_11 : decode cX0_height 11 = .ok (.dup, 1) := by decide +kernel
theorem dX0_height_12 : decode cX0_height 12 = .ok (.ldc 68, 2) := by decide +kernel
theorem dX0_height_14 : decode cX0_height 14 = .ok (.invokespecial 52, 3) := by decide +kernel
theorem dX0_height_17 : decode cX0_height 17 = .ok (.athrow, 1) := by decide +kernel
theorem dX0_height_18 : decode cX0_height 18 = .ok (.aload_n 0, 1) := by decide +kernel
theorem dX0_height_19 : decode cX0_height 19 = .ok (.lload_n 1, 1) := by decide +kernel
theorem dX0_height_20 : decode cX0_height 20 = .ok (.invokevirtual 70, 3) := by decide +kernel
theorem dX0_height_23 : decode cX0_height 23 = .ok (.lreturn, 1) := by decide +kernel
theorem dX0_observe_0 : decode cX0_observe 0 = .ok (.aload_n 0, 1) := by decide +kernel
theorem dX0_observe_1 : decode cX0_observe 1 = .ok (.lload_n 1, 1) := by decide +kernel
theorem dX0_observe_2 : decode cX0_observe 2 = .ok (.invokevirtual 65, 3) := by decide +kernel
theorem dX0_observe_5 : decode cX0_observe 5 = .ok (.ifCond .eq 10, 3) := by decide +kernel
theorem dX0_observe_8 : decode cX0_observe 8 = .ok (.lload_n 3, 1) := by decide +kernel
theorem dX0_observe_9 : decode cX0_observe 9 = .ok (.invokestatic 44, 3) := by decide +kernel
theorem dX0_observe_12 : decode cX0_observe 12 = .ok (.ifCond .ne 13, 3) := by decide +kernel
theorem dX0_observe_15 : decode cX0_observe 15 = .ok (.new 48, 3) := by decide +kernel
theorem dX0_observe_18 : decode cX0_observe 18 = .ok (.dup, 1) := by decide +kernel
theorem dX0_observe_19 : decode cX0_observe 19 = .ok (.ldc 74, 2) := by decide +kernel
theorem dX0_observe_21 : decode cX0_observe 21 = .ok (.invokespecial 52, 3) := by decide +kernel
theorem dX0_observe_24 : decode cX0_observe 24 = .ok (.athrow, 1) := by decide +kernel
theorem dX0_observe_25 : decode cX0_observe 25 = .ok (.aload_n 0, 1) := by decide +kernel
theorem dX0_observe_26 : decode cX0_observe 26 = .ok (.getfield 26, 3) := by decide +kernel
theorem dX0_observe_29 : decode cX0_observe 29 = .ok (.ifCond .le 29, 3) := by decide +kernel
theorem dX0_observe_32 : decode cX0_observe 32 = .ok (.lload_n 1, 1) := by decide +kernel
theorem dX0_observe_33 : decode cX0_observe 33 = .ok (.aload_n 0, 1) := by decide +kernel
theorem dX0_observe_34 : decode cX0_observe 34 = .ok (.getfield 20, 3) := by decide +kernel
theorem dX0_observe_37 : decode cX0_observe 37 = .ok (.aload_n 0, 1) := by decide +kernel
theorem dX0_observe_38 : decode cX0_observe 38 = .ok (.getfield 26, 3) := by decide +kernel
theorem dX0_observe_41 : decode cX0_observe 41 = .ok (.iconst 1, 1) := by decide +kernel
theorem dX0_observe_42 : decode cX0_observe 42 = .ok (.isub, 1) := by decide +kernel
theorem dX0_observe_43 : decode cX0_observe 43 = .ok (.laload, 1) := by decide +kernel
theorem dX0_observe_44 : decode cX0_observe 44 = .ok (.lcmp, 1) := by decide +kernel
theorem dX0_observe_45 : decode cX0_observe 45 = .ok (.ifCond .ge 13, 3) := by decide +kernel
theorem dX0_observe_48 : decode cX0_observe 48 = .ok (.new 48, 3) := by decide +kernel
theorem dX0_observe_51 : decode cX0_observe 51 = .ok (.dup, 1) := by decide +kernel
theorem dX0_observe_52 : decode cX0_observe 52 = .ok (.ldc 76, 2) := by decide +kernel
theorem dX0_observe_54 : decode cX0_observe 54 = .ok (.invokespecial 52, 3) := by decide +kernel
theorem dX0_observe_57 : decode cX0_observe 57 = .ok (.athrow, 1) := by decide +kernel
theorem dX0_observe_58 : decode cX0_observe 58 = .ok (.aload_n 0, 1) := by decide +kernel
theorem dX0_observe_59 : decode cX0_observe 59 = .ok (.getfield 26, 3) := by decide +kernel
theorem dX0_observe_62 : decode cX0_observe 62 = .ok (.bipush 16, 2) := by decide +kernel
theorem dX0_observe_64 : decode cX0_observe 64 = .ok (.if_icmp .lt 13, 3) := by decide +kernel
theorem dX0_observe_67 : decode cX0_observe 67 = .ok (.new 57, 3) := by decide +kernel
theorem dX0_observe_70 : decode cX0_observe 70 = .ok (.dup, 1) := by decide +kernel
theorem dX0_observe_71 : decode cX0_observe 71 = .ok (.ldc 78, 2) := by decide +kernel
theorem dX0_observe_73 : decode cX0_observe 73 = .ok (.invokespecial 61, 3) := by decide +kernel
theorem dX0_observe_76 : decode cX0_observe 76 = .ok (.athrow, 1) := by decide +kernel
theorem dX0_observe_77 : decode cX0_observe 77 = .ok (.aload_n 0, 1) := by decide +kernel
theorem dX0_observe_78 : decode cX0_observe 78 = .ok (.getfield 20, 3) := by decide +kernel
theorem dX0_observe_81 : decode cX0_observe 81 = .ok (.aload_n 0, 1) := by decide +kernel
theorem dX0_observe_82 : decode cX0_observe 82 = .ok (.getfield 26, 3) := by decide +kernel
theorem dX0_observe_85 : decode cX0_observe 85 = .ok (.lload_n 1, 1) := by decide +kernel
theorem dX0_observe_86 : decode cX0_observe 86 = .ok (.lastore, 1) := by decide +kernel
theorem dX0_observe_87 : decode cX0_observe 87 = .ok (.aload_n 0, 1) := by decide +kernel
theorem dX0_observe_88 : decode cX0_observe 88 = .ok (.getfield 23, 3) := by decide +kernel
theorem dX0_observe_91 : decode cX0_observe 91 = .ok (.aload_n 0, 1) := by decide +kernel
theorem dX0_observe_92 : decode cX0_observe 92 = .ok (.getfield 26, 3) := by decide +kernel
theorem dX0_observe_95 : decode cX0_observe 95 = .ok (.lload_n 3, 1) := by decide +kernel
theorem dX0_observe_96 : decode cX0_observe 96 = .ok (.aload_n 0, 1) := by decide +kernel
theorem dX0_observe_97 : decode cX0_observe 97 = .ok (.lload_n 1, 1) := by decide +kernel
theorem dX0_observe_98 : decode cX0_observe 98 = .ok (.invokevirtual 80, 3) := by decide +kernel
theorem dX0_observe_101 : decode cX0_observe 101 = .ok (.lsub, 1) := by decide +kernel
theorem dX0_observe_102 : decode cX0_observe 102 = .ok (.lastore, 1) := by decide +kernel
theorem dX0_observe_103 : decode cX0_observe 103 = .ok (.aload_n 0, 1) := by decide +kernel
theorem dX0_observe_104 : decode cX0_observe 104 = .ok (.dup, 1) := by decide +kernel
theorem dX0_observe_105 : decode cX0_observe 105 = .ok (.getfield 26, 3) := by decide +kernel
theorem dX0_observe_108 : decode cX0_observe 108 = .ok (.iconst 1, 1) := by decide +kernel
theorem dX0_observe_109 : decode cX0_observe 109 = .ok (.iadd, 1) := by decide +kernel
theorem dX0_observe_110 : decode cX0_observe 110 = .ok (.putfield 26, 3) := by decide +kernel
theorem dX0_observe_113 : decode cX0_observe 113 = .ok (.aload_n 0, 1) := by decide +kernel
theorem dX0_observe_114 : decode cX0_observe 114 = .ok (.getfield 26, 3) := by decide +kernel
theorem dX0_observe_117 : decode cX0_observe 117 = .ok (.ireturn, 1) := by decide +kernel
theorem dX0_span_0 : decode cX0_span 0 = .ok (.aload_n 0, 1) := by decide +kernel
theorem dX0_span_1 : decode cX0_span 1 = .ok (.lload 5, 2) := by decide +kernel
theorem dX0_span_3 : decode cX0_span 3 = .ok (.invokevirtual 65, 3) := by decide +kernel
theorem dX0_span_6 : decode cX0_span 6 = .ok (.ifCond .eq 30, 3) := by decide +kernel
theorem dX0_span_9 : decode cX0_span 9 = .ok (.lload_n 1, 1) := by decide +kernel
theorem dX0_span_10 : decode cX0_span 10 = .ok (.invokestatic 44, 3) := by decide +kernel
theorem dX0_span_13 : decode cX0_span 13 = .ok (.ifCond .eq 23, 3) := by decide +kernel
theorem dX0_span_16 : decode cX0_span 16 = .ok (.lload_n 3, 1) := by decide +kernel
theorem dX0_span_17 : decode cX0_span 17 = .ok (.invokestatic 44, 3) := by decide +kernel
theorem dX0_span_20 : decode cX0_span 20 = .ok (.ifCond .eq 16, 3) := by decide +kernel
theorem dX0_span_23 : decode cX0_span 23 = .ok (.iload 7, 2) := by decide +kernel
theorem dX0_span_25 : decode cX0_span 25 = .ok (.i2l, 1) := by decide +kernel
theorem dX0_span_26 : decode cX0_span 26 = .ok (.lconst 0, 1) := by decide +kernel
theorem dX0_span_27 : decode cX0_span 27 = .ok (.ldc2_w 83, 3) := by decide +kernel
theorem dX0_span_30 : decode cX0_span 30 = .ok (.invokestatic 40, 3) := by decide +kernel
theorem dX0_span_33 : decode cX0_span 33 = .ok (.ifCond .ne 13, 3) := by decide +kernel
theorem dX0_span_36 : decode cX0_span 36 = .ok (.new 48, 3) := by decide +kernel
theorem dX0_span_39 : decode cX0_span 39 = .ok (.dup, 1) := by decide +kernel
theorem dX0_span_40 : decode cX0_span 40 = .ok (.ldc 85, 2) := by decide +kernel
theorem dX0_span_42 : decode cX0_span 42 = .ok (.invokespecial 52, 3) := by decide +kernel
theorem dX0_span_45 : decode cX0_span 45 = .ok (.athrow, 1) := by decide +kernel
theorem dX0_span_46 : decode cX0_span 46 = .ok (.lload_n 3, 1) := by decide +kernel
theorem dX0_span_47 : decode cX0_span 47 = .ok (.lload_n 1, 1) := by decide +kernel
theorem dX0_span_48 : decode cX0_span 48 = .ok (.lsub, 1) := by decide +kernel
theorem dX0_span_49 : decode cX0_span 49 = .ok (.lstore 8, 2) := by decide +kernel
theorem dX0_span_51 : decode cX0_span 51 = .ok (.iload 7, 2) := by decide +kernel
theorem dX0_span_53 : decode cX0_span 53 = .ok (.iconst 2, 1) := by decide +kernel
theorem dX0_span_54 : decode cX0_span 54 = .ok (.if_icmp .lt 7, 3) := by decide +kernel
theorem dX0_span_57 : decode cX0_span 57 = .ok (.iconst 1, 1) := by decide +kernel
theorem dX0_span_58 : decode cX0_span 58 = .ok (.goto 4, 3) := by decide +kernel
theorem dX0_span_61 : decode cX0_span 61 = .ok (.iconst 0, 1) := by decide +kernel
theorem dX0_span_62 : decode cX0_span 62 = .ok (.istore 10, 2) := by decide +kernel
theorem dX0_span_64 : decode cX0_span 64 = .ok (.iload 10, 2) := by decide +kernel
theorem dX0_span_66 : decode cX0_span 66 = .ok (.ifCond .eq 14, 3) := by decide +kernel
theorem dX0_span_69 : decode cX0_span 69 = .ok (.aload_n 0, 1) := by decide +kernel
theorem dX0_span_70 : decode cX0_span 70 = .ok (.lload 8, 2) := by decide +kernel
theorem dX0_span_72 : decode cX0_span 72 = .ok (.lload 5, 2) := by decide +kernel
theorem dX0_span_74 : decode cX0_span 74 = .ok (.invokevirtual 87, 3) := by decide +kernel
theorem dX0_span_77 : decode cX0_span 77 = .ok (.goto 12, 3) := by decide +kernel
theorem dX0_span_80 : decode cX0_span 80 = .ok (.aload_n 0, 1) := by decide +kernel
theorem dX0_span_81 : decode cX0_span 81 = .ok (.lload 8, 2) := by decide +kernel
theorem dX0_span_83 : decode cX0_span 83 = .ok (.lload 5, 2) := by decide +kernel
theorem dX0_span_85 : decode cX0_span 85 = .ok (.iconst 1, 1) := by decide +kernel
theorem dX0_span_86 : decode cX0_span 86 = .ok (.invokevirtual 91, 3) := by decide +kernel
theorem dX0_span_89 : decode cX0_span 89 = .ok (.lstore 11, 2) := by decide +kernel
theorem dX0_span_91 : decode cX0_span 91 = .ok (.lload 11, 2) := by decide +kernel
theorem dX0_span_93 : decode cX0_span 93 = .ok (.aload_n 0, 1) := by decide +kernel
theorem dX0_span_94 : decode cX0_span 94 = .ok (.invokevirtual 95, 3) := by decide +kernel
theorem dX0_span_97 : decode cX0_span 97 = .ok (.lcmp, 1) := by decide +kernel
theorem dX0_span_98 : decode cX0_span 98 = .ok (.ifCond .le 5, 3) := by decide +kernel
theorem dX0_span_101 : decode cX0_span 101 = .ok (.iconst (-1), 1) := by decide +kernel
theorem dX0_span_102 : decode cX0_span 102 = .ok (.ireturn, 1) := by decide +kernel
theorem dX0_span_103 : decode cX0_span 103 = .ok (.iload 7, 2) := by decide +kernel
theorem dX0_span_105 : decode cX0_span 105 = .ok (.ifCond .eq 9, 3) := by decide +kernel
theorem dX0_span_108 : decode cX0_span 108 = .ok (.iload 7, 2) := by decide +kernel
theorem dX0_span_110 : decode cX0_span 110 = .ok (.iconst 2, 1) := by decide +kernel
theorem dX0_span_111 : decode cX0_span 111 = .ok (.if_icmp .ne 7, 3) := by decide +kernel
theorem dX0_span_114 : decode cX0_span 114 = .ok (.iconst 1, 1) := by decide +kernel
theorem dX0_span_115 : decode cX0_span 115 = .ok (.goto 4, 3) := by decide +kernel
theorem dX0_span_118 : decode cX0_span 118 = .ok (.iconst 0, 1) := by decide +kernel
theorem dX0_span_119 : decode cX0_span 119 = .ok (.istore 13, 2) := by decide +kernel
theorem dX0_span_121 : decode cX0_span 121 = .ok (.iload 13, 2) := by decide +kernel
theorem dX0_span_123 : decode cX0_span 123 = .ok (.ifCond .eq 8, 3) := by decide +kernel
theorem dX0_span_126 : decode cX0_span 126 = .ok (.lload 11, 2) := by decide +kernel
theorem dX0_span_128 : decode cX0_span 128 = .ok (.goto 14, 3) := by decide +kernel
theorem dX0_span_131 : decode cX0_span 131 = .ok (.aload_n 0, 1) := by decide +kernel
theorem dX0_span_132 : decode cX0_span 132 = .ok (.lload 8, 2) := by decide +kernel
theorem dX0_span_134 : decode cX0_span 134 = .ok (.lload 11, 2) := by decide +kernel
theorem dX0_span_136 : decode cX0_span 136 = .ok (.iconst 0, 1) := by decide +kernel
theorem dX0_span_137 : decode cX0_span 137 = .ok (.invokevirtual 91, 3) := by decide +kernel
theorem dX0_span_140 : decode cX0_span 140 = .ok (.lconst 1, 1) := by decide +kernel
theorem dX0_span_141 : decode cX0_span 141 = .ok (.lsub, 1) := by decide +kernel
theorem dX0_span_142 : decode cX0_span 142 = .ok (.l2i, 1) := by decide +kernel
theorem dX0_span_143 : decode cX0_span 143 = .ok (.ireturn, 1) := by decide +kernel
theorem dX0_squat_0 : decode cX0_squat 0 = .ok (.lload_n 1, 1) := by decide +kernel
theorem dX0_squat_1 : decode cX0_squat 1 = .ok (.lconst 0, 1) := by decide +kernel
theorem dX0_squat_2 : decode cX0_squat 2 = .ok (.ldc2_w 99, 3) := by decide +kernel
theorem dX0_squat_5 : decode cX0_squat 5 = .ok (.invokestatic 40, 3) := by decide +kernel
theorem dX0_squat_8 : decode cX0_squat 8 = .ok (.ifCond .eq 14, 3) := by decide +kernel
theorem dX0_squat_11 : decode cX0_squat 11 = .ok (.lload_n 3, 1) := by decide +kernel
theorem dX0_squat_12 : decode cX0_squat 12 = .ok (.lconst 0, 1) := by decide +kernel
theorem dX0_squat_13 : decode cX0_squat 13 = .ok (.ldc2_w 101, 3) := by decide +kernel
theorem dX0_squat_16 : decode cX0_squat 16 = .ok (.invokestatic 40, 3) := by decide +kernel
theorem dX0_squat_19 : decode cX0_squat 19 = .ok (.ifCond .ne 13, 3) := by decide +kernel
theorem dX0_squat_22 : decode cX0_squat 22 = .ok (.new 48, 3) := by decide +kernel
theorem dX0_squat_25 : decode cX0_squat 25 = .ok (.dup, 1) := by decide +kernel
theorem dX0_squat_26 : decode cX0_squat 26 = .ok (.ldc 103, 2) := by decide +kernel
theorem dX0_squat_28 : decode cX0_squat 28 = .ok (.invokespecial 52, 3) := by decide +kernel
theorem dX0_squat_31 : decode cX0_squat 31 = .ok (.athrow, 1) := by decide +kernel
theorem dX0_squat_32 : decode cX0_squat 32 = .ok (.lload_n 1, 1) := by decide +kernel
theorem dX0_squat_33 : decode cX0_squat 33 = .ok (.lload_n 3, 1) := by decide +kernel
theorem dX0_squat_34 : decode cX0_squat 34 = .ok (.invokestatic 105, 3) := by decide +kernel
theorem dX0_squat_37 : decode cX0_squat 37 = .ok (.lreturn, 1) := by decide +kernel
theorem dX0_passing_0 : decode cX0_passing 0 = .ok (.lload_n 1, 1) := by decide +kernel
theorem dX0_passing_1 : decode cX0_passing 1 = .ok (.lconst 0, 1) := by decide +kernel
theorem dX0_passing_2 : decode cX0_passing 2 = .ok (.ldc2_w 108, 3) := by decide +kernel
theorem dX0_passing_5 : decode cX0_passing 5 = .ok (.invokestatic 40, 3) := by decide +kernel
theorem dX0_passing_8 : decode cX0_passing 8 = .ok (.ifCond .eq 14, 3) := by decide +kernel
theorem dX0_passing_11 : decode cX0_passing 11 = .ok (.lload_n 3, 1) := by decide +kernel
theorem dX0_passing_12 : decode cX0_passing 12 = .ok (.lconst 0, 1) := by decide +kernel
theorem dX0_passing_13 : decode cX0_passing 13 = .ok (.ldc2_w 99, 3) := by decide +kernel
theorem dX0_passing_16 : decode cX0_passing 16 = .ok (.invokestatic 40, 3) := by decide +kernel
theorem dX0_passing_19 : decode cX0_passing 19 = .ok (.ifCond .ne 13, 3) := by decide +kernel
theorem dX0_passing_22 : decode cX0_passing 22 = .ok (.new 48, 3) := by decide +kernel
theorem dX0_passing_25 : decode cX0_passing 25 = .ok (.dup, 1) := by decide +kernel
theorem dX0_passing_26 : decode cX0_passing 26 = .ok (.ldc 110, 2) := by decide +kernel
theorem dX0_passing_28 : decode cX0_passing 28 = .ok (.invokespecial 52, 3) := by decide +kernel
theorem dX0_passing_31 : decode cX0_passing 31 = .ok (.athrow, 1) := by decide +kernel
theorem dX0_passing_32 : decode cX0_passing 32 = .ok (.lload_n 3, 1) := by decide +kernel
theorem dX0_passing_33 : decode cX0_passing 33 = .ok (.lconst 0, 1) := by decide +kernel
theorem dX0_passing_34 : decode cX0_passing 34 = .ok (.lcmp, 1) := by decide +kernel
theorem dX0_passing_35 : decode cX0_passing 35 = .ok (.ifCond .ne 13, 3) := by decide +kernel
theorem dX0_passing_38 : decode cX0_passing 38 = .ok (.new 112, 3) := by decide +kernel
theorem dX0_passing_41 : decode cX0_passing 41 = .ok (.dup, 1) := by decide +kernel
theorem dX0_passing_42 : decode cX0_passing 42 = .ok (.ldc 114, 2) := by decide +kernel
theorem dX0_passing_44 : decode cX0_passing 44 = .ok (.invokespecial 116, 3) := by decide +kernel
theorem dX0_passing_47 : decode cX0_passing 47 = .ok (.athrow, 1) := by decide +kernel
theorem dX0_passing_48 : decode cX0_passing 48 = .ok (.lload_n 1, 1) := by decide +kernel
theorem dX0_passing_49 : decode cX0_passing 49 = .ok (.lload_n 3, 1) := by decide +kernel
theorem dX0_passing_50 : decode cX0_passing 50 = .ok (.invokestatic 117, 3) := by decide +kernel
theorem dX0_passing_53 : decode cX0_passing 53 = .ok (.lreturn, 1) := by decide +kernel
theorem dX0_cosine_0 : decode cX0_cosine 0 = .ok (.iload_n 1, 1) := by decide +kernel
theorem dX0_cosine_1 : decode cX0_cosine 1 = .ok (.ifCond .lt 11, 3) := by decide +kernel
theorem dX0_cosine_4 : decode cX0_cosine 4 = .ok (.iload_n 1, 1) := by decide +kernel
theorem dX0_cosine_5 : decode cX0_cosine 5 = .ok (.getstatic 120, 3) := by decide +kernel
theorem dX0_cosine_8 : decode cX0_cosine 8 = .ok (.arraylength, 1) := by decide +kernel
theorem dX0_cosine_9 : decode cX0_cosine 9 = .ok (.if_icmp .lt 13, 3) := by decide +kernel
theorem dX0_cosine_12 : decode cX0_cosine 12 = .ok (.new 124, 3) := by decide +kernel
theorem dX0_cosine_15 : decode cX0_cosine 15 = .ok (.dup, 1) := by decide +kernel
theorem dX0_cosine_16 : decode cX0_cosine 16 = .ok (.ldc 126, 2) := by decide +kernel
theorem dX0_cosine_18 : decode cX0_cosine 18 = .ok (.invokespecial 128, 3) := by decide +kernel
theorem dX0_cosine_21 : decode cX0_cosine 21 = .ok (.athrow, 1) := by decide +kernel
theorem dX0_cosine_22 : decode cX0_cosine 22 = .ok (.getstatic 120, 3) := by decide +kernel
theorem dX0_cosine_25 : decode cX0_cosine 25 = .ok (.iload_n 1, 1) := by decide +kernel
theorem dX0_cosine_26 : decode cX0_cosine 26 = .ok (.iaload, 1) := by decide +kernel
theorem dX0_cosine_27 : decode cX0_cosine 27 = .ok (.ireturn, 1) := by decide +kernel
theorem dX0_draft_0 : decode cX0_draft 0 = .ok (.lload_n 1, 1) := by decide +kernel
theorem dX0_draft_1 : decode cX0_draft 1 = .ok (.lconst 0, 1) := by decide +kernel
theorem dX0_draft_2 : decode cX0_draft 2 = .ok (.ldc2_w 101, 3) := by decide +kernel
theorem dX0_draft_5 : decode cX0_draft 5 = .ok (.invokestatic 40, 3) := by decide +kernel
theorem dX0_draft_8 : decode cX0_draft 8 = .ok (.ifCond .eq 18, 3) := by decide +kernel
theorem dX0_draft_11 : decode cX0_draft 11 = .ok (.lload_n 3, 1) := by decide +kernel
theorem dX0_draft_12 : decode cX0_draft 12 = .ok (.invokestatic 129, 3) := by decide +kernel
theorem dX0_draft_15 : decode cX0_draft 15 = .ok (.ifCond .eq 11, 3) := by decide +kernel
theorem dX0_draft_18 : decode cX0_draft 18 = .ok (.lload 5, 2) := by decide +kernel
theorem dX0_draft_20 : decode cX0_draft 20 = .ok (.invokestatic 129, 3) := by decide +kernel
theorem dX0_draft_23 : decode cX0_draft 23 = .ok (.ifCond .ne 13, 3) := by decide +kernel
theorem dX0_draft_26 : decode cX0_draft 26 = .ok (.new 48, 3) := by decide +kernel
theorem dX0_draft_29 : decode cX0_draft 29 = .ok (.dup, 1) := by decide +kernel
theorem dX0_draft_30 : decode cX0_draft 30 = .ok (.ldc 132, 2) := by decide +kernel
theorem dX0_draft_32 : decode cX0_draft 32 = .ok (.invokespecial 52, 3) := by decide +kernel
theorem dX0_draft_35 : decode cX0_draft 35 = .ok (.athrow, 1) := by decide +kernel
theorem dX0_draft_36 : decode cX0_draft 36 = .ok (.lload_n 1, 1) := by decide +kernel
theorem dX0_draft_37 : decode cX0_draft 37 = .ok (.lload_n 3, 1) := by decide +kernel
theorem dX0_draft_38 : decode cX0_draft 38 = .ok (.lmul, 1) := by decide +kernel
theorem dX0_draft_39 : decode cX0_draft 39 = .ok (.lload 5, 2) := by decide +kernel
theorem dX0_draft_41 : decode cX0_draft 41 = .ok (.invokestatic 134, 3) := by decide +kernel
theorem dX0_draft_44 : decode cX0_draft 44 = .ok (.lreturn, 1) := by decide +kernel
theorem dX0_place_0 : decode cX0_place 0 = .ok (.lload_n 1, 1) := by decide +kernel
theorem dX0_place_1 : decode cX0_place 1 = .ok (.lconst 0, 1) := by decide +kernel
theorem dX0_place_2 : decode cX0_place 2 = .ok (.ldc2_w 108, 3) := by decide +kernel
theorem dX0_place_5 : decode cX0_place 5 = .ok (.invokestatic 40, 3) := by decide +kernel
theorem dX0_place_8 : decode cX0_place 8 = .ok (.ifCond .eq 10, 3) := by decide +kernel
theorem dX0_place_11 : decode cX0_place 11 = .ok (.lload_n 3, 1) := by decide +kernel
theorem dX0_place_12 : decode cX0_place 12 = .ok (.invokestatic 44, 3) := by decide +kernel
theorem dX0_place_15 : decode cX0_place 15 = .ok (.ifCond .ne 13, 3) := by decide +kernel
theorem dX0_place_18 : decode cX0_place 18 = .ok (.new 48, 3) := by decide +kernel
theorem dX0_place_21 : decode cX0_place 21 = .ok (.dup, 1) := by decide +kernel
theorem dX0_place_22 : decode cX0_place 22 = .ok (.ldc 137, 2) := by decide +kernel
theorem dX0_place_24 : decode cX0_place 24 = .ok (.invokespecial 52, 3) := by decide +kernel
theorem dX0_place_27 : decode cX0_place 27 = .ok (.athrow, 1) := by decide +kernel
theorem dX0_place_28 : decode cX0_place 28 = .ok (.aload_n 0, 1) := by decide +kernel
theorem dX0_place_29 : decode cX0_place 29 = .ok (.getfield 35, 3) := by decide +kernel
theorem dX0_place_32 : decode cX0_place 32 = .ok (.ifCond .le 29, 3) := by decide +kernel
theorem dX0_place_35 : decode cX0_place 35 = .ok (.lload_n 1, 1) := by decide +kernel
theorem dX0_place_36 : decode cX0_place 36 = .ok (.aload_n 0, 1) := by decide +kernel
theorem dX0_place_37 : decode cX0_place 37 = .ok (.getfield 29, 3) := by decide +kernel
theorem dX0_place_40 : decode cX0_place 40 = .ok (.aload_n 0, 1) := by decide +kernel
theorem dX0_place_41 : decode cX0_place 41 = .ok (.getfield 35, 3) := by decide +kernel
theorem dX0_place_44 : decode cX0_place 44 = .ok (.iconst 1, 1) := by decide +kernel
theorem dX0_place_45 : decode cX0_place 45 = .ok (.isub, 1) := by decide +kernel
theorem dX0_place_46 : decode cX0_place 46 = .ok (.laload, 1) := by decide +kernel
theorem dX0_place_47 : decode cX0_place 47 = .ok (.lcmp, 1) := by decide +kernel
theorem dX0_place_48 : decode cX0_place 48 = .ok (.ifCond .gt 13, 3) := by decide +kernel
theorem dX0_place_51 : decode cX0_place 51 = .ok (.new 48, 3) := by decide +kernel
theorem dX0_place_54 : decode cX0_place 54 = .ok (.dup, 1) := by decide +kernel
theorem dX0_place_55 : decode cX0_place 55 = .ok (.ldc 139, 2) := by decide +kernel
theorem dX0_place_57 : decode cX0_place 57 = .ok (.invokespecial 52, 3) := by decide +kernel
theorem dX0_place_60 : decode cX0_place 60 = .ok (.athrow, 1) := by decide +kernel
theorem dX0_place_61 : decode cX0_place 61 = .ok (.aload_n 0, 1) := by decide +kernel
theorem dX0_place_62 : decode cX0_place 62 = .ok (.getfield 35, 3) := by decide +kernel
theorem dX0_place_65 : decode cX0_place 65 = .ok (.bipush 12, 2) := by decide +kernel
theorem dX0_place_67 : decode cX0_place 67 = .ok (.if_icmp .lt 13, 3) := by decide +kernel
theorem dX0_place_70 : decode cX0_place 70 = .ok (.new 57, 3) := by decide +kernel
theorem dX0_place_73 : decode cX0_place 73 = .ok (.dup, 1) := by decide +kernel
theorem dX0_place_74 : decode cX0_place 74 = .ok (.ldc 141, 2) := by decide +kernel
theorem dX0_place_76 : decode cX0_place 76 = .ok (.invokespecial 61, 3) := by decide +kernel
theorem dX0_place_79 : decode cX0_place 79 = .ok (.athrow, 1) := by decide +kernel
theorem dX0_place_80 : decode cX0_place 80 = .ok (.aload_n 0, 1) := by decide +kernel
theorem dX0_place_81 : decode cX0_place 81 = .ok (.getfield 29, 3) := by decide +kernel
theorem dX0_place_84 : decode cX0_place 84 = .ok (.aload_n 0, 1) := by decide +kernel
theorem dX0_place_85 : decode cX0_place 85 = .ok (.getfield 35, 3) := by decide +kernel
theorem dX0_place_88 : decode cX0_place 88 = .ok (.lload_n 1, 1) := by decide +kernel
theorem dX0_place_89 : decode cX0_place 89 = .ok (.lastore, 1) := by decide +kernel
theorem dX0_place_90 : decode cX0_place 90 = .ok (.aload_n 0, 1) := by decide +kernel
theorem dX0_place_91 : decode cX0_place 91 = .ok (.getfield 32, 3) := by decide +kernel
theorem dX0_place_94 : decode cX0_place 94 = .ok (.aload_n 0, 1) := by decide +kernel
theorem dX0_place_95 : decode cX0_place 95 = .ok (.getfield 35, 3) := by decide +kernel
theorem dX0_place_98 : decode cX0_place 98 = .ok (.lload_n 3, 1) := by decide +kernel
theorem dX0_place_99 : decode cX0_place 99 = .ok (.lastore, 1) := by decide +kernel
theorem dX0_place_100 : decode cX0_place 100 = .ok (.aload_n 0, 1) := by decide +kernel
theorem dX0_place_101 : decode cX0_place 101 = .ok (.dup, 1) := by decide +kernel
theorem dX0_place_102 : decode cX0_place 102 = .ok (.getfield 35, 3) := by decide +kernel
theorem dX0_place_105 : decode cX0_place 105 = .ok (.iconst 1, 1) := by decide +kernel
theorem dX0_place_106 : decode cX0_place 106 = .ok (.iadd, 1) := by decide +kernel
theorem dX0_place_107 : decode cX0_place 107 = .ok (.putfield 35, 3) := by decide +kernel
theorem dX0_place_110 : decode cX0_place 110 = .ok (.aload_n 0, 1) := by decide +kernel
theorem dX0_place_111 : decode cX0_place 111 = .ok (.getfield 35, 3) := by decide +kernel
theorem dX0_place_114 : decode cX0_place 114 = .ok (.iconst 1, 1) := by decide +kernel
theorem dX0_place_115 : decode cX0_place 115 = .ok (.isub, 1) := by decide +kernel
theorem dX0_place_116 : decode cX0_place 116 = .ok (.ireturn, 1) := by decide +kernel
theorem dX0_depth_0 : decode cX0_depth 0 = .ok (.iload_n 1, 1) := by decide +kernel
theorem dX0_depth_1 : decode cX0_depth 1 = .ok (.ifCond .lt 11, 3) := by decide +kernel
theorem dX0_depth_4 : decode cX0_depth 4 = .ok (.iload_n 1, 1) := by decide +kernel
theorem dX0_depth_5 : decode cX0_depth 5 = .ok (.aload_n 0, 1) := by decide +kernel
theorem dX0_depth_6 : decode cX0_depth 6 = .ok (.getfield 35, 3) := by decide +kernel
theorem dX0_depth_9 : decode cX0_depth 9 = .ok (.if_icmp .lt 13, 3) := by decide +kernel
theorem dX0_depth_12 : decode cX0_depth 12 = .ok (.new 143, 3) := by decide +kernel
theorem dX0_depth_15 : decode cX0_depth 15 = .ok (.dup, 1) := by decide +kernel
theorem dX0_depth_16 : decode cX0_depth 16 = .ok (.ldc 145, 2) := by decide +kernel
theorem dX0_depth_18 : decode cX0_depth 18 = .ok (.invokespecial 147, 3) := by decide +kernel
theorem dX0_depth_21 : decode cX0_depth 21 = .ok (.athrow, 1) := by decide +kernel
theorem dX0_depth_22 : decode cX0_depth 22 = .ok (.aload_n 0, 1) := by decide +kernel
theorem dX0_depth_23 : decode cX0_depth 23 = .ok (.lload_n 2, 1) := by decide +kernel
theorem dX0_depth_24 : decode cX0_depth 24 = .ok (.invokevirtual 65, 3) := by decide +kernel
theorem dX0_depth_27 : decode cX0_depth 27 = .ok (.ifCond .ne 13, 3) := by decide +kernel
theorem dX0_depth_30 : decode cX0_depth 30 = .ok (.new 48, 3) := by decide +kernel
theorem dX0_depth_33 : decode cX0_depth 33 = .ok (.dup, 1) := by decide +kernel
theorem dX0_depth_34 : decode cX0_depth 34 = .ok (.ldc 68, 2) := by decide +kernel
theorem dX0_depth_36 : decode cX0_depth 36 = .ok (.invokespecial 52, 3) := by decide +kernel
theorem dX0_depth_39 : decode cX0_depth 39 = .ok (.athrow, 1) := by decide +kernel
theorem dX0_depth_40 : decode cX0_depth 40 = .ok (.aload_n 0, 1) := by decide +kernel
theorem dX0_depth_41 : decode cX0_depth 41 = .ok (.getfield 32, 3) := by decide +kernel
theorem dX0_depth_44 : decode cX0_depth 44 = .ok (.iload_n 1, 1) := by decide +kernel
theorem dX0_depth_45 : decode cX0_depth 45 = .ok (.laload, 1) := by decide +kernel
theorem dX0_depth_46 : decode cX0_depth 46 = .ok (.aload_n 0, 1) := by decide +kernel
theorem dX0_depth_47 : decode cX0_depth 47 = .ok (.lload_n 2, 1) := by decide +kernel
theorem dX0_depth_48 : decode cX0_depth 48 = .ok (.invokevirtual 70, 3) := by decide +kernel
theorem dX0_depth_51 : decode cX0_depth 51 = .ok (.ladd, 1) := by decide +kernel
theorem dX0_depth_52 : decode cX0_depth 52 = .ok (.lreturn, 1) := by decide +kernel
theorem dX0_sail_0 : decode cX0_sail 0 = .ok (.aload_n 0, 1) := by decide +kernel
theorem dX0_sail_1 : decode cX0_sail 1 = .ok (.lload 5, 2) := by decide +kernel
theorem dX0_sail_3 : decode cX0_sail 3 = .ok (.invokevirtual 65, 3) := by decide +kernel
theorem dX0_sail_6 : decode cX0_sail 6 = .ok (.ifCond .eq 10, 3) := by decide +kernel
theorem dX0_sail_9 : decode cX0_sail 9 = .ok (.lload_n 1, 1) := by decide +kernel
theorem dX0_sail_10 : decode cX0_sail 10 = .ok (.invokestatic 44, 3) := by decide +kernel
theorem dX0_sail_13 : decode cX0_sail 13 = .ok (.ifCond .ne 13, 3) := by decide +kernel
theorem dX0_sail_16 : decode cX0_sail 16 = .ok (.new 48, 3) := by decide +kernel
theorem dX0_sail_19 : decode cX0_sail 19 = .ok (.dup, 1) := by decide +kernel
theorem dX0_sail_20 : decode cX0_sail 20 = .ok (.ldc 148, 2) := by decide +kernel
theorem dX0_sail_22 : decode cX0_sail 22 = .ok (.invokespecial 52, 3) := by decide +kernel
theorem dX0_sail_25 : decode cX0_sail 25 = .ok (.athrow, 1) := by decide +kernel
theorem dX0_sail_26 : decode cX0_sail 26 = .ok (.lload_n 3, 1) := by decide +kernel
theorem dX0_sail_27 : decode cX0_sail 27 = .ok (.lconst 0, 1) := by decide +kernel
theorem dX0_sail_28 : decode cX0_sail 28 = .ok (.ldc2_w 99, 3) := by decide +kernel
theorem dX0_sail_31 : decode cX0_sail 31 = .ok (.invokestatic 40, 3) := by decide +kernel
theorem dX0_sail_34 : decode cX0_sail 34 = .ok (.ifCond .eq 14, 3) := by decide +kernel
theorem dX0_sail_37 : decode cX0_sail 37 = .ok (.iload 7, 2) := by decide +kernel
theorem dX0_sail_39 : decode cX0_sail 39 = .ok (.i2l, 1) := by decide +kernel
theorem dX0_sail_40 : decode cX0_sail 40 = .ok (.lconst 0, 1) := by decide +kernel
theorem dX0_sail_41 : decode cX0_sail 41 = .ok (.lconst 1, 1) := by decide +kernel
theorem dX0_sail_42 : decode cX0_sail 42 = .ok (.invokestatic 40, 3) := by decide +kernel
theorem dX0_sail_45 : decode cX0_sail 45 = .ok (.ifCond .ne 13, 3) := by decide +kernel
theorem dX0_sail_48 : decode cX0_sail 48 = .ok (.new 48, 3) := by decide +kernel
theorem dX0_sail_51 : decode cX0_sail 51 = .ok (.dup, 1) := by decide +kernel
theorem dX0_sail_52 : decode cX0_sail 52 = .ok (.ldc 150, 2) := by decide +kernel
theorem dX0_sail_54 : decode cX0_sail 54 = .ok (.invokespecial 52, 3) := by decide +kernel
theorem dX0_sail_57 : decode cX0_sail 57 = .ok (.athrow, 1) := by decide +kernel
theorem dX0_sail_58 : decode cX0_sail 58 = .ok (.aload_n 0, 1) := by decide +kernel
theorem dX0_sail_59 : decode cX0_sail 59 = .ok (.getfield 35, 3) := by decide +kernel
theorem dX0_sail_62 : decode cX0_sail 62 = .ok (.ifCond .ne 13, 3) := by decide +kernel
theorem dX0_sail_65 : decode cX0_sail 65 = .ok (.new 57, 3) := by decide +kernel
theorem dX0_sail_68 : decode cX0_sail 68 = .ok (.dup, 1) := by decide +kernel
theorem dX0_sail_69 : decode cX0_sail 69 = .ok (.ldc 152, 2) := by decide +kernel
theorem dX0_sail_71 : decode cX0_sail 71 = .ok (.invokespecial 61, 3) := by decide +kernel
theorem dX0_sail_74 : decode cX0_sail 74 = .ok (.athrow, 1) := by decide +kernel
theorem dX0_sail_75 : decode cX0_sail 75 = .ok (.lload_n 3, 1) := by decide +kernel
theorem dX0_sail_76 : decode cX0_sail 76 = .ok (.lconst 0, 1) := by decide +kernel
theorem dX0_sail_77 : decode cX0_sail 77 = .ok (.lcmp, 1) := by decide +kernel
theorem dX0_sail_78 : decode cX0_sail 78 = .ok (.ifCond .ne 13, 3) := by decide +kernel
theorem dX0_sail_81 : decode cX0_sail 81 = .ok (.new 112, 3) := by decide +kernel
theorem dX0_sail_84 : decode cX0_sail 84 = .ok (.dup, 1) := by decide +kernel
theorem dX0_sail_85 : decode cX0_sail 85 = .ok (.ldc 114, 2) := by decide +kernel
theorem dX0_sail_87 : decode cX0_sail 87 = .ok (.invokespecial 116, 3) := by decide +kernel
theorem dX0_sail_90 : decode cX0_sail 90 = .ok (.athrow, 1) := by decide +kernel
theorem dX0_sail_91 : decode cX0_sail 91 = .ok (.lload_n 1, 1) := by decide +kernel
theorem dX0_sail_92 : decode cX0_sail 92 = .ok (.lconst 0, 1) := by decide +kernel
theorem dX0_sail_93 : decode cX0_sail 93 = .ok (.lcmp, 1) := by decide +kernel
theorem dX0_sail_94 : decode cX0_sail 94 = .ok (.ifCond .ge 7, 3) := by decide +kernel
theorem dX0_sail_97 : decode cX0_sail 97 = .ok (.lload_n 1, 1) := by decide +kernel
theorem dX0_sail_98 : decode cX0_sail 98 = .ok (.goto 10, 3) := by decide +kernel
theorem dX0_sail_101 : decode cX0_sail 101 = .ok (.lload_n 1, 1) := by decide +kernel
theorem dX0_sail_102 : decode cX0_sail 102 = .ok (.lload_n 3, 1) := by decide +kernel
theorem dX0_sail_103 : decode cX0_sail 103 = .ok (.lload_n 1, 1) := by decide +kernel
theorem dX0_sail_104 : decode cX0_sail 104 = .ok (.invokestatic 105, 3) := by decide +kernel
theorem dX0_sail_107 : decode cX0_sail 107 = .ok (.ladd, 1) := by decide +kernel
theorem dX0_sail_108 : decode cX0_sail 108 = .ok (.lstore 8, 2) := by decide +kernel
theorem dX0_sail_110 : decode cX0_sail 110 = .ok (.aload_n 0, 1) := by decide +kernel
theorem dX0_sail_111 : decode cX0_sail 111 = .ok (.lload 8, 2) := by decide +kernel
theorem dX0_sail_113 : decode cX0_sail 113 = .ok (.lload_n 3, 1) := by decide +kernel
theorem dX0_sail_114 : decode cX0_sail 114 = .ok (.lload 5, 2) := by decide +kernel
theorem dX0_sail_116 : decode cX0_sail 116 = .ok (.invokevirtual 154, 3) := by decide +kernel
theorem dX0_sail_119 : decode cX0_sail 119 = .ok (.lstore 10, 2) := by decide +kernel
theorem dX0_sail_121 : decode cX0_sail 121 = .ok (.lload 10, 2) := by decide +kernel
theorem dX0_sail_123 : decode cX0_sail 123 = .ok (.aload_n 0, 1) := by decide +kernel
theorem dX0_sail_124 : decode cX0_sail 124 = .ok (.invokevirtual 95, 3) := by decide +kernel
theorem dX0_sail_127 : decode cX0_sail 127 = .ok (.lcmp, 1) := by decide +kernel
theorem dX0_sail_128 : decode cX0_sail 128 = .ok (.ifCond .le 5, 3) := by decide +kernel
theorem dX0_sail_131 : decode cX0_sail 131 = .ok (.iconst (-1), 1) := by decide +kernel
theorem dX0_sail_132 : decode cX0_sail 132 = .ok (.ireturn, 1) := by decide +kernel
theorem dX0_sail_133 : decode cX0_sail 133 = .ok (.iload 7, 2) := by decide +kernel
theorem dX0_sail_135 : decode cX0_sail 135 = .ok (.ifCond .ne 8, 3) := by decide +kernel
theorem dX0_sail_138 : decode cX0_sail 138 = .ok (.lload 10, 2) := by decide +kernel
theorem dX0_sail_140 : decode cX0_sail 140 = .ok (.goto 12, 3) := by decide +kernel
theorem dX0_sail_143 : decode cX0_sail 143 = .ok (.aload_n 0, 1) := by decide +kernel
theorem dX0_sail_144 : decode cX0_sail 144 = .ok (.lload 8, 2) := by decide +kernel
theorem dX0_sail_146 : decode cX0_sail 146 = .ok (.lload_n 3, 1) := by decide +kernel
theorem dX0_sail_147 : decode cX0_sail 147 = .ok (.lload 10, 2) := by decide +kernel
theorem dX0_sail_149 : decode cX0_sail 149 = .ok (.invokevirtual 158, 3) := by decide +kernel
theorem dX0_sail_152 : decode cX0_sail 152 = .ok (.l2i, 1) := by decide +kernel
theorem dX0_sail_153 : decode cX0_sail 153 = .ok (.ireturn, 1) := by decide +kernel
theorem dX0_read_0 : decode cX0_read 0 = .ok (.iload_n 2, 1) := by decide +kernel
theorem dX0_read_1 : decode cX0_read 1 = .ok (.ifCond .eq 8, 3) := by decide +kernel
theorem dX0_read_4 : decode cX0_read 4 = .ok (.iload_n 2, 1) := by decide +kernel
theorem dX0_read_5 : decode cX0_read 5 = .ok (.iconst 1, 1) := by decide +kernel
theorem dX0_read_6 : decode cX0_read 6 = .ok (.if_icmp .ne 7, 3) := by decide +kernel
theorem dX0_read_9 : decode cX0_read 9 = .ok (.iconst 1, 1) := by decide +kernel
theorem dX0_read_10 : decode cX0_read 10 = .ok (.goto 4, 3) := by decide +kernel
theorem dX0_read_13 : decode cX0_read 13 = .ok (.iconst 0, 1) := by decide +kernel
theorem dX0_read_14 : decode cX0_read 14 = .ok (.istore_n 3, 1) := by decide +kernel
theorem dX0_read_15 : decode cX0_read 15 = .ok (.iload_n 3, 1) := by decide +kernel
theorem dX0_read_16 : decode cX0_read 16 = .ok (.ifCond .eq 35, 3) := by decide +kernel
theorem dX0_read_19 : decode cX0_read 19 = .ok (.iload_n 1, 1) := by decide +kernel
theorem dX0_read_20 : decode cX0_read 20 = .ok (.ifCond .lt 31, 3) := by decide +kernel
theorem dX0_read_23 : decode cX0_read 23 = .ok (.iload_n 1, 1) := by decide +kernel
theorem dX0_read_24 : decode cX0_read 24 = .ok (.aload_n 0, 1) := by decide +kernel
theorem dX0_read_25 : decode cX0_read 25 = .ok (.getfield 16, 3) := by decide +kernel
theorem dX0_read_28 : decode cX0_read 28 = .ok (.if_icmp .ge 23, 3) := by decide +kernel
theorem dX0_read_31 : decode cX0_read 31 = .ok (.iload_n 2, 1) := by decide +kernel
theorem dX0_read_32 : decode cX0_read 32 = .ok (.ifCond .ne 12, 3) := by decide +kernel
theorem dX0_read_35 : decode cX0_read 35 = .ok (.aload_n 0, 1) := by decide +kernel
theorem dX0_read_36 : decode cX0_read 36 = .ok (.getfield 9, 3) := by decide +kernel
theorem dX0_read_39 : decode cX0_read 39 = .ok (.iload_n 1, 1) := by decide +kernel
theorem dX0_read_40 : decode cX0_read 40 = .ok (.laload, 1) := by decide +kernel
theorem dX0_read_41 : decode cX0_read 41 = .ok (.goto 9, 3) := by decide +kernel
theorem dX0_read_44 : decode cX0_read 44 = .ok (.aload_n 0, 1) := by decide +kernel
theorem dX0_read_45 : decode cX0_read 45 = .ok (.getfield 13, 3) := by decide +kernel
theorem dX0_read_48 : decode cX0_read 48 = .ok (.iload_n 1, 1) := by decide +kernel
theorem dX0_read_49 : decode cX0_read 49 = .ok (.laload, 1) := by decide +kernel
theorem dX0_read_50 : decode cX0_read 50 = .ok (.lreturn, 1) := by decide +kernel
theorem dX0_read_51 : decode cX0_read 51 = .ok (.iload_n 2, 1) := by decide +kernel
theorem dX0_read_52 : decode cX0_read 52 = .ok (.iconst 2, 1) := by decide +kernel
theorem dX0_read_53 : decode cX0_read 53 = .ok (.if_icmp .eq 8, 3) := by decide +kernel
theorem dX0_read_56 : decode cX0_read 56 = .ok (.iload_n 2, 1) := by decide +kernel
theorem dX0_read_57 : decode cX0_read 57 = .ok (.iconst 3, 1) := by decide +kernel
theorem dX0_read_58 : decode cX0_read 58 = .ok (.if_icmp .ne 7, 3) := by decide +kernel
theorem dX0_read_61 : decode cX0_read 61 = .ok (.iconst 1, 1) := by decide +kernel
theorem dX0_read_62 : decode cX0_read 62 = .ok (.goto 4, 3) := by decide +kernel
theorem dX0_read_65 : decode cX0_read 65 = .ok (.iconst 0, 1) := by decide +kernel
theorem dX0_read_66 : decode cX0_read 66 = .ok (.istore 4, 2) := by decide +kernel
theorem dX0_read_68 : decode cX0_read 68 = .ok (.iload 4, 2) := by decide +kernel
theorem dX0_read_70 : decode cX0_read 70 = .ok (.ifCond .eq 49, 3) := by decide +kernel
theorem dX0_read_73 : decode cX0_read 73 = .ok (.iload_n 1, 1) := by decide +kernel
theorem dX0_read_74 : decode cX0_read 74 = .ok (.bipush 100, 2) := by decide +kernel
theorem dX0_read_76 : decode cX0_read 76 = .ok (.if_icmp .lt 43, 3) := by decide +kernel
theorem dX0_read_79 : decode cX0_read 79 = .ok (.iload_n 1, 1) := by decide +kernel
theorem dX0_read_80 : decode cX0_read 80 = .ok (.bipush 100, 2) := by decide +kernel
theorem dX0_read_82 : decode cX0_read 82 = .ok (.isub, 1) := by decide +kernel
theorem dX0_read_83 : decode cX0_read 83 = .ok (.aload_n 0, 1) := by decide +kernel
theorem dX0_read_84 : decode cX0_read 84 = .ok (.getfield 26, 3) := by decide +kernel
theorem dX0_read_87 : decode cX0_read 87 = .ok (.if_icmp .ge 32, 3) := by decide +kernel
theorem dX0_read_90 : decode cX0_read 90 = .ok (.iload_n 1, 1) := by decide +kernel
theorem dX0_read_91 : decode cX0_read 91 = .ok (.bipush 100, 2) := by decide +kernel
theorem dX0_read_93 : decode cX0_read 93 = .ok (.isub, 1) := by decide +kernel
theorem dX0_read_94 : decode cX0_read 94 = .ok (.istore 5, 2) := by decide +kernel
theorem dX0_read_96 : decode cX0_read 96 = .ok (.iload_n 2, 1) := by decide +kernel
theorem dX0_read_97 : decode cX0_read 97 = .ok (.iconst 2, 1) := by decide +kernel
theorem dX0_read_98 : decode cX0_read 98 = .ok (.if_icmp .ne 13, 3) := by decide +kernel
theorem dX0_read_101 : decode cX0_read 101 = .ok (.aload_n 0, 1) := by decide +kernel
theorem dX0_read_102 : decode cX0_read 102 = .ok (.getfield 20, 3) := by decide +kernel
theorem dX0_read_105 : decode cX0_read 105 = .ok (.iload 5, 2) := by decide +kernel
theorem dX0_read_107 : decode cX0_read 107 = .ok (.laload, 1) := by decide +kernel
theorem dX0_read_108 : decode cX0_read 108 = .ok (.goto 10, 3) := by decide +kernel
theorem dX0_read_111 : decode cX0_read 111 = .ok (.aload_n 0, 1) := by decide +kernel
theorem dX0_read_112 : decode cX0_read 112 = .ok (.getfield 23, 3) := by decide +kernel
theorem dX0_read_115 : decode cX0_read 115 = .ok (.iload 5, 2) := by decide +kernel
theorem dX0_read_117 : decode cX0_read 117 = .ok (.laload, 1) := by decide +kernel
theorem dX0_read_118 : decode cX0_read 118 = .ok (.lreturn, 1) := by decide +kernel
theorem dX0_read_119 : decode cX0_read 119 = .ok (.new 143, 3) := by decide +kernel
theorem dX0_read_122 : decode cX0_read 122 = .ok (.dup, 1) := by decide +kernel
theorem dX0_read_123 : decode cX0_read 123 = .ok (.ldc 161, 2) := by decide +kernel
theorem dX0_read_125 : decode cX0_read 125 = .ok (.invokespecial 147, 3) := by decide +kernel
theorem dX0_read_128 : decode cX0_read 128 = .ok (.athrow, 1) := by decide +kernel
theorem dX0_count_0 : decode cX0_count 0 = .ok (.iload_n 1, 1) := by decide +kernel
theorem dX0_count_1 : decode cX0_count 1 = .ok (.tableswitch 62 0 4 #[35, 40, 45, 50, 56], 35) := by decide +kernel
theorem dX0_count_36 : decode cX0_count 36 = .ok (.aload_n 0, 1) := by decide +kernel
theorem dX0_count_37 : decode cX0_count 37 = .ok (.getfield 16, 3) := by decide +kernel
theorem dX0_count_40 : decode cX0_count 40 = .ok (.ireturn, 1) := by decide +kernel
theorem dX0_count_41 : decode cX0_count 41 = .ok (.aload_n 0, 1) := by decide +kernel
theorem dX0_count_42 : decode cX0_count 42 = .ok (.getfield 26, 3) := by decide +kernel
theorem dX0_count_45 : decode cX0_count 45 = .ok (.ireturn, 1) := by decide +kernel
theorem dX0_count_46 : decode cX0_count 46 = .ok (.aload_n 0, 1) := by decide +kernel
theorem dX0_count_47 : decode cX0_count 47 = .ok (.getfield 35, 3) := by decide +kernel
theorem dX0_count_50 : decode cX0_count 50 = .ok (.ireturn, 1) := by decide +kernel
theorem dX0_count_51 : decode cX0_count 51 = .ok (.aload_n 0, 1) := by decide +kernel
theorem dX0_count_52 : decode cX0_count 52 = .ok (.invokevirtual 163, 3) := by decide +kernel
theorem dX0_count_55 : decode cX0_count 55 = .ok (.l2i, 1) := by decide +kernel
theorem dX0_count_56 : decode cX0_count 56 = .ok (.ireturn, 1) := by decide +kernel
theorem dX0_count_57 : decode cX0_count 57 = .ok (.aload_n 0, 1) := by decide +kernel
theorem dX0_count_58 : decode cX0_count 58 = .ok (.invokevirtual 95, 3) := by decide +kernel
theorem dX0_count_61 : decode cX0_count 61 = .ok (.l2i, 1) := by decide +kernel
theorem dX0_count_62 : decode cX0_count 62 = .ok (.ireturn, 1) := by decide +kernel
theorem dX0_count_63 : decode cX0_count 63 = .ok (.iconst (-1), 1) := by decide +kernel
theorem dX0_count_64 : decode cX0_count 64 = .ok (.ireturn, 1) := by decide +kernel
theorem dX0_isWithin_0 : decode cX0_isWithin 0 = .ok (.lload_n 0, 1) := by decide +kernel
theorem dX0_isWithin_1 : decode cX0_isWithin 1 = .ok (.lload_n 2, 1) := by decide +kernel
theorem dX0_isWithin_2 : decode cX0_isWithin 2 = .ok (.lcmp, 1) := by decide +kernel
theorem dX0_isWithin_3 : decode cX0_isWithin 3 = .ok (.ifCond .lt 14, 3) := by decide +kernel
theorem dX0_isWithin_6 : decode cX0_isWithin 6 = .ok (.lload_n 0, 1) := by decide +kernel
theorem dX0_isWithin_7 : decode cX0_isWithin 7 = .ok (.lload 4, 2) := by decide +kernel
theorem dX0_isWithin_9 : decode cX0_isWithin 9 = .ok (.lcmp, 1) := by decide +kernel
theorem dX0_isWithin_10 : decode cX0_isWithin 10 = .ok (.ifCond .gt 7, 3) := by decide +kernel
theorem dX0_isWithin_13 : decode cX0_isWithin 13 = .ok (.iconst 1, 1) := by decide +kernel
theorem dX0_isWithin_14 : decode cX0_isWithin 14 = .ok (.goto 4, 3) := by decide +kernel
theorem dX0_isWithin_17 : decode cX0_isWithin 17 = .ok (.iconst 0, 1) := by decide +kernel
theorem dX0_isWithin_18 : decode cX0_isWithin 18 = .ok (.ireturn, 1) := by decide +kernel
theorem dX0_isLevel_0 : decode cX0_isLevel 0 = .ok (.lload_n 0, 1) := by decide +kernel
theorem dX0_isLevel_1 : decode cX0_isLevel 1 = .ok (.ldc2_w 166, 3) := by decide +kernel
theorem dX0_isLevel_4 : decode cX0_isLevel 4 = .ok (.ldc2_w 168, 3) := by decide +kernel
theorem dX0_isLevel_7 : decode cX0_isLevel 7 = .ok (.invokestatic 40, 3) := by decide +kernel
theorem dX0_isLevel_10 : decode cX0_isLevel 10 = .ok (.ireturn, 1) := by decide +kernel
theorem dX0_isDensity_0 : decode cX0_isDensity 0 = .ok (.lload_n 0, 1) := by decide +kernel
theorem dX0_isDensity_1 : decode cX0_isDensity 1 = .ok (.ldc2_w 170, 3) := by decide +kernel
theorem dX0_isDensity_4 : decode cX0_isDensity 4 = .ok (.ldc2_w 172, 3) := by decide +kernel
theorem dX0_isDensity_7 : decode cX0_isDensity 7 = .ok (.invokestatic 40, 3) := by decide +kernel
theorem dX0_isDensity_10 : decode cX0_isDensity 10 = .ok (.ireturn, 1) := by decide +kernel
theorem dX0_dividedUp_0 : decode cX0_dividedUp 0 = .ok (.lload_n 2, 1) := by decide +kernel
theorem dX0_dividedUp_1 : decode cX0_dividedUp 1 = .ok (.lconst 0, 1) := by decide +kernel
theorem dX0_dividedUp_2 : decode cX0_dividedUp 2 = .ok (.lcmp, 1) := by decide +kernel
theorem dX0_dividedUp_3 : decode cX0_dividedUp 3 = .ok (.ifCond .gt 5, 3) := by decide +kernel
theorem dX0_dividedUp_6 : decode cX0_dividedUp 6 = .ok (.lconst 0, 1) := by decide +kernel
theorem dX0_dividedUp_7 : decode cX0_dividedUp 7 = .ok (.lreturn, 1) := by decide +kernel
theorem dX0_dividedUp_8 : decode cX0_dividedUp 8 = .ok (.lload_n 0, 1) := by decide +kernel
theorem dX0_dividedUp_9 : decode cX0_dividedUp 9 = .ok (.lload_n 2, 1) := by decide +kernel
theorem dX0_dividedUp_10 : decode cX0_dividedUp 10 = .ok (.ladd, 1) := by decide +kernel
theorem dX0_dividedUp_11 : decode cX0_dividedUp 11 = .ok (.lconst 1, 1) := by decide +kernel
theorem dX0_dividedUp_12 : decode cX0_dividedUp 12 = .ok (.lsub, 1) := by decide +kernel
theorem dX0_dividedUp_13 : decode cX0_dividedUp 13 = .ok (.lload_n 2, 1) := by decide +kernel
theorem dX0_dividedUp_14 : decode cX0_dividedUp 14 = .ok (.ldiv, 1) := by decide +kernel
theorem dX0_dividedUp_15 : decode cX0_dividedUp 15 = .ok (.lreturn, 1) := by decide +kernel
theorem dX0_secondsFor_0 : decode cX0_secondsFor 0 = .ok (.ldc2_w 174, 3) := by decide +kernel
theorem dX0_secondsFor_3 : decode cX0_secondsFor 3 = .ok (.lload_n 0, 1) := by decide +kernel
theorem dX0_secondsFor_4 : decode cX0_secondsFor 4 = .ok (.lmul, 1) := by decide +kernel
theorem dX0_secondsFor_5 : decode cX0_secondsFor 5 = .ok (.lload_n 2, 1) := by decide +kernel
theorem dX0_secondsFor_6 : decode cX0_secondsFor 6 = .ok (.invokestatic 134, 3) := by decide +kernel
theorem dX0_secondsFor_9 : decode cX0_secondsFor 9 = .ok (.lreturn, 1) := by decide +kernel
theorem dX0_squatOf_0 : decode cX0_squatOf 0 = .ok (.lload_n 2, 1) := by decide +kernel
theorem dX0_squatOf_1 : decode cX0_squatOf 1 = .ok (.lload_n 0, 1) := by decide +kernel
theorem dX0_squatOf_2 : decode cX0_squatOf 2 = .ok (.invokestatic 176, 3) := by decide +kernel
theorem dX0_squatOf_5 : decode cX0_squatOf 5 = .ok (.lmul, 1) := by decide +kernel
theorem dX0_squatOf_6 : decode cX0_squatOf 6 = .ok (.ldc2_w 179, 3) := by decide +kernel
theorem dX0_squatOf_9 : decode cX0_squatOf 9 = .ok (.invokestatic 134, 3) := by decide +kernel
theorem dX0_squatOf_12 : decode cX0_squatOf 12 = .ok (.lreturn, 1) := by decide +kernel
theorem dX0_squatThousandths_0 : decode cX0_squatThousandths 0 = .ok (.lload_n 0, 1) := by decide +kernel
theorem dX0_squatThousandths_1 : decode cX0_squatThousandths 1 = .ok (.ldc2_w 181, 3) := by decide +kernel
theorem dX0_squatThousandths_4 : decode cX0_squatThousandths 4 = .ok (.ldiv, 1) := by decide +kernel
theorem dX0_squatThousandths_5 : decode cX0_squatThousandths 5 = .ok (.l2i, 1) := by decide +kernel
theorem dX0_squatThousandths_6 : decode cX0_squatThousandths 6 = .ok (.istore_n 2, 1) := by decide +kernel
theorem dX0_squatThousandths_7 : decode cX0_squatThousandths 7 = .ok (.iload_n 2, 1) := by decide +kernel
theorem dX0_squatThousandths_8 : decode cX0_squatThousandths 8 = .ok (.ifCond .lt 13, 3) := by decide +kernel
theorem dX0_squatThousandths_11 : decode cX0_squatThousandths 11 = .ok (.iload_n 2, 1) := by decide +kernel
theorem dX0_squatThousandths_12 : decode cX0_squatThousandths 12 = .ok (.iconst 1, 1) := by decide +kernel
theorem dX0_squatThousandths_13 : decode cX0_squatThousandths 13 = .ok (.iadd, 1) := by decide +kernel
theorem dX0_squatThousandths_14 : decode cX0_squatThousandths 14 = .ok (.getstatic 183, 3) := by decide +kernel
theorem dX0_squatThousandths_17 : decode cX0_squatThousandths 17 = .ok (.arraylength, 1) := by decide +kernel
theorem dX0_squatThousandths_18 : decode cX0_squatThousandths 18 = .ok (.if_icmp .lt 15, 3) := by decide +kernel
theorem dX0_squatThousandths_21 : decode cX0_squatThousandths 21 = .ok (.getstatic 183, 3) := by decide +kernel
theorem dX0_squatThousandths_24 : decode cX0_squatThousandths 24 = .ok (.getstatic 183, 3) := by decide +kernel
theorem dX0_squatThousandths_27 : decode cX0_squatThousandths 27 = .ok (.arraylength, 1) := by decide +kernel
theorem dX0_squatThousandths_28 : decode cX0_squatThousandths 28 = .ok (.iconst 1, 1) := by decide +kernel
theorem dX0_squatThousandths_29 : decode cX0_squatThousandths 29 = .ok (.isub, 1) := by decide +kernel
theorem dX0_squatThousandths_30 : decode cX0_squatThousandths 30 = .ok (.iaload, 1) := by decide +kernel
theorem dX0_squatThousandths_31 : decode cX0_squatThousandths 31 = .ok (.i2l, 1) := by decide +kernel
theorem dX0_squatThousandths_32 : decode cX0_squatThousandths 32 = .ok (.lreturn, 1) := by decide +kernel
theorem dX0_squatThousandths_33 : decode cX0_squatThousandths 33 = .ok (.getstatic 183, 3) := by decide +kernel
theorem dX0_squatThousandths_36 : decode cX0_squatThousandths 36 = .ok (.iload_n 2, 1) := by decide +kernel
theorem dX0_squatThousandths_37 : decode cX0_squatThousandths 37 = .ok (.iconst 1, 1) := by decide +kernel
theorem dX0_squatThousandths_38 : decode cX0_squatThousandths 38 = .ok (.iadd, 1) := by decide +kernel
theorem dX0_squatThousandths_39 : decode cX0_squatThousandths 39 = .ok (.iaload, 1) := by decide +kernel
theorem dX0_squatThousandths_40 : decode cX0_squatThousandths 40 = .ok (.getstatic 183, 3) := by decide +kernel
theorem dX0_squatThousandths_43 : decode cX0_squatThousandths 43 = .ok (.iload_n 2, 1) := by decide +kernel
theorem dX0_squatThousandths_44 : decode cX0_squatThousandths 44 = .ok (.iaload, 1) := by decide +kernel
theorem dX0_squatThousandths_45 : decode cX0_squatThousandths 45 = .ok (.isub, 1) := by decide +kernel
theorem dX0_squatThousandths_46 : decode cX0_squatThousandths 46 = .ok (.i2l, 1) := by decide +kernel
theorem dX0_squatThousandths_47 : decode cX0_squatThousandths 47 = .ok (.lstore_n 3, 1) := by decide +kernel
theorem dX0_squatThousandths_48 : decode cX0_squatThousandths 48 = .ok (.getstatic 183, 3) := by decide +kernel
theorem dX0_squatThousandths_51 : decode cX0_squatThousandths 51 = .ok (.iload_n 2, 1) := by decide +kernel
theorem dX0_squatThousandths_52 : decode cX0_squatThousandths 52 = .ok (.iaload, 1) := by decide +kernel
theorem dX0_squatThousandths_53 : decode cX0_squatThousandths 53 = .ok (.i2l, 1) := by decide +kernel
theorem dX0_squatThousandths_54 : decode cX0_squatThousandths 54 = .ok (.lload_n 3, 1) := by decide +kernel
theorem dX0_squatThousandths_55 : decode cX0_squatThousandths 55 = .ok (.lload_n 0, 1) := by decide +kernel
theorem dX0_squatThousandths_56 : decode cX0_squatThousandths 56 = .ok (.iload_n 2, 1) := by decide +kernel
theorem dX0_squatThousandths_57 : decode cX0_squatThousandths 57 = .ok (.i2l, 1) := by decide +kernel
theorem dX0_squatThousandths_58 : decode cX0_squatThousandths 58 = .ok (.ldc2_w 181, 3) := by decide +kernel
theorem dX0_squatThousandths_61 : decode cX0_squatThousandths 61 = .ok (.lmul, 1) := by decide +kernel
theorem dX0_squatThousandths_62 : decode cX0_squatThousandths 62 = .ok (.lsub, 1) := by decide +kernel
theorem dX0_squatThousandths_63 : decode cX0_squatThousandths 63 = .ok (.lmul, 1) := by decide +kernel
theorem dX0_squatThousandths_64 : decode cX0_squatThousandths 64 = .ok (.ldc2_w 181, 3) := by decide +kernel
theorem dX0_squatThousandths_67 : decode cX0_squatThousandths 67 = .ok (.ldiv, 1) := by decide +kernel
theorem dX0_squatThousandths_68 : decode cX0_squatThousandths 68 = .ok (.ladd, 1) := by decide +kernel
theorem dX0_squatThousandths_69 : decode cX0_squatThousandths 69 = .ok (.lreturn, 1) := by decide +kernel
theorem dX0_alternates_0 : decode cX0_alternates 0 = .ok (.aload_n 0, 1) := by decide +kernel
theorem dX0_alternates_1 : decode cX0_alternates 1 = .ok (.getfield 16, 3) := by decide +kernel
theorem dX0_alternates_4 : decode cX0_alternates 4 = .ok (.ifCond .ne 5, 3) := by decide +kernel
theorem dX0_alternates_7 : decode cX0_alternates 7 = .ok (.iconst 1, 1) := by decide +kernel
theorem dX0_alternates_8 : decode cX0_alternates 8 = .ok (.ireturn, 1) := by decide +kernel
theorem dX0_alternates_9 : decode cX0_alternates 9 = .ok (.aload_n 0, 1) := by decide +kernel
theorem dX0_alternates_10 : decode cX0_alternates 10 = .ok (.getfield 13, 3) := by decide +kernel
theorem dX0_alternates_13 : decode cX0_alternates 13 = .ok (.aload_n 0, 1) := by decide +kernel
theorem dX0_alternates_14 : decode cX0_alternates 14 = .ok (.getfield 16, 3) := by decide +kernel
theorem dX0_alternates_17 : decode cX0_alternates 17 = .ok (.iconst 1, 1) := by decide +kernel
theorem dX0_alternates_18 : decode cX0_alternates 18 = .ok (.isub, 1) := by decide +kernel
theorem dX0_alternates_19 : decode cX0_alternates 19 = .ok (.laload, 1) := by decide +kernel
theorem dX0_alternates_20 : decode cX0_alternates 20 = .ok (.lstore_n 3, 1) := by decide +kernel
theorem dX0_alternates_21 : decode cX0_alternates 21 = .ok (.aload_n 0, 1) := by decide +kernel
theorem dX0_alternates_22 : decode cX0_alternates 22 = .ok (.getfield 16, 3) := by decide +kernel
theorem dX0_alternates_25 : decode cX0_alternates 25 = .ok (.iconst 1, 1) := by decide +kernel
theorem dX0_alternates_26 : decode cX0_alternates 26 = .ok (.if_icmp .ne 15, 3) := by decide +kernel
theorem dX0_alternates_29 : decode cX0_alternates 29 = .ok (.lload_n 1, 1) := by decide +kernel
theorem dX0_alternates_30 : decode cX0_alternates 30 = .ok (.lload_n 3, 1) := by decide +kernel
theorem dX0_alternates_31 : decode cX0_alternates 31 = .ok (.lcmp, 1) := by decide +kernel
theorem dX0_alternates_32 : decode cX0_alternates 32 = .ok (.ifCond .eq 7, 3) := by decide +kernel
theorem dX0_alternates_35 : decode cX0_alternates 35 = .ok (.iconst 1, 1) := by decide +kernel
theorem dX0_alternates_36 : decode cX0_alternates 36 = .ok (.goto 4, 3) := by decide +kernel
theorem dX0_alternates_39 : decode cX0_alternates 39 = .ok (.iconst 0, 1) := by decide +kernel
theorem dX0_alternates_40 : decode cX0_alternates 40 = .ok (.ireturn, 1) := by decide +kernel
theorem dX0_alternates_41 : decode cX0_alternates 41 = .ok (.lload_n 3, 1) := by decide +kernel
theorem dX0_alternates_42 : decode cX0_alternates 42 = .ok (.aload_n 0, 1) := by decide +kernel
theorem dX0_alternates_43 : decode cX0_alternates 43 = .ok (.getfield 13, 3) := by decide +kernel
theorem dX0_alternates_46 : decode cX0_alternates 46 = .ok (.aload_n 0, 1) := by decide +kernel
theorem dX0_alternates_47 : decode cX0_alternates 47 = .ok (.getfield 16, 3) := by decide +kernel
theorem dX0_alternates_50 : decode cX0_alternates 50 = .ok (.iconst 2, 1) := by decide +kernel
theorem dX0_alternates_51 : decode cX0_alternates 51 = .ok (.isub, 1) := by decide +kernel
theorem dX0_alternates_52 : decode cX0_alternates 52 = .ok (.laload, 1) := by decide +kernel
theorem dX0_alternates_53 : decode cX0_alternates 53 = .ok (.lcmp, 1) := by decide +kernel
theorem dX0_alternates_54 : decode cX0_alternates 54 = .ok (.ifCond .le 7, 3) := by decide +kernel
theorem dX0_alternates_57 : decode cX0_alternates 57 = .ok (.iconst 1, 1) := by decide +kernel
theorem dX0_alternates_58 : decode cX0_alternates 58 = .ok (.goto 4, 3) := by decide +kernel
theorem dX0_alternates_61 : decode cX0_alternates 61 = .ok (.iconst 0, 1) := by decide +kernel
theorem dX0_alternates_62 : decode cX0_alternates 62 = .ok (.istore 5, 2) := by decide +kernel
theorem dX0_alternates_64 : decode cX0_alternates 64 = .ok (.iload 5, 2) := by decide +kernel
theorem dX0_alternates_66 : decode cX0_alternates 66 = .ok (.ifCond .eq 17, 3) := by decide +kernel
theorem dX0_alternates_69 : decode cX0_alternates 69 = .ok (.lload_n 1, 1) := by decide +kernel
theorem dX0_alternates_70 : decode cX0_alternates 70 = .ok (.lload_n 3, 1) := by decide +kernel
theorem dX0_alternates_71 : decode cX0_alternates 71 = .ok (.lcmp, 1) := by decide +kernel
theorem dX0_alternates_72 : decode cX0_alternates 72 = .ok (.ifCond .ge 7, 3) := by decide +kernel
theorem dX0_alternates_75 : decode cX0_alternates 75 = .ok (.iconst 1, 1) := by decide +kernel
theorem dX0_alternates_76 : decode cX0_alternates 76 = .ok (.goto 18, 3) := by decide +kernel
theorem dX0_alternates_79 : decode cX0_alternates 79 = .ok (.iconst 0, 1) := by decide +kernel
theorem dX0_alternates_80 : decode cX0_alternates 80 = .ok (.goto 14, 3) := by decide +kernel
theorem dX0_alternates_83 : decode cX0_alternates 83 = .ok (.lload_n 1, 1) := by decide +kernel
theorem dX0_alternates_84 : decode cX0_alternates 84 = .ok (.lload_n 3, 1) := by decide +kernel
theorem dX0_alternates_85 : decode cX0_alternates 85 = .ok (.lcmp, 1) := by decide +kernel
theorem dX0_alternates_86 : decode cX0_alternates 86 = .ok (.ifCond .le 7, 3) := by decide +kernel
theorem dX0_alternates_89 : decode cX0_alternates 89 = .ok (.iconst 1, 1) := by decide +kernel
theorem dX0_alternates_90 : decode cX0_alternates 90 = .ok (.goto 4, 3) := by decide +kernel
theorem dX0_alternates_93 : decode cX0_alternates 93 = .ok (.iconst 0, 1) := by decide +kernel
theorem dX0_alternates_94 : decode cX0_alternates 94 = .ok (.ireturn, 1) := by decide +kernel
theorem dX0_hasTable_0 : decode cX0_hasTable 0 = .ok (.aload_n 0, 1) := by decide +kernel
theorem dX0_hasTable_1 : decode cX0_hasTable 1 = .ok (.getfield 16, 3) := by decide +kernel
theorem dX0_hasTable_4 : decode cX0_hasTable 4 = .ok (.iconst 2, 1) := by decide +kernel
theorem dX0_hasTable_5 : decode cX0_hasTable 5 = .ok (.if_icmp .lt 7, 3) := by decide +kernel
theorem dX0_hasTable_8 : decode cX0_hasTable 8 = .ok (.iconst 1, 1) := by decide +kernel
theorem dX0_hasTable_9 : decode cX0_hasTable 9 = .ok (.goto 4, 3) := by decide +kernel
theorem dX0_hasTable_12 : decode cX0_hasTable 12 = .ok (.iconst 0, 1) := by decide +kernel
theorem dX0_hasTable_13 : decode cX0_hasTable 13 = .ok (.ireturn, 1) := by decide +kernel
theorem dX0_firstSecond_0 : decode cX0_firstSecond 0 = .ok (.aload_n 0, 1) := by decide +kernel
theorem dX0_firstSecond_1 : decode cX0_firstSecond 1 = .ok (.invokevirtual 186, 3) := by decide +kernel
theorem dX0_firstSecond_4 : decode cX0_firstSecond 4 = .ok (.ifCond .eq 12, 3) := by decide +kernel
theorem dX0_firstSecond_7 : decode cX0_firstSecond 7 = .ok (.aload_n 0, 1) := by decide +kernel
theorem dX0_firstSecond_8 : decode cX0_firstSecond 8 = .ok (.getfield 9, 3) := by decide +kernel
theorem dX0_firstSecond_11 : decode cX0_firstSecond 11 = .ok (.iconst 0, 1) := by decide +kernel
theorem dX0_firstSecond_12 : decode cX0_firstSecond 12 = .ok (.laload, 1) := by decide +kernel
theorem dX0_firstSecond_13 : decode cX0_firstSecond 13 = .ok (.goto 6, 3) := by decide +kernel
theorem dX0_firstSecond_16 : decode cX0_firstSecond 16 = .ok (.ldc2_w 190, 3) := by decide +kernel
theorem dX0_firstSecond_19 : decode cX0_firstSecond 19 = .ok (.lreturn, 1) := by decide +kernel
theorem dX0_lastSecond_0 : decode cX0_lastSecond 0 = .ok (.aload_n 0, 1) := by decide +kernel
theorem dX0_lastSecond_1 : decode cX0_lastSecond 1 = .ok (.invokevirtual 186, 3) := by decide +kernel
theorem dX0_lastSecond_4 : decode cX0_lastSecond 4 = .ok (.ifCond .eq 17, 3) := by decide +kernel
theorem dX0_lastSecond_7 : decode cX0_lastSecond 7 = .ok (.aload_n 0, 1) := by decide +kernel
theorem dX0_lastSecond_8 : decode cX0_lastSecond 8 = .ok (.getfield 9, 3) := by decide +kernel
theorem dX0_lastSecond_11 : decode cX0_lastSecond 11 = .ok (.aload_n 0, 1) := by decide +kernel
theorem dX0_lastSecond_12 : decode cX0_lastSecond 12 = .ok (.getfield 16, 3) := by decide +kernel
theorem dX0_lastSecond_15 : decode cX0_lastSecond 15 = .ok (.iconst 1, 1) := by decide +kernel
theorem dX0_lastSecond_16 : decode cX0_lastSecond 16 = .ok (.isub, 1) := by decide +kernel
theorem dX0_lastSecond_17 : decode cX0_lastSecond 17 = .ok (.laload, 1) := by decide +kernel
theorem dX0_lastSecond_18 : decode cX0_lastSecond 18 = .ok (.goto 6, 3) := by decide +kernel
theorem dX0_lastSecond_21 : decode cX0_lastSecond 21 = .ok (.ldc2_w 190, 3) := by decide +kernel
theorem dX0_lastSecond_24 : decode cX0_lastSecond 24 = .ok (.lreturn, 1) := by decide +kernel
theorem dX0_isInTable_0 : decode cX0_isInTable 0 = .ok (.aload_n 0, 1) := by decide +kernel
theorem dX0_isInTable_1 : decode cX0_isInTable 1 = .ok (.invokevirtual 186, 3) := by decide +kernel
theorem dX0_isInTable_4 : decode cX0_isInTable 4 = .ok (.ifCond .eq 22, 3) := by decide +kernel
theorem dX0_isInTable_7 : decode cX0_isInTable 7 = .ok (.lload_n 1, 1) := by decide +kernel
theorem dX0_isInTable_8 : decode cX0_isInTable 8 = .ok (.aload_n 0, 1) := by decide +kernel
theorem dX0_isInTable_9 : decode cX0_isInTable 9 = .ok (.invokevirtual 163, 3) := by decide +kernel
theorem dX0_isInTable_12 : decode cX0_isInTable 12 = .ok (.aload_n 0, 1) := by decide +kernel
theorem dX0_isInTable_13 : decode cX0_isInTable 13 = .ok (.invokevirtual 95, 3) := by decide +kernel
theorem dX0_isInTable_16 : decode cX0_isInTable 16 = .ok (.invokestatic 40, 3) := by decide +kernel
theorem dX0_isInTable_19 : decode cX0_isInTable 19 = .ok (.ifCond .eq 7, 3) := by decide +kernel
theorem dX0_isInTable_22 : decode cX0_isInTable 22 = .ok (.iconst 1, 1) := by decide +kernel
theorem dX0_isInTable_23 : decode cX0_isInTable 23 = .ok (.goto 4, 3) := by decide +kernel
theorem dX0_isInTable_26 : decode cX0_isInTable 26 = .ok (.iconst 0, 1) := by decide +kernel
theorem dX0_isInTable_27 : decode cX0_isInTable 27 = .ok (.ireturn, 1) := by decide +kernel
theorem dX0_lastNotBehind_0 : decode cX0_lastNotBehind 0 = .ok (.iload_n 3, 1) := by decide +kernel
theorem dX0_lastNotBehind_1 : decode cX0_lastNotBehind 1 = .ok (.iconst 1, 1) := by decide +kernel
theorem dX0_lastNotBehind_2 : decode cX0_lastNotBehind 2 = .ok (.isub, 1) := by decide +kernel
theorem dX0_lastNotBehind_3 : decode cX0_lastNotBehind 3 = .ok (.istore 4, 2) := by decide +kernel
theorem dX0_lastNotBehind_5 : decode cX0_lastNotBehind 5 = .ok (.iload 4, 2) := by decide +kernel
theorem dX0_lastNotBehind_7 : decode cX0_lastNotBehind 7 = .ok (.ifCond .lt 21, 3) := by decide +kernel
theorem dX0_lastNotBehind_10 : decode cX0_lastNotBehind 10 = .ok (.aload_n 2, 1) := by decide +kernel
theorem dX0_lastNotBehind_11 : decode cX0_lastNotBehind 11 = .ok (.iload 4, 2) := by decide +kernel
theorem dX0_lastNotBehind_13 : decode cX0_lastNotBehind 13 = .ok (.laload, 1) := by decide +kernel
theorem dX0_lastNotBehind_14 : decode cX0_lastNotBehind 14 = .ok (.lload_n 0, 1) := by decide +kernel
theorem dX0_lastNotBehind_15 : decode cX0_lastNotBehind 15 = .ok (.lcmp, 1) := by decide +kernel
theorem dX0_lastNotBehind_16 : decode cX0_lastNotBehind 16 = .ok (.ifCond .gt 6, 3) := by decide +kernel
theorem dX0_lastNotBehind_19 : decode cX0_lastNotBehind 19 = .ok (.iload 4, 2) := by decide +kernel
theorem dX0_lastNotBehind_21 : decode cX0_lastNotBehind 21 = .ok (.ireturn, 1) := by decide +kernel
theorem dX0_lastNotBehind_22 : decode cX0_lastNotBehind 22 = .ok (.iinc 4 (-1), 3) := by decide +kernel
theorem dX0_lastNotBehind_25 : decode cX0_lastNotBehind 25 = .ok (.goto (-20), 3) := by decide +kernel
theorem dX0_lastNotBehind_28 : decode cX0_lastNotBehind 28 = .ok (.iconst (-1), 1) := by decide +kernel
theorem dX0_lastNotBehind_29 : decode cX0_lastNotBehind 29 = .ok (.ireturn, 1) := by decide +kernel
theorem dX0_heightAt_0 : decode cX0_heightAt 0 = .ok (.aload_n 0, 1) := by decide +kernel
theorem dX0_heightAt_1 : decode cX0_heightAt 1 = .ok (.lload_n 1, 1) := by decide +kernel
theorem dX0_heightAt_2 : decode cX0_heightAt 2 = .ok (.invokevirtual 80, 3) := by decide +kernel
theorem dX0_heightAt_5 : decode cX0_heightAt 5 = .ok (.aload_n 0, 1) := by decide +kernel
theorem dX0_heightAt_6 : decode cX0_heightAt 6 = .ok (.lload_n 1, 1) := by decide +kernel
theorem dX0_heightAt_7 : decode cX0_heightAt 7 = .ok (.invokevirtual 192, 3) := by decide +kernel
theorem dX0_heightAt_10 : decode cX0_heightAt 10 = .ok (.ladd, 1) := by decide +kernel
theorem dX0_heightAt_11 : decode cX0_heightAt 11 = .ok (.lreturn, 1) := by decide +kernel
theorem dX0_tableHeight_0 : decode cX0_tableHeight 0 = .ok (.lload_n 1, 1) := by decide +kernel
theorem dX0_tableHeight_1 : decode cX0_tableHeight 1 = .ok (.aload_n 0, 1) := by decide +kernel
theorem dX0_tableHeight_2 : decode cX0_tableHeight 2 = .ok (.getfield 9, 3) := by decide +kernel
theorem dX0_tableHeight_5 : decode cX0_tableHeight 5 = .ok (.aload_n 0, 1) := by decide +kernel
theorem dX0_tableHeight_6 : decode cX0_tableHeight 6 = .ok (.getfield 16, 3) := by decide +kernel
theorem dX0_tableHeight_9 : decode cX0_tableHeight 9 = .ok (.invokestatic 195, 3) := by decide +kernel
theorem dX0_tableHeight_12 : decode cX0_tableHeight 12 = .ok (.istore_n 3, 1) := by decide +kernel
theorem dX0_tableHeight_13 : decode cX0_tableHeight 13 = .ok (.iload_n 3, 1) := by decide +kernel
theorem dX0_tableHeight_14 : decode cX0_tableHeight 14 = .ok (.ifCond .ge 5, 3) := by decide +kernel
theorem dX0_tableHeight_17 : decode cX0_tableHeight 17 = .ok (.lconst 0, 1) := by decide +kernel
theorem dX0_tableHeight_18 : decode cX0_tableHeight 18 = .ok (.lreturn, 1) := by decide +kernel
theorem dX0_tableHeight_19 : decode cX0_tableHeight 19 = .ok (.aload_n 0, 1) := by decide +kernel
theorem dX0_tableHeight_20 : decode cX0_tableHeight 20 = .ok (.getfield 13, 3) := by decide +kernel
theorem dX0_tableHeight_23 : decode cX0_tableHeight 23 = .ok (.iload_n 3, 1) := by decide +kernel
theorem dX0_tableHeight_24 : decode cX0_tableHeight 24 = .ok (.laload, 1) := by decide +kernel
theorem dX0_tableHeight_25 : decode cX0_tableHeight 25 = .ok (.lstore 4, 2) := by decide +kernel
theorem dX0_tableHeight_27 : decode cX0_tableHeight 27 = .ok (.iload_n 3, 1) := by decide +kernel
theorem dX0_tableHeight_28 : decode cX0_tableHeight 28 = .ok (.iconst 1, 1) := by decide +kernel
theorem dX0_tableHeight_29 : decode cX0_tableHeight 29 = .ok (.iadd, 1) := by decide +kernel
theorem dX0_tableHeight_30 : decode cX0_tableHeight 30 = .ok (.aload_n 0, 1) := by decide +kernel
theorem dX0_tableHeight_31 : decode cX0_tableHeight 31 = .ok (.getfield 16, 3) := by decide +kernel
theorem dX0_tableHeight_34 : decode cX0_tableHeight 34 = .ok (.if_icmp .lt 6, 3) := by decide +kernel
theorem dX0_tableHeight_37 : decode cX0_tableHeight 37 = .ok (.lload 4, 2) := by decide +kernel
theorem dX0_tableHeight_39 : decode cX0_tableHeight 39 = .ok (.lreturn, 1) := by decide +kernel
theorem dX0_tableHeight_40 : decode cX0_tableHeight 40 = .ok (.lload_n 1, 1) := by decide +kernel
theorem dX0_tableHeight_41 : decode cX0_tableHeight 41 = .ok (.aload_n 0, 1) := by decide +kernel
theorem dX0_tableHeight_42 : decode cX0_tableHeight 42 = .ok (.getfield 9, 3) := by decide +kernel
theorem dX0_tableHeight_45 : decode cX0_tableHeight 45 = .ok (.iload_n 3, 1) := by decide +kernel
theorem dX0_tableHeight_46 : decode cX0_tableHeight 46 = .ok (.laload, 1) := by decide +kernel
theorem dX0_tableHeight_47 : decode cX0_tableHeight 47 = .ok (.lsub, 1) := by decide +kernel
theorem dX0_tableHeight_48 : decode cX0_tableHeight 48 = .ok (.aload_n 0, 1) := by decide +kernel
theorem dX0_tableHeight_49 : decode cX0_tableHeight 49 = .ok (.getfield 9, 3) := by decide +kernel
theorem dX0_tableHeight_52 : decode cX0_tableHeight 52 = .ok (.iload_n 3, 1) := by decide +kernel
theorem dX0_tableHeight_53 : decode cX0_tableHeight 53 = .ok (.iconst 1, 1) := by decide +kernel
theorem dX0_tableHeight_54 : decode cX0_tableHeight 54 = .ok (.iadd, 1) := by decide +kernel
theorem dX0_tableHeight_55 : decode cX0_tableHeight 55 = .ok (.laload, 1) := by decide +kernel
theorem dX0_tableHeight_56 : decode cX0_tableHeight 56 = .ok (.aload_n 0, 1) := by decide +kernel
theorem dX0_tableHeight_57 : decode cX0_tableHeight 57 = .ok (.getfield 9, 3) := by decide +kernel
theorem dX0_tableHeight_60 : decode cX0_tableHeight 60 = .ok (.iload_n 3, 1) := by decide +kernel
theorem dX0_tableHeight_61 : decode cX0_tableHeight 61 = .ok (.laload, 1) := by decide +kernel
theorem dX0_tableHeight_62 : decode cX0_tableHeight 62 = .ok (.lsub, 1) := by decide +kernel
theorem dX0_tableHeight_63 : decode cX0_tableHeight 63 = .ok (.invokestatic 199, 3) := by decide +kernel
theorem dX0_tableHeight_66 : decode cX0_tableHeight 66 = .ok (.lstore 6, 2) := by decide +kernel
theorem dX0_tableHeight_68 : decode cX0_tableHeight 68 = .ok (.lload 4, 2) := by decide +kernel
theorem dX0_tableHeight_70 : decode cX0_tableHeight 70 = .ok (.aload_n 0, 1) := by decide +kernel
theorem dX0_tableHeight_71 : decode cX0_tableHeight 71 = .ok (.getfield 13, 3) := by decide +kernel
theorem dX0_tableHeight_74 : decode cX0_tableHeight 74 = .ok (.iload_n 3, 1) := by decide +kernel
theorem dX0_tableHeight_75 : decode cX0_tableHeight 75 = .ok (.iconst 1, 1) := by decide +kernel
theorem dX0_tableHeight_76 : decode cX0_tableHeight 76 = .ok (.iadd, 1) := by decide +kernel
theorem dX0_tableHeight_77 : decode cX0_tableHeight 77 = .ok (.laload, 1) := by decide +kernel
theorem dX0_tableHeight_78 : decode cX0_tableHeight 78 = .ok (.lload 4, 2) := by decide +kernel
theorem dX0_tableHeight_80 : decode cX0_tableHeight 80 = .ok (.lsub, 1) := by decide +kernel
theorem dX0_tableHeight_81 : decode cX0_tableHeight 81 = .ok (.lload 6, 2) := by decide +kernel
theorem dX0_tableHeight_83 : decode cX0_tableHeight 83 = .ok (.lmul, 1) := by decide +kernel
theorem dX0_tableHeight_84 : decode cX0_tableHeight 84 = .ok (.ldc2_w 202, 3) := by decide +kernel
theorem dX0_tableHeight_87 : decode cX0_tableHeight 87 = .ok (.invokestatic 204, 3) := by decide +kernel
theorem dX0_tableHeight_90 : decode cX0_tableHeight 90 = .ok (.ladd, 1) := by decide +kernel
theorem dX0_tableHeight_91 : decode cX0_tableHeight 91 = .ok (.lreturn, 1) := by decide +kernel
theorem dX0_cosinePart_0 : decode cX0_cosinePart 0 = .ok (.lload_n 2, 1) := by decide +kernel
theorem dX0_cosinePart_1 : decode cX0_cosinePart 1 = .ok (.lconst 0, 1) := by decide +kernel
theorem dX0_cosinePart_2 : decode cX0_cosinePart 2 = .ok (.lcmp, 1) := by decide +kernel
theorem dX0_cosinePart_3 : decode cX0_cosinePart 3 = .ok (.ifCond .gt 7, 3) := by decide +kernel
theorem dX0_cosinePart_6 : decode cX0_cosinePart 6 = .ok (.ldc2_w 202, 3) := by decide +kernel
theorem dX0_cosinePart_9 : decode cX0_cosinePart 9 = .ok (.lreturn, 1) := by decide +kernel
theorem dX0_cosinePart_10 : decode cX0_cosinePart 10 = .ok (.ldc2_w 209, 3) := by decide +kernel
theorem dX0_cosinePart_13 : decode cX0_cosinePart 13 = .ok (.lload_n 0, 1) := by decide +kernel
theorem dX0_cosinePart_14 : decode cX0_cosinePart 14 = .ok (.lmul, 1) := by decide +kernel
theorem dX0_cosinePart_15 : decode cX0_cosinePart 15 = .ok (.lstore 4, 2) := by decide +kernel
theorem dX0_cosinePart_17 : decode cX0_cosinePart 17 = .ok (.lload 4, 2) := by decide +kernel
theorem dX0_cosinePart_19 : decode cX0_cosinePart 19 = .ok (.lload_n 2, 1) := by decide +kernel
theorem dX0_cosinePart_20 : decode cX0_cosinePart 20 = .ok (.ldiv, 1) := by decide +kernel
theorem dX0_cosinePart_21 : decode cX0_cosinePart 21 = .ok (.l2i, 1) := by decide +kernel
theorem dX0_cosinePart_22 : decode cX0_cosinePart 22 = .ok (.istore 6, 2) := by decide +kernel
theorem dX0_cosinePart_24 : decode cX0_cosinePart 24 = .ok (.iload 6, 2) := by decide +kernel
theorem dX0_cosinePart_26 : decode cX0_cosinePart 26 = .ok (.ifCond .lt 14, 3) := by decide +kernel
theorem dX0_cosinePart_29 : decode cX0_cosinePart 29 = .ok (.iload 6, 2) := by decide +kernel
theorem dX0_cosinePart_31 : decode cX0_cosinePart 31 = .ok (.iconst 1, 1) := by decide +kernel
theorem dX0_cosinePart_32 : decode cX0_cosinePart 32 = .ok (.iadd, 1) := by decide +kernel
theorem dX0_cosinePart_33 : decode cX0_cosinePart 33 = .ok (.getstatic 120, 3) := by decide +kernel
theorem dX0_cosinePart_36 : decode cX0_cosinePart 36 = .ok (.arraylength, 1) := by decide +kernel
theorem dX0_cosinePart_37 : decode cX0_cosinePart 37 = .ok (.if_icmp .lt 7, 3) := by decide +kernel
theorem dX0_cosinePart_40 : decode cX0_cosinePart 40 = .ok (.ldc2_w 202, 3) := by decide +kernel
theorem dX0_cosinePart_43 : decode cX0_cosinePart 43 = .ok (.lreturn, 1) := by decide +kernel
theorem dX0_cosinePart_44 : decode cX0_cosinePart 44 = .ok (.getstatic 120, 3) := by decide +kernel
theorem dX0_cosinePart_47 : decode cX0_cosinePart 47 = .ok (.iload 6, 2) := by decide +kernel
theorem dX0_cosinePart_49 : decode cX0_cosinePart 49 = .ok (.iconst 1, 1) := by decide +kernel
theorem dX0_cosinePart_50 : decode cX0_cosinePart 50 = .ok (.iadd, 1) := by decide +kernel
theorem dX0_cosinePart_51 : decode cX0_cosinePart 51 = .ok (.iaload, 1) := by decide +kernel
theorem dX0_cosinePart_52 : decode cX0_cosinePart 52 = .ok (.getstatic 120, 3) := by decide +kernel
theorem dX0_cosinePart_55 : decode cX0_cosinePart 55 = .ok (.iload 6, 2) := by decide +kernel
theorem dX0_cosinePart_57 : decode cX0_cosinePart 57 = .ok (.iaload, 1) := by decide +kernel
theorem dX0_cosinePart_58 : decode cX0_cosinePart 58 = .ok (.isub, 1) := by decide +kernel
theorem dX0_cosinePart_59 : decode cX0_cosinePart 59 = .ok (.i2l, 1) := by decide +kernel
theorem dX0_cosinePart_60 : decode cX0_cosinePart 60 = .ok (.lstore 7, 2) := by decide +kernel
theorem dX0_cosinePart_62 : decode cX0_cosinePart 62 = .ok (.getstatic 120, 3) := by decide +kernel
theorem dX0_cosinePart_65 : decode cX0_cosinePart 65 = .ok (.iload 6, 2) := by decide +kernel
theorem dX0_cosinePart_67 : decode cX0_cosinePart 67 = .ok (.iaload, 1) := by decide +kernel
theorem dX0_cosinePart_68 : decode cX0_cosinePart 68 = .ok (.i2l, 1) := by decide +kernel
theorem dX0_cosinePart_69 : decode cX0_cosinePart 69 = .ok (.lload 7, 2) := by decide +kernel
theorem dX0_cosinePart_71 : decode cX0_cosinePart 71 = .ok (.lload 4, 2) := by decide +kernel
theorem dX0_cosinePart_73 : decode cX0_cosinePart 73 = .ok (.iload 6, 2) := by decide +kernel
theorem dX0_cosinePart_75 : decode cX0_cosinePart 75 = .ok (.i2l, 1) := by decide +kernel
theorem dX0_cosinePart_76 : decode cX0_cosinePart 76 = .ok (.lload_n 2, 1) := by decide +kernel
theorem dX0_cosinePart_77 : decode cX0_cosinePart 77 = .ok (.lmul, 1) := by decide +kernel
theorem dX0_cosinePart_78 : decode cX0_cosinePart 78 = .ok (.lsub, 1) := by decide +kernel
theorem dX0_cosinePart_79 : decode cX0_cosinePart 79 = .ok (.lmul, 1) := by decide +kernel
theorem dX0_cosinePart_80 : decode cX0_cosinePart 80 = .ok (.lload_n 2, 1) := by decide +kernel
theorem dX0_cosinePart_81 : decode cX0_cosinePart 81 = .ok (.ldiv, 1) := by decide +kernel
theorem dX0_cosinePart_82 : decode cX0_cosinePart 82 = .ok (.ladd, 1) := by decide +kernel
theorem dX0_cosinePart_83 : decode cX0_cosinePart 83 = .ok (.lreturn, 1) := by decide +kernel
theorem dX0_correction_0 : decode cX0_correction 0 = .ok (.lload_n 1, 1) := by decide +kernel
theorem dX0_correction_1 : decode cX0_correction 1 = .ok (.aload_n 0, 1) := by decide +kernel
theorem dX0_correction_2 : decode cX0_correction 2 = .ok (.getfield 20, 3) := by decide +kernel
theorem dX0_correction_5 : decode cX0_correction 5 = .ok (.aload_n 0, 1) := by decide +kernel
theorem dX0_correction_6 : decode cX0_correction 6 = .ok (.getfield 26, 3) := by decide +kernel
theorem dX0_correction_9 : decode cX0_correction 9 = .ok (.invokestatic 195, 3) := by decide +kernel
theorem dX0_correction_12 : decode cX0_correction 12 = .ok (.istore_n 3, 1) := by decide +kernel
theorem dX0_correction_13 : decode cX0_correction 13 = .ok (.iload_n 3, 1) := by decide +kernel
theorem dX0_correction_14 : decode cX0_correction 14 = .ok (.ifCond .ge 5, 3) := by decide +kernel
theorem dX0_correction_17 : decode cX0_correction 17 = .ok (.lconst 0, 1) := by decide +kernel
theorem dX0_correction_18 : decode cX0_correction 18 = .ok (.lreturn, 1) := by decide +kernel
theorem dX0_correction_19 : decode cX0_correction 19 = .ok (.aload_n 0, 1) := by decide +kernel
theorem dX0_correction_20 : decode cX0_correction 20 = .ok (.getfield 23, 3) := by decide +kernel
theorem dX0_correction_23 : decode cX0_correction 23 = .ok (.iload_n 3, 1) := by decide +kernel
theorem dX0_correction_24 : decode cX0_correction 24 = .ok (.laload, 1) := by decide +kernel
theorem dX0_correction_25 : decode cX0_correction 25 = .ok (.lstore 4, 2) := by decide +kernel
theorem dX0_correction_27 : decode cX0_correction 27 = .ok (.lload_n 1, 1) := by decide +kernel
theorem dX0_correction_28 : decode cX0_correction 28 = .ok (.aload_n 0, 1) := by decide +kernel
theorem dX0_correction_29 : decode cX0_correction 29 = .ok (.getfield 20, 3) := by decide +kernel
theorem dX0_correction_32 : decode cX0_correction 32 = .ok (.iload_n 3, 1) := by decide +kernel
theorem dX0_correction_33 : decode cX0_correction 33 = .ok (.laload, 1) := by decide +kernel
theorem dX0_correction_34 : decode cX0_correction 34 = .ok (.lsub, 1) := by decide +kernel
theorem dX0_correction_35 : decode cX0_correction 35 = .ok (.ldc2_w 211, 3) := by decide +kernel
theorem dX0_correction_38 : decode cX0_correction 38 = .ok (.ldiv, 1) := by decide +kernel
theorem dX0_correction_39 : decode cX0_correction 39 = .ok (.lstore 6, 2) := by decide +kernel
theorem dX0_correction_41 : decode cX0_correction 41 = .ok (.lconst 0, 1) := by decide +kernel
theorem dX0_correction_42 : decode cX0_correction 42 = .ok (.lstore 8, 2) := by decide +kernel
theorem dX0_correction_44 : decode cX0_correction 44 = .ok (.lload 8, 2) := by decide +kernel
theorem dX0_correction_46 : decode cX0_correction 46 = .ok (.lload 6, 2) := by decide +kernel
theorem dX0_correction_48 : decode cX0_correction 48 = .ok (.lcmp, 1) := by decide +kernel
theorem dX0_correction_49 : decode cX0_correction 49 = .ok (.ifCond .ge 20, 3) := by decide +kernel
theorem dX0_correction_52 : decode cX0_correction 52 = .ok (.lload 4, 2) := by decide +kernel
theorem dX0_correction_54 : decode cX0_correction 54 = .ok (.ldc2_w 213, 3) := by decide +kernel
theorem dX0_correction_57 : decode cX0_correction 57 = .ok (.ldiv, 1) := by decide +kernel
theorem dX0_correction_58 : decode cX0_correction 58 = .ok (.lstore 4, 2) := by decide +kernel
theorem dX0_correction_60 : decode cX0_correction 60 = .ok (.lload 8, 2) := by decide +kernel
theorem dX0_correction_62 : decode cX0_correction 62 = .ok (.lconst 1, 1) := by decide +kernel
theorem dX0_correction_63 : decode cX0_correction 63 = .ok (.ladd, 1) := by decide +kernel
theorem dX0_correction_64 : decode cX0_correction 64 = .ok (.lstore 8, 2) := by decide +kernel
theorem dX0_correction_66 : decode cX0_correction 66 = .ok (.goto (-22), 3) := by decide +kernel
theorem dX0_correction_69 : decode cX0_correction 69 = .ok (.lload 4, 2) := by decide +kernel
theorem dX0_correction_71 : decode cX0_correction 71 = .ok (.lreturn, 1) := by decide +kernel
theorem dX0_stretchEnd_0 : decode cX0_stretchEnd 0 = .ok (.lload_n 1, 1) := by decide +kernel
theorem dX0_stretchEnd_1 : decode cX0_stretchEnd 1 = .ok (.aload_n 0, 1) := by decide +kernel
theorem dX0_stretchEnd_2 : decode cX0_stretchEnd 2 = .ok (.getfield 9, 3) := by decide +kernel
theorem dX0_stretchEnd_5 : decode cX0_stretchEnd 5 = .ok (.aload_n 0, 1) := by decide +kernel
theorem dX0_stretchEnd_6 : decode cX0_stretchEnd 6 = .ok (.getfield 16, 3) := by decide +kernel
theorem dX0_stretchEnd_9 : decode cX0_stretchEnd 9 = .ok (.invokestatic 195, 3) := by decide +kernel
theorem dX0_stretchEnd_12 : decode cX0_stretchEnd 12 = .ok (.istore_n 3, 1) := by decide +kernel
theorem dX0_stretchEnd_13 : decode cX0_stretchEnd 13 = .ok (.iload_n 3, 1) := by decide +kernel
theorem dX0_stretchEnd_14 : decode cX0_stretchEnd 14 = .ok (.iconst 1, 1) := by decide +kernel
theorem dX0_stretchEnd_15 : decode cX0_stretchEnd 15 = .ok (.iadd, 1) := by decide +kernel
theorem dX0_stretchEnd_16 : decode cX0_stretchEnd 16 = .ok (.aload_n 0, 1) := by decide +kernel
theorem dX0_stretchEnd_17 : decode cX0_stretchEnd 17 = .ok (.getfield 16, 3) := by decide +kernel
theorem dX0_stretchEnd_20 : decode cX0_stretchEnd 20 = .ok (.if_icmp .ge 14, 3) := by decide +kernel
theorem dX0_stretchEnd_23 : decode cX0_stretchEnd 23 = .ok (.aload_n 0, 1) := by decide +kernel
theorem dX0_stretchEnd_24 : decode cX0_stretchEnd 24 = .ok (.getfield 9, 3) := by decide +kernel
theorem dX0_stretchEnd_27 : decode cX0_stretchEnd 27 = .ok (.iload_n 3, 1) := by decide +kernel
theorem dX0_stretchEnd_28 : decode cX0_stretchEnd 28 = .ok (.iconst 1, 1) := by decide +kernel
theorem dX0_stretchEnd_29 : decode cX0_stretchEnd 29 = .ok (.iadd, 1) := by decide +kernel
theorem dX0_stretchEnd_30 : decode cX0_stretchEnd 30 = .ok (.laload, 1) := by decide +kernel
theorem dX0_stretchEnd_31 : decode cX0_stretchEnd 31 = .ok (.goto 7, 3) := by decide +kernel
theorem dX0_stretchEnd_34 : decode cX0_stretchEnd 34 = .ok (.aload_n 0, 1) := by decide +kernel
theorem dX0_stretchEnd_35 : decode cX0_stretchEnd 35 = .ok (.invokevirtual 95, 3) := by decide +kernel
theorem dX0_stretchEnd_38 : decode cX0_stretchEnd 38 = .ok (.lstore 4, 2) := by decide +kernel
theorem dX0_stretchEnd_40 : decode cX0_stretchEnd 40 = .ok (.lload 4, 2) := by decide +kernel
theorem dX0_stretchEnd_42 : decode cX0_stretchEnd 42 = .ok (.aload_n 0, 1) := by decide +kernel
theorem dX0_stretchEnd_43 : decode cX0_stretchEnd 43 = .ok (.lload_n 1, 1) := by decide +kernel
theorem dX0_stretchEnd_44 : decode cX0_stretchEnd 44 = .ok (.invokevirtual 215, 3) := by decide +kernel
theorem dX0_stretchEnd_47 : decode cX0_stretchEnd 47 = .ok (.invokestatic 218, 3) := by decide +kernel
theorem dX0_stretchEnd_50 : decode cX0_stretchEnd 50 = .ok (.lreturn, 1) := by decide +kernel
theorem dX0_correctionEnd_0 : decode cX0_correctionEnd 0 = .ok (.ldc2_w 38, 3) := by decide +kernel
theorem dX0_correctionEnd_3 : decode cX0_correctionEnd 3 = .ok (.lstore_n 3, 1) := by decide +kernel
theorem dX0_correctionEnd_4 : decode cX0_correctionEnd 4 = .ok (.lload_n 1, 1) := by decide +kernel
theorem dX0_correctionEnd_5 : decode cX0_correctionEnd 5 = .ok (.aload_n 0, 1) := by decide +kernel
theorem dX0_correctionEnd_6 : decode cX0_correctionEnd 6 = .ok (.getfield 20, 3) := by decide +kernel
theorem dX0_correctionEnd_9 : decode cX0_correctionEnd 9 = .ok (.aload_n 0, 1) := by decide +kernel
theorem dX0_correctionEnd_10 : decode cX0_correctionEnd 10 = .ok (.getfield 26, 3) := by decide +kernel
theorem dX0_correctionEnd_13 : decode cX0_correctionEnd 13 = .ok (.invokestatic 195, 3) := by decide +kernel
theorem dX0_correctionEnd_16 : decode cX0_correctionEnd 16 = .ok (.istore 5, 2) := by decide +kernel
theorem dX0_correctionEnd_18 : decode cX0_correctionEnd 18 = .ok (.iload 5, 2) := by decide +kernel
theorem dX0_correctionEnd_20 : decode cX0_correctionEnd 20 = .ok (.iconst 1, 1) := by decide +kernel
theorem dX0_correctionEnd_21 : decode cX0_correctionEnd 21 = .ok (.iadd, 1) := by decide +kernel
theorem dX0_correctionEnd_22 : decode cX0_correctionEnd 22 = .ok (.aload_n 0, 1) := by decide +kernel
theorem dX0_correctionEnd_23 : decode cX0_correctionEnd 23 = .ok (.getfield 26, 3) := by decide +kernel
theorem dX0_correctionEnd_26 : decode cX0_correctionEnd 26 = .ok (.if_icmp .ge 15, 3) := by decide +kernel
theorem dX0_correctionEnd_29 : decode cX0_correctionEnd 29 = .ok (.aload_n 0, 1) := by decide +kernel
theorem dX0_correctionEnd_30 : decode cX0_correctionEnd 30 = .ok (.getfield 20, 3) := by decide +kernel
theorem dX0_correctionEnd_33 : decode cX0_correctionEnd 33 = .ok (.iload 5, 2) := by decide +kernel
theorem dX0_correctionEnd_35 : decode cX0_correctionEnd 35 = .ok (.iconst 1, 1) := by decide +kernel
theorem dX0_correctionEnd_36 : decode cX0_correctionEnd 36 = .ok (.iadd, 1) := by decide +kernel
theorem dX0_correctionEnd_37 : decode cX0_correctionEnd 37 = .ok (.laload, 1) := by decide +kernel
theorem dX0_correctionEnd_38 : decode cX0_correctionEnd 38 = .ok (.lconst 1, 1) := by decide +kernel
theorem dX0_correctionEnd_39 : decode cX0_correctionEnd 39 = .ok (.lsub, 1) := by decide +kernel
theorem dX0_correctionEnd_40 : decode cX0_correctionEnd 40 = .ok (.lstore_n 3, 1) := by decide +kernel
theorem dX0_correctionEnd_41 : decode cX0_correctionEnd 41 = .ok (.iload 5, 2) := by decide +kernel
theorem dX0_correctionEnd_43 : decode cX0_correctionEnd 43 = .ok (.ifCond .ge 5, 3) := by decide +kernel
theorem dX0_correctionEnd_46 : decode cX0_correctionEnd 46 = .ok (.lload_n 3, 1) := by decide +kernel
theorem dX0_correctionEnd_47 : decode cX0_correctionEnd 47 = .ok (.lreturn, 1) := by decide +kernel
theorem dX0_correctionEnd_48 : decode cX0_correctionEnd 48 = .ok (.lload_n 1, 1) := by decide +kernel
theorem dX0_correctionEnd_49 : decode cX0_correctionEnd 49 = .ok (.aload_n 0, 1) := by decide +kernel
theorem dX0_correctionEnd_50 : decode cX0_correctionEnd 50 = .ok (.getfield 20, 3) := by decide +kernel
theorem dX0_correctionEnd_53 : decode cX0_correctionEnd 53 = .ok (.iload 5, 2) := by decide +kernel
theorem dX0_correctionEnd_55 : decode cX0_correctionEnd 55 = .ok (.laload, 1) := by decide +kernel
theorem dX0_correctionEnd_56 : decode cX0_correctionEnd 56 = .ok (.lsub, 1) := by decide +kernel
theorem dX0_correctionEnd_57 : decode cX0_correctionEnd 57 = .ok (.ldc2_w 211, 3) := by decide +kernel
theorem dX0_correctionEnd_60 : decode cX0_correctionEnd 60 = .ok (.lrem, 1) := by decide +kernel
theorem dX0_correctionEnd_61 : decode cX0_correctionEnd 61 = .ok (.lstore 6, 2) := by decide +kernel
theorem dX0_correctionEnd_63 : decode cX0_correctionEnd 63 = .ok (.lload_n 3, 1) := by decide +kernel
theorem dX0_correctionEnd_64 : decode cX0_correctionEnd 64 = .ok (.lload_n 1, 1) := by decide +kernel
theorem dX0_correctionEnd_65 : decode cX0_correctionEnd 65 = .ok (.ldc2_w 211, 3) := by decide +kernel
theorem dX0_correctionEnd_68 : decode cX0_correctionEnd 68 = .ok (.ladd, 1) := by decide +kernel
theorem dX0_correctionEnd_69 : decode cX0_correctionEnd 69 = .ok (.lconst 1, 1) := by decide +kernel
theorem dX0_correctionEnd_70 : decode cX0_correctionEnd 70 = .ok (.lsub, 1) := by decide +kernel
theorem dX0_correctionEnd_71 : decode cX0_correctionEnd 71 = .ok (.lload 6, 2) := by decide +kernel
theorem dX0_correctionEnd_73 : decode cX0_correctionEnd 73 = .ok (.lsub, 1) := by decide +kernel
theorem dX0_correctionEnd_74 : decode cX0_correctionEnd 74 = .ok (.invokestatic 218, 3) := by decide +kernel
theorem dX0_correctionEnd_77 : decode cX0_correctionEnd 77 = .ok (.lreturn, 1) := by decide +kernel
theorem dX0_nextSecond_0 : decode cX0_nextSecond 0 = .ok (.aload_n 0, 1) := by decide +kernel
theorem dX0_nextSecond_1 : decode cX0_nextSecond 1 = .ok (.invokevirtual 95, 3) := by decide +kernel
theorem dX0_nextSecond_4 : decode cX0_nextSecond 4 = .ok (.lstore 6, 2) := by decide +kernel
theorem dX0_nextSecond_6 : decode cX0_nextSecond 6 = .ok (.lload_n 3, 1) := by decide +kernel
theorem dX0_nextSecond_7 : decode cX0_nextSecond 7 = .ok (.lstore 8, 2) := by decide +kernel
theorem dX0_nextSecond_9 : decode cX0_nextSecond 9 = .ok (.iconst 0, 1) := by decide +kernel
theorem dX0_nextSecond_10 : decode cX0_nextSecond 10 = .ok (.istore 10, 2) := by decide +kernel
theorem dX0_nextSecond_12 : decode cX0_nextSecond 12 = .ok (.iload 10, 2) := by decide +kernel
theorem dX0_nextSecond_14 : decode cX0_nextSecond 14 = .ok (.sipush 20000, 3) := by decide +kernel
theorem dX0_nextSecond_17 : decode cX0_nextSecond 17 = .ok (.if_icmp .gt 88, 3) := by decide +kernel
theorem dX0_nextSecond_20 : decode cX0_nextSecond 20 = .ok (.lload 8, 2) := by decide +kernel
theorem dX0_nextSecond_22 : decode cX0_nextSecond 22 = .ok (.lload 6, 2) := by decide +kernel
theorem dX0_nextSecond_24 : decode cX0_nextSecond 24 = .ok (.lcmp, 1) := by decide +kernel
theorem dX0_nextSecond_25 : decode cX0_nextSecond 25 = .ok (.ifCond .gt 80, 3) := by decide +kernel
theorem dX0_nextSecond_28 : decode cX0_nextSecond 28 = .ok (.aload_n 0, 1) := by decide +kernel
theorem dX0_nextSecond_29 : decode cX0_nextSecond 29 = .ok (.lload 8, 2) := by decide +kernel
theorem dX0_nextSecond_31 : decode cX0_nextSecond 31 = .ok (.invokevirtual 70, 3) := by decide +kernel
theorem dX0_nextSecond_34 : decode cX0_nextSecond 34 = .ok (.lload_n 1, 1) := by decide +kernel
theorem dX0_nextSecond_35 : decode cX0_nextSecond 35 = .ok (.lcmp, 1) := by decide +kernel
theorem dX0_nextSecond_36 : decode cX0_nextSecond 36 = .ok (.ifCond .lt 7, 3) := by decide +kernel
theorem dX0_nextSecond_39 : decode cX0_nextSecond 39 = .ok (.iconst 1, 1) := by decide +kernel
theorem dX0_nextSecond_40 : decode cX0_nextSecond 40 = .ok (.goto 4, 3) := by decide +kernel
theorem dX0_nextSecond_43 : decode cX0_nextSecond 43 = .ok (.iconst 0, 1) := by decide +kernel
theorem dX0_nextSecond_44 : decode cX0_nextSecond 44 = .ok (.iload 5, 2) := by decide +kernel
theorem dX0_nextSecond_46 : decode cX0_nextSecond 46 = .ok (.if_icmp .ne 6, 3) := by decide +kernel
theorem dX0_nextSecond_49 : decode cX0_nextSecond 49 = .ok (.lload 8, 2) := by decide +kernel
theorem dX0_nextSecond_51 : decode cX0_nextSecond 51 = .ok (.lreturn, 1) := by decide +kernel
theorem dX0_nextSecond_52 : decode cX0_nextSecond 52 = .ok (.aload_n 0, 1) := by decide +kernel
theorem dX0_nextSecond_53 : decode cX0_nextSecond 53 = .ok (.lload 8, 2) := by decide +kernel
theorem dX0_nextSecond_55 : decode cX0_nextSecond 55 = .ok (.invokevirtual 221, 3) := by decide +kernel
theorem dX0_nextSecond_58 : decode cX0_nextSecond 58 = .ok (.lstore 11, 2) := by decide +kernel
theorem dX0_nextSecond_60 : decode cX0_nextSecond 60 = .ok (.aload_n 0, 1) := by decide +kernel
theorem dX0_nextSecond_61 : decode cX0_nextSecond 61 = .ok (.lload 11, 2) := by decide +kernel
theorem dX0_nextSecond_63 : decode cX0_nextSecond 63 = .ok (.invokevirtual 70, 3) := by decide +kernel
theorem dX0_nextSecond_66 : decode cX0_nextSecond 66 = .ok (.lload_n 1, 1) := by decide +kernel
theorem dX0_nextSecond_67 : decode cX0_nextSecond 67 = .ok (.lcmp, 1) := by decide +kernel
theorem dX0_nextSecond_68 : decode cX0_nextSecond 68 = .ok (.ifCond .lt 7, 3) := by decide +kernel
theorem dX0_nextSecond_71 : decode cX0_nextSecond 71 = .ok (.iconst 1, 1) := by decide +kernel
theorem dX0_nextSecond_72 : decode cX0_nextSecond 72 = .ok (.goto 4, 3) := by decide +kernel
theorem dX0_nextSecond_75 : decode cX0_nextSecond 75 = .ok (.iconst 0, 1) := by decide +kernel
theorem dX0_nextSecond_76 : decode cX0_nextSecond 76 = .ok (.iload 5, 2) := by decide +kernel
theorem dX0_nextSecond_78 : decode cX0_nextSecond 78 = .ok (.if_icmp .ne 15, 3) := by decide +kernel
theorem dX0_nextSecond_81 : decode cX0_nextSecond 81 = .ok (.aload_n 0, 1) := by decide +kernel
theorem dX0_nextSecond_82 : decode cX0_nextSecond 82 = .ok (.lload_n 1, 1) := by decide +kernel
theorem dX0_nextSecond_83 : decode cX0_nextSecond 83 = .ok (.lload 8, 2) := by decide +kernel
theorem dX0_nextSecond_85 : decode cX0_nextSecond 85 = .ok (.lload 11, 2) := by decide +kernel
theorem dX0_nextSecond_87 : decode cX0_nextSecond 87 = .ok (.iload 5, 2) := by decide +kernel
theorem dX0_nextSecond_89 : decode cX0_nextSecond 89 = .ok (.invokevirtual 224, 3) := by decide +kernel
theorem dX0_nextSecond_92 : decode cX0_nextSecond 92 = .ok (.lreturn, 1) := by decide +kernel
theorem dX0_nextSecond_93 : decode cX0_nextSecond 93 = .ok (.lload 11, 2) := by decide +kernel
theorem dX0_nextSecond_95 : decode cX0_nextSecond 95 = .ok (.lconst 1, 1) := by decide +kernel
theorem dX0_nextSecond_96 : decode cX0_nextSecond 96 = .ok (.ladd, 1) := by decide +kernel
theorem dX0_nextSecond_97 : decode cX0_nextSecond 97 = .ok (.lstore 8, 2) := by decide +kernel
theorem dX0_nextSecond_99 : decode cX0_nextSecond 99 = .ok (.iinc 10 1, 3) := by decide +kernel
theorem dX0_nextSecond_102 : decode cX0_nextSecond 102 = .ok (.goto (-90), 3) := by decide +kernel
theorem dX0_nextSecond_105 : decode cX0_nextSecond 105 = .ok (.lload 6, 2) := by decide +kernel
theorem dX0_nextSecond_107 : decode cX0_nextSecond 107 = .ok (.lconst 1, 1) := by decide +kernel
theorem dX0_nextSecond_108 : decode cX0_nextSecond 108 = .ok (.ladd, 1) := by decide +kernel
theorem dX0_nextSecond_109 : decode cX0_nextSecond 109 = .ok (.lreturn, 1) := by decide +kernel
theorem dX0_changeWithin_0 : decode cX0_changeWithin 0 = .ok (.lload_n 3, 1) := by decide +kernel
theorem dX0_changeWithin_1 : decode cX0_changeWithin 1 = .ok (.lstore 8, 2) := by decide +kernel
theorem dX0_changeWithin_3 : decode cX0_changeWithin 3 = .ok (.lload 5, 2) := by decide +kernel
theorem dX0_changeWithin_5 : decode cX0_changeWithin 5 = .ok (.lstore 10, 2) := by decide +kernel
theorem dX0_changeWithin_7 : decode cX0_changeWithin 7 = .ok (.iconst 0, 1) := by decide +kernel
theorem dX0_changeWithin_8 : decode cX0_changeWithin 8 = .ok (.istore 12, 2) := by decide +kernel
theorem dX0_changeWithin_10 : decode cX0_changeWithin 10 = .ok (.iload 12, 2) := by decide +kernel
theorem dX0_changeWithin_12 : decode cX0_changeWithin 12 = .ok (.sipush 20000, 3) := by decide +kernel
theorem dX0_changeWithin_15 : decode cX0_changeWithin 15 = .ok (.if_icmp .gt 62, 3) := by decide +kernel
theorem dX0_changeWithin_18 : decode cX0_changeWithin 18 = .ok (.lload 10, 2) := by decide +kernel
theorem dX0_changeWithin_20 : decode cX0_changeWithin 20 = .ok (.lload 8, 2) := by decide +kernel
theorem dX0_changeWithin_22 : decode cX0_changeWithin 22 = .ok (.lsub, 1) := by decide +kernel
theorem dX0_changeWithin_23 : decode cX0_changeWithin 23 = .ok (.lconst 1, 1) := by decide +kernel
theorem dX0_changeWithin_24 : decode cX0_changeWithin 24 = .ok (.lcmp, 1) := by decide +kernel
theorem dX0_changeWithin_25 : decode cX0_changeWithin 25 = .ok (.ifCond .le 52, 3) := by decide +kernel
theorem dX0_changeWithin_28 : decode cX0_changeWithin 28 = .ok (.lload 8, 2) := by decide +kernel
theorem dX0_changeWithin_30 : decode cX0_changeWithin 30 = .ok (.lload 10, 2) := by decide +kernel
theorem dX0_changeWithin_32 : decode cX0_changeWithin 32 = .ok (.ladd, 1) := by decide +kernel
theorem dX0_changeWithin_33 : decode cX0_changeWithin 33 = .ok (.ldc2_w 213, 3) := by decide +kernel
theorem dX0_changeWithin_36 : decode cX0_changeWithin 36 = .ok (.ldiv, 1) := by decide +kernel
theorem dX0_changeWithin_37 : decode cX0_changeWithin 37 = .ok (.lstore 13, 2) := by decide +kernel
theorem dX0_changeWithin_39 : decode cX0_changeWithin 39 = .ok (.aload_n 0, 1) := by decide +kernel
theorem dX0_changeWithin_40 : decode cX0_changeWithin 40 = .ok (.lload 13, 2) := by decide +kernel
theorem dX0_changeWithin_42 : decode cX0_changeWithin 42 = .ok (.invokevirtual 70, 3) := by decide +kernel
theorem dX0_changeWithin_45 : decode cX0_changeWithin 45 = .ok (.lload_n 1, 1) := by decide +kernel
theorem dX0_changeWithin_46 : decode cX0_changeWithin 46 = .ok (.lcmp, 1) := by decide +kernel
theorem dX0_changeWithin_47 : decode cX0_changeWithin 47 = .ok (.ifCond .lt 7, 3) := by decide +kernel
theorem dX0_changeWithin_50 : decode cX0_changeWithin 50 = .ok (.iconst 1, 1) := by decide +kernel
theorem dX0_changeWithin_51 : decode cX0_changeWithin 51 = .ok (.goto 4, 3) := by decide +kernel
theorem dX0_changeWithin_54 : decode cX0_changeWithin 54 = .ok (.iconst 0, 1) := by decide +kernel
theorem dX0_changeWithin_55 : decode cX0_changeWithin 55 = .ok (.iload 7, 2) := by decide +kernel
theorem dX0_changeWithin_57 : decode cX0_changeWithin 57 = .ok (.if_icmp .ne 10, 3) := by decide +kernel
theorem dX0_changeWithin_60 : decode cX0_changeWithin 60 = .ok (.lload 13, 2) := by decide +kernel
theorem dX0_changeWithin_62 : decode cX0_changeWithin 62 = .ok (.lstore 10, 2) := by decide +kernel
theorem dX0_changeWithin_64 : decode cX0_changeWithin 64 = .ok (.goto 7, 3) := by decide +kernel
theorem dX0_changeWithin_67 : decode cX0_changeWithin 67 = .ok (.lload 13, 2) := by decide +kernel
theorem dX0_changeWithin_69 : decode cX0_changeWithin 69 = .ok (.lstore 8, 2) := by decide +kernel
theorem dX0_changeWithin_71 : decode cX0_changeWithin 71 = .ok (.iinc 12 1, 3) := by decide +kernel
theorem dX0_changeWithin_74 : decode cX0_changeWithin 74 = .ok (.goto (-64), 3) := by decide +kernel
theorem dX0_changeWithin_77 : decode cX0_changeWithin 77 = .ok (.lload 10, 2) := by decide +kernel
theorem dX0_changeWithin_79 : decode cX0_changeWithin 79 = .ok (.lreturn, 1) := by decide +kernel
theorem dX0_longestSpan_0 : decode cX0_longestSpan 0 = .ok (.aload_n 0, 1) := by decide +kernel
theorem dX0_longestSpan_1 : decode cX0_longestSpan 1 = .ok (.invokevirtual 95, 3) := by decide +kernel
theorem dX0_longestSpan_4 : decode cX0_longestSpan 4 = .ok (.lstore 5, 2) := by decide +kernel
theorem dX0_longestSpan_6 : decode cX0_longestSpan 6 = .ok (.lload 5, 2) := by decide +kernel
theorem dX0_longestSpan_8 : decode cX0_longestSpan 8 = .ok (.lconst 1, 1) := by decide +kernel
theorem dX0_longestSpan_9 : decode cX0_longestSpan 9 = .ok (.ladd, 1) := by decide +kernel
theorem dX0_longestSpan_10 : decode cX0_longestSpan 10 = .ok (.lstore 7, 2) := by decide +kernel
theorem dX0_longestSpan_12 : decode cX0_longestSpan 12 = .ok (.lconst 0, 1) := by decide +kernel
theorem dX0_longestSpan_13 : decode cX0_longestSpan 13 = .ok (.lstore 9, 2) := by decide +kernel
theorem dX0_longestSpan_15 : decode cX0_longestSpan 15 = .ok (.aload_n 0, 1) := by decide +kernel
theorem dX0_longestSpan_16 : decode cX0_longestSpan 16 = .ok (.lload_n 1, 1) := by decide +kernel
theorem dX0_longestSpan_17 : decode cX0_longestSpan 17 = .ok (.lload_n 3, 1) := by decide +kernel
theorem dX0_longestSpan_18 : decode cX0_longestSpan 18 = .ok (.iconst 1, 1) := by decide +kernel
theorem dX0_longestSpan_19 : decode cX0_longestSpan 19 = .ok (.invokevirtual 91, 3) := by decide +kernel
theorem dX0_longestSpan_22 : decode cX0_longestSpan 22 = .ok (.lstore 11, 2) := by decide +kernel
theorem dX0_longestSpan_24 : decode cX0_longestSpan 24 = .ok (.iconst 0, 1) := by decide +kernel
theorem dX0_longestSpan_25 : decode cX0_longestSpan 25 = .ok (.istore 13, 2) := by decide +kernel
theorem dX0_longestSpan_27 : decode cX0_longestSpan 27 = .ok (.iload 13, 2) := by decide +kernel
theorem dX0_longestSpan_29 : decode cX0_longestSpan 29 = .ok (.sipush 20000, 3) := by decide +kernel
theorem dX0_longestSpan_32 : decode cX0_longestSpan 32 = .ok (.if_icmp .gt 59, 3) := by decide +kernel
theorem dX0_longestSpan_35 : decode cX0_longestSpan 35 = .ok (.lload 11, 2) := by decide +kernel
theorem dX0_longestSpan_37 : decode cX0_longestSpan 37 = .ok (.lload 5, 2) := by decide +kernel
theorem dX0_longestSpan_39 : decode cX0_longestSpan 39 = .ok (.lcmp, 1) := by decide +kernel
theorem dX0_longestSpan_40 : decode cX0_longestSpan 40 = .ok (.ifCond .gt 51, 3) := by decide +kernel
theorem dX0_longestSpan_43 : decode cX0_longestSpan 43 = .ok (.aload_n 0, 1) := by decide +kernel
theorem dX0_longestSpan_44 : decode cX0_longestSpan 44 = .ok (.lload_n 1, 1) := by decide +kernel
theorem dX0_longestSpan_45 : decode cX0_longestSpan 45 = .ok (.lload 11, 2) := by decide +kernel
theorem dX0_longestSpan_47 : decode cX0_longestSpan 47 = .ok (.iconst 0, 1) := by decide +kernel
theorem dX0_longestSpan_48 : decode cX0_longestSpan 48 = .ok (.invokevirtual 91, 3) := by decide +kernel
theorem dX0_longestSpan_51 : decode cX0_longestSpan 51 = .ok (.lstore 14, 2) := by decide +kernel
theorem dX0_longestSpan_53 : decode cX0_longestSpan 53 = .ok (.lload 14, 2) := by decide +kernel
theorem dX0_longestSpan_55 : decode cX0_longestSpan 55 = .ok (.lload 11, 2) := by decide +kernel
theorem dX0_longestSpan_57 : decode cX0_longestSpan 57 = .ok (.lsub, 1) := by decide +kernel
theorem dX0_longestSpan_58 : decode cX0_longestSpan 58 = .ok (.lload 9, 2) := by decide +kernel
theorem dX0_longestSpan_60 : decode cX0_longestSpan 60 = .ok (.lcmp, 1) := by decide +kernel
theorem dX0_longestSpan_61 : decode cX0_longestSpan 61 = .ok (.ifCond .le 14, 3) := by decide +kernel
theorem dX0_longestSpan_64 : decode cX0_longestSpan 64 = .ok (.lload 14, 2) := by decide +kernel
theorem dX0_longestSpan_66 : decode cX0_longestSpan 66 = .ok (.lload 11, 2) := by decide +kernel
theorem dX0_longestSpan_68 : decode cX0_longestSpan 68 = .ok (.lsub, 1) := by decide +kernel
theorem dX0_longestSpan_69 : decode cX0_longestSpan 69 = .ok (.lstore 9, 2) := by decide +kernel
theorem dX0_longestSpan_71 : decode cX0_longestSpan 71 = .ok (.lload 11, 2) := by decide +kernel
theorem dX0_longestSpan_73 : decode cX0_longestSpan 73 = .ok (.lstore 7, 2) := by decide +kernel
theorem dX0_longestSpan_75 : decode cX0_longestSpan 75 = .ok (.aload_n 0, 1) := by decide +kernel
theorem dX0_longestSpan_76 : decode cX0_longestSpan 76 = .ok (.lload_n 1, 1) := by decide +kernel
theorem dX0_longestSpan_77 : decode cX0_longestSpan 77 = .ok (.lload 14, 2) := by decide +kernel
theorem dX0_longestSpan_79 : decode cX0_longestSpan 79 = .ok (.iconst 1, 1) := by decide +kernel
theorem dX0_longestSpan_80 : decode cX0_longestSpan 80 = .ok (.invokevirtual 91, 3) := by decide +kernel
theorem dX0_longestSpan_83 : decode cX0_longestSpan 83 = .ok (.lstore 11, 2) := by decide +kernel
theorem dX0_longestSpan_85 : decode cX0_longestSpan 85 = .ok (.iinc 13 1, 3) := by decide +kernel
theorem dX0_longestSpan_88 : decode cX0_longestSpan 88 = .ok (.goto (-61), 3) := by decide +kernel
theorem dX0_longestSpan_91 : decode cX0_longestSpan 91 = .ok (.lload 7, 2) := by decide +kernel
theorem dX0_longestSpan_93 : decode cX0_longestSpan 93 = .ok (.lreturn, 1) := by decide +kernel
theorem dX0_firstSailing_0 : decode cX0_firstSailing 0 = .ok (.aload_n 0, 1) := by decide +kernel
theorem dX0_firstSailing_1 : decode cX0_firstSailing 1 = .ok (.invokevirtual 95, 3) := by decide +kernel
theorem dX0_firstSailing_4 : decode cX0_firstSailing 4 = .ok (.lstore 7, 2) := by decide +kernel
theorem dX0_firstSailing_6 : decode cX0_firstSailing 6 = .ok (.lload 5, 2) := by decide +kernel
theorem dX0_firstSailing_8 : decode cX0_firstSailing 8 = .ok (.lstore 9, 2) := by decide +kernel
theorem dX0_firstSailing_10 : decode cX0_firstSailing 10 = .ok (.iconst 0, 1) := by decide +kernel
theorem dX0_firstSailing_11 : decode cX0_firstSailing 11 = .ok (.istore 11, 2) := by decide +kernel
theorem dX0_firstSailing_13 : decode cX0_firstSailing 13 = .ok (.iload 11, 2) := by decide +kernel
theorem dX0_firstSailing_15 : decode cX0_firstSailing 15 = .ok (.sipush 20000, 3) := by decide +kernel
theorem dX0_firstSailing_18 : decode cX0_firstSailing 18 = .ok (.if_icmp .gt 96, 3) := by decide +kernel
theorem dX0_firstSailing_21 : decode cX0_firstSailing 21 = .ok (.lload 9, 2) := by decide +kernel
theorem dX0_firstSailing_23 : decode cX0_firstSailing 23 = .ok (.lstore 12, 2) := by decide +kernel
theorem dX0_firstSailing_25 : decode cX0_firstSailing 25 = .ok (.iconst 0, 1) := by decide +kernel
theorem dX0_firstSailing_26 : decode cX0_firstSailing 26 = .ok (.istore 14, 2) := by decide +kernel
theorem dX0_firstSailing_28 : decode cX0_firstSailing 28 = .ok (.iload 14, 2) := by decide +kernel
theorem dX0_firstSailing_30 : decode cX0_firstSailing 30 = .ok (.aload_n 0, 1) := by decide +kernel
theorem dX0_firstSailing_31 : decode cX0_firstSailing 31 = .ok (.getfield 35, 3) := by decide +kernel
theorem dX0_firstSailing_34 : decode cX0_firstSailing 34 = .ok (.if_icmp .ge 63, 3) := by decide +kernel
theorem dX0_firstSailing_37 : decode cX0_firstSailing 37 = .ok (.aload_n 0, 1) := by decide +kernel
theorem dX0_firstSailing_38 : decode cX0_firstSailing 38 = .ok (.getfield 29, 3) := by decide +kernel
theorem dX0_firstSailing_41 : decode cX0_firstSailing 41 = .ok (.iload 14, 2) := by decide +kernel
theorem dX0_firstSailing_43 : decode cX0_firstSailing 43 = .ok (.laload, 1) := by decide +kernel
theorem dX0_firstSailing_44 : decode cX0_firstSailing 44 = .ok (.lload_n 3, 1) := by decide +kernel
theorem dX0_firstSailing_45 : decode cX0_firstSailing 45 = .ok (.invokestatic 117, 3) := by decide +kernel
theorem dX0_firstSailing_48 : decode cX0_firstSailing 48 = .ok (.lstore 15, 2) := by decide +kernel
theorem dX0_firstSailing_50 : decode cX0_firstSailing 50 = .ok (.aload_n 0, 1) := by decide +kernel
theorem dX0_firstSailing_51 : decode cX0_firstSailing 51 = .ok (.lload_n 1, 1) := by decide +kernel
theorem dX0_firstSailing_52 : decode cX0_firstSailing 52 = .ok (.aload_n 0, 1) := by decide +kernel
theorem dX0_firstSailing_53 : decode cX0_firstSailing 53 = .ok (.getfield 32, 3) := by decide +kernel
theorem dX0_firstSailing_56 : decode cX0_firstSailing 56 = .ok (.iload 14, 2) := by decide +kernel
theorem dX0_firstSailing_58 : decode cX0_firstSailing 58 = .ok (.laload, 1) := by decide +kernel
theorem dX0_firstSailing_59 : decode cX0_firstSailing 59 = .ok (.lsub, 1) := by decide +kernel
theorem dX0_firstSailing_60 : decode cX0_firstSailing 60 = .ok (.lload 9, 2) := by decide +kernel
theorem dX0_firstSailing_62 : decode cX0_firstSailing 62 = .ok (.lload 15, 2) := by decide +kernel
theorem dX0_firstSailing_64 : decode cX0_firstSailing 64 = .ok (.ladd, 1) := by decide +kernel
theorem dX0_firstSailing_65 : decode cX0_firstSailing 65 = .ok (.iconst 1, 1) := by decide +kernel
theorem dX0_firstSailing_66 : decode cX0_firstSailing 66 = .ok (.invokevirtual 91, 3) := by decide +kernel
theorem dX0_firstSailing_69 : decode cX0_firstSailing 69 = .ok (.lstore 17, 2) := by decide +kernel
theorem dX0_firstSailing_71 : decode cX0_firstSailing 71 = .ok (.lload 17, 2) := by decide +kernel
theorem dX0_firstSailing_73 : decode cX0_firstSailing 73 = .ok (.lload 7, 2) := by decide +kernel
theorem dX0_firstSailing_75 : decode cX0_firstSailing 75 = .ok (.lcmp, 1) := by decide +kernel
theorem dX0_firstSailing_76 : decode cX0_firstSailing 76 = .ok (.ifCond .le 8, 3) := by decide +kernel
theorem dX0_firstSailing_79 : decode cX0_firstSailing 79 = .ok (.lload 7, 2) := by decide +kernel
theorem dX0_firstSailing_81 : decode cX0_firstSailing 81 = .ok (.lconst 1, 1) := by decide +kernel
theorem dX0_firstSailing_82 : decode cX0_firstSailing 82 = .ok (.ladd, 1) := by decide +kernel
theorem dX0_firstSailing_83 : decode cX0_firstSailing 83 = .ok (.lreturn, 1) := by decide +kernel
theorem dX0_firstSailing_84 : decode cX0_firstSailing 84 = .ok (.lload 17, 2) := by decide +kernel
theorem dX0_firstSailing_86 : decode cX0_firstSailing 86 = .ok (.lload 15, 2) := by decide +kernel
theorem dX0_firstSailing_88 : decode cX0_firstSailing 88 = .ok (.lsub, 1) := by decide +kernel
theorem dX0_firstSailing_89 : decode cX0_firstSailing 89 = .ok (.lstore 9, 2) := by decide +kernel
theorem dX0_firstSailing_91 : decode cX0_firstSailing 91 = .ok (.iinc 14 1, 3) := by decide +kernel
theorem dX0_firstSailing_94 : decode cX0_firstSailing 94 = .ok (.goto (-66), 3) := by decide +kernel
theorem dX0_firstSailing_97 : decode cX0_firstSailing 97 = .ok (.lload 9, 2) := by decide +kernel
theorem dX0_firstSailing_99 : decode cX0_firstSailing 99 = .ok (.lload 12, 2) := by decide +kernel
theorem dX0_firstSailing_101 : decode cX0_firstSailing 101 = .ok (.lcmp, 1) := by decide +kernel
theorem dX0_firstSailing_102 : decode cX0_firstSailing 102 = .ok (.ifCond .ne 6, 3) := by decide +kernel
theorem dX0_firstSailing_105 : decode cX0_firstSailing 105 = .ok (.lload 9, 2) := by decide +kernel
theorem dX0_firstSailing_107 : decode cX0_firstSailing 107 = .ok (.lreturn, 1) := by decide +kernel
theorem dX0_firstSailing_108 : decode cX0_firstSailing 108 = .ok (.iinc 11 1, 3) := by decide +kernel
theorem dX0_firstSailing_111 : decode cX0_firstSailing 111 = .ok (.goto (-98), 3) := by decide +kernel
theorem dX0_firstSailing_114 : decode cX0_firstSailing 114 = .ok (.lload 7, 2) := by decide +kernel
theorem dX0_firstSailing_116 : decode cX0_firstSailing 116 = .ok (.lconst 1, 1) := by decide +kernel
theorem dX0_firstSailing_117 : decode cX0_firstSailing 117 = .ok (.ladd, 1) := by decide +kernel
theorem dX0_firstSailing_118 : decode cX0_firstSailing 118 = .ok (.lreturn, 1) := by decide +kernel
theorem dX0_lastSailing_0 : decode cX0_lastSailing 0 = .ok (.aload_n 0, 1) := by decide +kernel
theorem dX0_lastSailing_1 : decode cX0_lastSailing 1 = .ok (.invokevirtual 95, 3) := by decide +kernel
theorem dX0_lastSailing_4 : decode cX0_lastSailing 4 = .ok (.lstore 7, 2) := by decide +kernel
theorem dX0_lastSailing_6 : decode cX0_lastSailing 6 = .ok (.iconst 0, 1) := by decide +kernel
theorem dX0_lastSailing_7 : decode cX0_lastSailing 7 = .ok (.istore 9, 2) := by decide +kernel
theorem dX0_lastSailing_9 : decode cX0_lastSailing 9 = .ok (.iload 9, 2) := by decide +kernel
theorem dX0_lastSailing_11 : decode cX0_lastSailing 11 = .ok (.aload_n 0, 1) := by decide +kernel
theorem dX0_lastSailing_12 : decode cX0_lastSailing 12 = .ok (.getfield 35, 3) := by decide +kernel
theorem dX0_lastSailing_15 : decode cX0_lastSailing 15 = .ok (.if_icmp .ge 57, 3) := by decide +kernel
theorem dX0_lastSailing_18 : decode cX0_lastSailing 18 = .ok (.aload_n 0, 1) := by decide +kernel
theorem dX0_lastSailing_19 : decode cX0_lastSailing 19 = .ok (.getfield 29, 3) := by decide +kernel
theorem dX0_lastSailing_22 : decode cX0_lastSailing 22 = .ok (.iload 9, 2) := by decide +kernel
theorem dX0_lastSailing_24 : decode cX0_lastSailing 24 = .ok (.laload, 1) := by decide +kernel
theorem dX0_lastSailing_25 : decode cX0_lastSailing 25 = .ok (.lload_n 3, 1) := by decide +kernel
theorem dX0_lastSailing_26 : decode cX0_lastSailing 26 = .ok (.invokestatic 117, 3) := by decide +kernel
theorem dX0_lastSailing_29 : decode cX0_lastSailing 29 = .ok (.lstore 10, 2) := by decide +kernel
theorem dX0_lastSailing_31 : decode cX0_lastSailing 31 = .ok (.aload_n 0, 1) := by decide +kernel
theorem dX0_lastSailing_32 : decode cX0_lastSailing 32 = .ok (.lload_n 1, 1) := by decide +kernel
theorem dX0_lastSailing_33 : decode cX0_lastSailing 33 = .ok (.aload_n 0, 1) := by decide +kernel
theorem dX0_lastSailing_34 : decode cX0_lastSailing 34 = .ok (.getfield 32, 3) := by decide +kernel
theorem dX0_lastSailing_37 : decode cX0_lastSailing 37 = .ok (.iload 9, 2) := by decide +kernel
theorem dX0_lastSailing_39 : decode cX0_lastSailing 39 = .ok (.laload, 1) := by decide +kernel
theorem dX0_lastSailing_40 : decode cX0_lastSailing 40 = .ok (.lsub, 1) := by decide +kernel
theorem dX0_lastSailing_41 : decode cX0_lastSailing 41 = .ok (.lload 5, 2) := by decide +kernel
theorem dX0_lastSailing_43 : decode cX0_lastSailing 43 = .ok (.lload 10, 2) := by decide +kernel
theorem dX0_lastSailing_45 : decode cX0_lastSailing 45 = .ok (.ladd, 1) := by decide +kernel
theorem dX0_lastSailing_46 : decode cX0_lastSailing 46 = .ok (.iconst 0, 1) := by decide +kernel
theorem dX0_lastSailing_47 : decode cX0_lastSailing 47 = .ok (.invokevirtual 91, 3) := by decide +kernel
theorem dX0_lastSailing_50 : decode cX0_lastSailing 50 = .ok (.lstore 12, 2) := by decide +kernel
theorem dX0_lastSailing_52 : decode cX0_lastSailing 52 = .ok (.lload 7, 2) := by decide +kernel
theorem dX0_lastSailing_54 : decode cX0_lastSailing 54 = .ok (.lload 12, 2) := by decide +kernel
theorem dX0_lastSailing_56 : decode cX0_lastSailing 56 = .ok (.lconst 1, 1) := by decide +kernel
theorem dX0_lastSailing_57 : decode cX0_lastSailing 57 = .ok (.lsub, 1) := by decide +kernel
theorem dX0_lastSailing_58 : decode cX0_lastSailing 58 = .ok (.lload 10, 2) := by decide +kernel
theorem dX0_lastSailing_60 : decode cX0_lastSailing 60 = .ok (.lsub, 1) := by decide +kernel
theorem dX0_lastSailing_61 : decode cX0_lastSailing 61 = .ok (.invokestatic 218, 3) := by decide +kernel
theorem dX0_lastSailing_64 : decode cX0_lastSailing 64 = .ok (.lstore 7, 2) := by decide +kernel
theorem dX0_lastSailing_66 : decode cX0_lastSailing 66 = .ok (.iinc 9 1, 3) := by decide +kernel
theorem dX0_lastSailing_69 : decode cX0_lastSailing 69 = .ok (.goto (-60), 3) := by decide +kernel
theorem dX0_lastSailing_72 : decode cX0_lastSailing 72 = .ok (.lload 7, 2) := by decide +kernel
theorem dX0_lastSailing_74 : decode cX0_lastSailing 74 = .ok (.lreturn, 1) := by decide +kernel
theorem dJ9_floorDiv_f86c9_0 : decode cJ9_floorDiv_f86c9 0 = .ok (.lload_n 0, 1) := by decide +kernel
theorem dJ9_floorDiv_f86c9_1 : decode cJ9_floorDiv_f86c9 1 = .ok (.lload_n 2, 1) := by decide +kernel
theorem dJ9_floorDiv_f86c9_2 : decode cJ9_floorDiv_f86c9 2 = .ok (.ldiv, 1) := by decide +kernel
theorem dJ9_floorDiv_f86c9_3 : decode cJ9_floorDiv_f86c9 3 = .ok (.lstore 4, 2) := by decide +kernel
theorem dJ9_floorDiv_f86c9_5 : decode cJ9_floorDiv_f86c9 5 = .ok (.lload_n 0, 1) := by decide +kernel
theorem dJ9_floorDiv_f86c9_6 : decode cJ9_floorDiv_f86c9 6 = .ok (.lload_n 2, 1) := by decide +kernel
theorem dJ9_floorDiv_f86c9_7 : decode cJ9_floorDiv_f86c9 7 = .ok (.lxor, 1) := by decide +kernel
theorem dJ9_floorDiv_f86c9_8 : decode cJ9_floorDiv_f86c9 8 = .ok (.lconst 0, 1) := by decide +kernel
theorem dJ9_floorDiv_f86c9_9 : decode cJ9_floorDiv_f86c9 9 = .ok (.lcmp, 1) := by decide +kernel
theorem dJ9_floorDiv_f86c9_10 : decode cJ9_floorDiv_f86c9 10 = .ok (.ifCond .ge 17, 3) := by decide +kernel
theorem dJ9_floorDiv_f86c9_13 : decode cJ9_floorDiv_f86c9 13 = .ok (.lload 4, 2) := by decide +kernel
theorem dJ9_floorDiv_f86c9_15 : decode cJ9_floorDiv_f86c9 15 = .ok (.lload_n 2, 1) := by decide +kernel
theorem dJ9_floorDiv_f86c9_16 : decode cJ9_floorDiv_f86c9 16 = .ok (.lmul, 1) := by decide +kernel
theorem dJ9_floorDiv_f86c9_17 : decode cJ9_floorDiv_f86c9 17 = .ok (.lload_n 0, 1) := by decide +kernel
theorem dJ9_floorDiv_f86c9_18 : decode cJ9_floorDiv_f86c9 18 = .ok (.lcmp, 1) := by decide +kernel
theorem dJ9_floorDiv_f86c9_19 : decode cJ9_floorDiv_f86c9 19 = .ok (.ifCond .eq 8, 3) := by decide +kernel
theorem dJ9_floorDiv_f86c9_22 : decode cJ9_floorDiv_f86c9 22 = .ok (.lload 4, 2) := by decide +kernel
theorem dJ9_floorDiv_f86c9_24 : decode cJ9_floorDiv_f86c9 24 = .ok (.lconst 1, 1) := by decide +kernel
theorem dJ9_floorDiv_f86c9_25 : decode cJ9_floorDiv_f86c9 25 = .ok (.lsub, 1) := by decide +kernel
theorem dJ9_floorDiv_f86c9_26 : decode cJ9_floorDiv_f86c9 26 = .ok (.lreturn, 1) := by decide +kernel
theorem dJ9_floorDiv_f86c9_27 : decode cJ9_floorDiv_f86c9 27 = .ok (.lload 4, 2) := by decide +kernel
theorem dJ9_floorDiv_f86c9_29 : decode cJ9_floorDiv_f86c9 29 = .ok (.lreturn, 1) := by decide +kernel
theorem dJ9_min_f86c9_0 : decode cJ9_min_f86c9 0 = .ok (.lload_n 0, 1) := by decide +kernel
theorem dJ9_min_f86c9_1 : decode cJ9_min_f86c9 1 = .ok (.lload_n 2, 1) := by decide +kernel
theorem dJ9_min_f86c9_2 : decode cJ9_min_f86c9 2 = .ok (.lcmp, 1) := by decide +kernel
theorem dJ9_min_f86c9_3 : decode cJ9_min_f86c9 3 = .ok (.ifCond .gt 7, 3) := by decide +kernel
theorem dJ9_min_f86c9_6 : decode cJ9_min_f86c9 6 = .ok (.lload_n 0, 1) := by decide +kernel
theorem dJ9_min_f86c9_7 : decode cJ9_min_f86c9 7 = .ok (.goto 4, 3) := by decide +kernel
theorem dJ9_min_f86c9_10 : decode cJ9_min_f86c9 10 = .ok (.lload_n 2, 1) := by decide +kernel
theorem dJ9_min_f86c9_11 : decode cJ9_min_f86c9 11 = .ok (.lreturn, 1) := by decide +kernel
