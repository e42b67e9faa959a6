theorem dX12_hat_124 : decode cX12_hat 124 = .ok (.invokestatic 92, 3) := by decide +kernel
theorem dX12_hat_127 : decode cX12_hat 127 = .ok (.l2i, 1) := by decide +kernel
theorem dX12_hat_128 : decode cX12_hat 128 = .ok (.ireturn, 1) := by decide +kernel
theorem dX12_smallestHat_0 : decode cX12_smallestHat 0 = .ok (.aload_n 0, 1) := by decide +kernel
theorem dX12_smallestHat_1 : decode cX12_smallestHat 1 = .ok (.iconst 0, 1) := by decide +kernel
theorem dX12_smallestHat_2 : decode cX12_smallestHat 2 = .ok (.putfield 74, 3) := by decide +kernel
theorem dX12_smallestHat_5 : decode cX12_smallestHat 5 = .ok (.aload_n 0, 1) := by decide +kernel
theorem dX12_smallestHat_6 : decode cX12_smallestHat 6 = .ok (.iload_n 1, 1) := by decide +kernel
theorem dX12_smallestHat_7 : decode cX12_smallestHat 7 = .ok (.invokevirtual 262, 3) := by decide +kernel
theorem dX12_smallestHat_10 : decode cX12_smallestHat 10 = .ok (.ifCond .ne 9, 3) := by decide +kernel
theorem dX12_smallestHat_13 : decode cX12_smallestHat 13 = .ok (.aload_n 0, 1) := by decide +kernel
theorem dX12_smallestHat_14 : decode cX12_smallestHat 14 = .ok (.iconst 1, 1) := by decide +kernel
theorem dX12_smallestHat_15 : decode cX12_smallestHat 15 = .ok (.invokevirtual 247, 3) := by decide +kernel
theorem dX12_smallestHat_18 : decode cX12_smallestHat 18 = .ok (.ireturn, 1) := by decide +kernel
theorem dX12_smallestHat_19 : decode cX12_smallestHat 19 = .ok (.aload_n 0, 1) := by decide +kernel
theorem dX12_smallestHat_20 : decode cX12_smallestHat 20 = .ok (.iload_n 1, 1) := by decide +kernel
theorem dX12_smallestHat_21 : decode cX12_smallestHat 21 = .ok (.i2l, 1) := by decide +kernel
theorem dX12_smallestHat_22 : decode cX12_smallestHat 22 = .ok (.invokevirtual 228, 3) := by decide +kernel
theorem dX12_smallestHat_25 : decode cX12_smallestHat 25 = .ok (.iconst (-1), 1) := by decide +kernel
theorem dX12_smallestHat_26 : decode cX12_smallestHat 26 = .ok (.istore_n 2, 1) := by decide +kernel
theorem dX12_smallestHat_27 : decode cX12_smallestHat 27 = .ok (.lconst 0, 1) := by decide +kernel
theorem dX12_smallestHat_28 : decode cX12_smallestHat 28 = .ok (.lstore_n 3, 1) := by decide +kernel
theorem dX12_smallestHat_29 : decode cX12_smallestHat 29 = .ok (.iconst 0, 1) := by decide +kernel
theorem dX12_smallestHat_30 : decode cX12_smallestHat 30 = .ok (.istore 5, 2) := by decide +kernel
theorem dX12_smallestHat_32 : decode cX12_smallestHat 32 = .ok (.iload 5, 2) := by decide +kernel
theorem dX12_smallestHat_34 : decode cX12_smallestHat 34 = .ok (.i2l, 1) := by decide +kernel
theorem dX12_smallestHat_35 : decode cX12_smallestHat 35 = .ok (.aload_n 0, 1) := by decide +kernel
theorem dX12_smallestHat_36 : decode cX12_smallestHat 36 = .ok (.getfield 9, 3) := by decide +kernel
theorem dX12_smallestHat_39 : decode cX12_smallestHat 39 = .ok (.iconst 2, 1) := by decide +kernel
theorem dX12_smallestHat_40 : decode cX12_smallestHat 40 = .ok (.laload, 1) := by decide +kernel
theorem dX12_smallestHat_41 : decode cX12_smallestHat 41 = .ok (.lcmp, 1) := by decide +kernel
theorem dX12_smallestHat_42 : decode cX12_smallestHat 42 = .ok (.ifCond .ge 107, 3) := by decide +kernel
theorem dX12_smallestHat_45 : decode cX12_smallestHat 45 = .ok (.iload 5, 2) := by decide +kernel
theorem dX12_smallestHat_47 : decode cX12_smallestHat 47 = .ok (.iconst 1, 1) := by decide +kernel
theorem dX12_smallestHat_48 : decode cX12_smallestHat 48 = .ok (.iadd, 1) := by decide +kernel
theorem dX12_smallestHat_49 : decode cX12_smallestHat 49 = .ok (.istore 6, 2) := by decide +kernel
theorem dX12_smallestHat_51 : decode cX12_smallestHat 51 = .ok (.iload 6, 2) := by decide +kernel
theorem dX12_smallestHat_53 : decode cX12_smallestHat 53 = .ok (.i2l, 1) := by decide +kernel
theorem dX12_smallestHat_54 : decode cX12_smallestHat 54 = .ok (.aload_n 0, 1) := by decide +kernel
theorem dX12_smallestHat_55 : decode cX12_smallestHat 55 = .ok (.getfield 9, 3) := by decide +kernel
theorem dX12_smallestHat_58 : decode cX12_smallestHat 58 = .ok (.iconst 2, 1) := by decide +kernel
theorem dX12_smallestHat_59 : decode cX12_smallestHat 59 = .ok (.laload, 1) := by decide +kernel
theorem dX12_smallestHat_60 : decode cX12_smallestHat 60 = .ok (.lcmp, 1) := by decide +kernel
theorem dX12_smallestHat_61 : decode cX12_smallestHat 61 = .ok (.ifCond .ge 82, 3) := by decide +kernel
theorem dX12_smallestHat_64 : decode cX12_smallestHat 64 = .ok (.iload 6, 2) := by decide +kernel
theorem dX12_smallestHat_66 : decode cX12_smallestHat 66 = .ok (.iconst 1, 1) := by decide +kernel
theorem dX12_smallestHat_67 : decode cX12_smallestHat 67 = .ok (.iadd, 1) := by decide +kernel
theorem dX12_smallestHat_68 : decode cX12_smallestHat 68 = .ok (.istore 7, 2) := by decide +kernel
theorem dX12_smallestHat_70 : decode cX12_smallestHat 70 = .ok (.iload 7, 2) := by decide +kernel
theorem dX12_smallestHat_72 : decode cX12_smallestHat 72 = .ok (.i2l, 1) := by decide +kernel
theorem dX12_smallestHat_73 : decode cX12_smallestHat 73 = .ok (.aload_n 0, 1) := by decide +kernel
theorem dX12_smallestHat_74 : decode cX12_smallestHat 74 = .ok (.getfield 9, 3) := by decide +kernel
theorem dX12_smallestHat_77 : decode cX12_smallestHat 77 = .ok (.iconst 2, 1) := by decide +kernel
theorem dX12_smallestHat_78 : decode cX12_smallestHat 78 = .ok (.laload, 1) := by decide +kernel
theorem dX12_smallestHat_79 : decode cX12_smallestHat 79 = .ok (.lcmp, 1) := by decide +kernel
theorem dX12_smallestHat_80 : decode cX12_smallestHat 80 = .ok (.ifCond .ge 57, 3) := by decide +kernel
theorem dX12_smallestHat_83 : decode cX12_smallestHat 83 = .ok (.aload_n 0, 1) := by decide +kernel
theorem dX12_smallestHat_84 : decode cX12_smallestHat 84 = .ok (.iload 5, 2) := by decide +kernel
theorem dX12_smallestHat_86 : decode cX12_smallestHat 86 = .ok (.iload 6, 2) := by decide +kernel
theorem dX12_smallestHat_88 : decode cX12_smallestHat 88 = .ok (.iload 7, 2) := by decide +kernel
theorem dX12_smallestHat_90 : decode cX12_smallestHat 90 = .ok (.invokevirtual 269, 3) := by decide +kernel
theorem dX12_smallestHat_93 : decode cX12_smallestHat 93 = .ok (.ifCond .eq 38, 3) := by decide +kernel
theorem dX12_smallestHat_96 : decode cX12_smallestHat 96 = .ok (.iload_n 2, 1) := by decide +kernel
theorem dX12_smallestHat_97 : decode cX12_smallestHat 97 = .ok (.iconst (-1), 1) := by decide +kernel
theorem dX12_smallestHat_98 : decode cX12_smallestHat 98 = .ok (.if_icmp .eq 12, 3) := by decide +kernel
theorem dX12_smallestHat_101 : decode cX12_smallestHat 101 = .ok (.aload_n 0, 1) := by decide +kernel
theorem dX12_smallestHat_102 : decode cX12_smallestHat 102 = .ok (.invokevirtual 282, 3) := by decide +kernel
theorem dX12_smallestHat_105 : decode cX12_smallestHat 105 = .ok (.lload_n 3, 1) := by decide +kernel
theorem dX12_smallestHat_106 : decode cX12_smallestHat 106 = .ok (.lcmp, 1) := by decide +kernel
theorem dX12_smallestHat_107 : decode cX12_smallestHat 107 = .ok (.ifCond .ge 24, 3) := by decide +kernel
theorem dX12_smallestHat_110 : decode cX12_smallestHat 110 = .ok (.sipush 10000, 3) := by decide +kernel
theorem dX12_smallestHat_113 : decode cX12_smallestHat 113 = .ok (.iload 5, 2) := by decide +kernel
theorem dX12_smallestHat_115 : decode cX12_smallestHat 115 = .ok (.imul, 1) := by decide +kernel
theorem dX12_smallestHat_116 : decode cX12_smallestHat 116 = .ok (.bipush 100, 2) := by decide +kernel
theorem dX12_smallestHat_118 : decode cX12_smallestHat 118 = .ok (.iload 6, 2) := by decide +kernel
theorem dX12_smallestHat_120 : decode cX12_smallestHat 120 = .ok (.imul, 1) := by decide +kernel
theorem dX12_smallestHat_121 : decode cX12_smallestHat 121 = .ok (.iadd, 1) := by decide +kernel
theorem dX12_smallestHat_122 : decode cX12_smallestHat 122 = .ok (.iload 7, 2) := by decide +kernel
theorem dX12_smallestHat_124 : decode cX12_smallestHat 124 = .ok (.iadd, 1) := by decide +kernel
theorem dX12_smallestHat_125 : decode cX12_smallestHat 125 = .ok (.istore_n 2, 1) := by decide +kernel
theorem dX12_smallestHat_126 : decode cX12_smallestHat 126 = .ok (.aload_n 0, 1) := by decide +kernel
theorem dX12_smallestHat_127 : decode cX12_smallestHat 127 = .ok (.invokevirtual 282, 3) := by decide +kernel
theorem dX12_smallestHat_130 : decode cX12_smallestHat 130 = .ok (.lstore_n 3, 1) := by decide +kernel
theorem dX12_smallestHat_131 : decode cX12_smallestHat 131 = .ok (.iinc 7 1, 3) := by decide +kernel
theorem dX12_smallestHat_134 : decode cX12_smallestHat 134 = .ok (.goto (-64), 3) := by decide +kernel
theorem dX12_smallestHat_137 : decode cX12_smallestHat 137 = .ok (.iinc 6 1, 3) := by decide +kernel
theorem dX12_smallestHat_140 : decode cX12_smallestHat 140 = .ok (.goto (-89), 3) := by decide +kernel
theorem dX12_smallestHat_143 : decode cX12_smallestHat 143 = .ok (.iinc 5 1, 3) := by decide +kernel
theorem dX12_smallestHat_146 : decode cX12_smallestHat 146 = .ok (.goto (-114), 3) := by decide +kernel
theorem dX12_smallestHat_149 : decode cX12_smallestHat 149 = .ok (.iload_n 2, 1) := by decide +kernel
theorem dX12_smallestHat_150 : decode cX12_smallestHat 150 = .ok (.ireturn, 1) := by decide +kernel
theorem dX12_isInside_0 : decode cX12_isInside 0 = .ok (.iload 5, 2) := by decide +kernel
theorem dX12_isInside_2 : decode cX12_isInside 2 = .ok (.i2l, 1) := by decide +kernel
theorem dX12_isInside_3 : decode cX12_isInside 3 = .ok (.ldc2_w 241, 3) := by decide +kernel
theorem dX12_isInside_6 : decode cX12_isInside 6 = .ok (.ldc2_w 113, 3) := by decide +kernel
theorem dX12_isInside_9 : decode cX12_isInside 9 = .ok (.invokestatic 243, 3) := by decide +kernel
theorem dX12_isInside_12 : decode cX12_isInside 12 = .ok (.ifCond .eq 22, 3) := by decide +kernel
theorem dX12_isInside_15 : decode cX12_isInside 15 = .ok (.iload 6, 2) := by decide +kernel
theorem dX12_isInside_17 : decode cX12_isInside 17 = .ok (.i2l, 1) := by decide +kernel
theorem dX12_isInside_18 : decode cX12_isInside 18 = .ok (.ldc2_w 241, 3) := by decide +kernel
theorem dX12_isInside_21 : decode cX12_isInside 21 = .ok (.ldc2_w 113, 3) := by decide +kernel
theorem dX12_isInside_24 : decode cX12_isInside 24 = .ok (.invokestatic 243, 3) := by decide +kernel
theorem dX12_isInside_27 : decode cX12_isInside 27 = .ok (.ifCond .eq 7, 3) := by decide +kernel
theorem dX12_isInside_30 : decode cX12_isInside 30 = .ok (.iconst 1, 1) := by decide +kernel
theorem dX12_isInside_31 : decode cX12_isInside 31 = .ok (.goto 4, 3) := by decide +kernel
theorem dX12_isInside_34 : decode cX12_isInside 34 = .ok (.iconst 0, 1) := by decide +kernel
theorem dX12_isInside_35 : decode cX12_isInside 35 = .ok (.istore 7, 2) := by decide +kernel
theorem dX12_isInside_37 : decode cX12_isInside 37 = .ok (.aload_n 0, 1) := by decide +kernel
theorem dX12_isInside_38 : decode cX12_isInside 38 = .ok (.aload_n 0, 1) := by decide +kernel
theorem dX12_isInside_39 : decode cX12_isInside 39 = .ok (.iload_n 1, 1) := by decide +kernel
theorem dX12_isInside_40 : decode cX12_isInside 40 = .ok (.iload_n 2, 1) := by decide +kernel
theorem dX12_isInside_41 : decode cX12_isInside 41 = .ok (.iload_n 3, 1) := by decide +kernel
theorem dX12_isInside_42 : decode cX12_isInside 42 = .ok (.invokevirtual 273, 3) := by decide +kernel
theorem dX12_isInside_45 : decode cX12_isInside 45 = .ok (.ifCond .ne 7, 3) := by decide +kernel
theorem dX12_isInside_48 : decode cX12_isInside 48 = .ok (.iconst 1, 1) := by decide +kernel
theorem dX12_isInside_49 : decode cX12_isInside 49 = .ok (.goto 22, 3) := by decide +kernel
theorem dX12_isInside_52 : decode cX12_isInside 52 = .ok (.aload_n 0, 1) := by decide +kernel
theorem dX12_isInside_53 : decode cX12_isInside 53 = .ok (.iload 4, 2) := by decide +kernel
theorem dX12_isInside_55 : decode cX12_isInside 55 = .ok (.invokevirtual 262, 3) := by decide +kernel
theorem dX12_isInside_58 : decode cX12_isInside 58 = .ok (.ifCond .eq 12, 3) := by decide +kernel
theorem dX12_isInside_61 : decode cX12_isInside 61 = .ok (.iload 7, 2) := by decide +kernel
theorem dX12_isInside_63 : decode cX12_isInside 63 = .ok (.ifCond .eq 7, 3) := by decide +kernel
theorem dX12_isInside_66 : decode cX12_isInside 66 = .ok (.iconst 0, 1) := by decide +kernel
theorem dX12_isInside_67 : decode cX12_isInside 67 = .ok (.goto 4, 3) := by decide +kernel
theorem dX12_isInside_70 : decode cX12_isInside 70 = .ok (.iconst 2, 1) := by decide +kernel
theorem dX12_isInside_71 : decode cX12_isInside 71 = .ok (.putfield 74, 3) := by decide +kernel
theorem dX12_isInside_74 : decode cX12_isInside 74 = .ok (.aload_n 0, 1) := by decide +kernel
theorem dX12_isInside_75 : decode cX12_isInside 75 = .ok (.getfield 74, 3) := by decide +kernel
theorem dX12_isInside_78 : decode cX12_isInside 78 = .ok (.ifCond .ne 15, 3) := by decide +kernel
theorem dX12_isInside_81 : decode cX12_isInside 81 = .ok (.aload_n 0, 1) := by decide +kernel
theorem dX12_isInside_82 : decode cX12_isInside 82 = .ok (.iload_n 1, 1) := by decide +kernel
theorem dX12_isInside_83 : decode cX12_isInside 83 = .ok (.iload_n 2, 1) := by decide +kernel
theorem dX12_isInside_84 : decode cX12_isInside 84 = .ok (.iload_n 3, 1) := by decide +kernel
theorem dX12_isInside_85 : decode cX12_isInside 85 = .ok (.iload 4, 2) := by decide +kernel
theorem dX12_isInside_87 : decode cX12_isInside 87 = .ok (.invokevirtual 276, 3) := by decide +kernel
theorem dX12_isInside_90 : decode cX12_isInside 90 = .ok (.ifCond .ne 5, 3) := by decide +kernel
theorem dX12_isInside_93 : decode cX12_isInside 93 = .ok (.iconst 0, 1) := by decide +kernel
theorem dX12_isInside_94 : decode cX12_isInside 94 = .ok (.ireturn, 1) := by decide +kernel
theorem dX12_isInside_95 : decode cX12_isInside 95 = .ok (.aload_n 0, 1) := by decide +kernel
theorem dX12_isInside_96 : decode cX12_isInside 96 = .ok (.iconst 0, 1) := by decide +kernel
theorem dX12_isInside_97 : decode cX12_isInside 97 = .ok (.iconst 1, 1) := by decide +kernel
theorem dX12_isInside_98 : decode cX12_isInside 98 = .ok (.iconst 2, 1) := by decide +kernel
theorem dX12_isInside_99 : decode cX12_isInside 99 = .ok (.iload 5, 2) := by decide +kernel
theorem dX12_isInside_101 : decode cX12_isInside 101 = .ok (.i2l, 1) := by decide +kernel
theorem dX12_isInside_102 : decode cX12_isInside 102 = .ok (.iload 6, 2) := by decide +kernel
theorem dX12_isInside_104 : decode cX12_isInside 104 = .ok (.i2l, 1) := by decide +kernel
theorem dX12_isInside_105 : decode cX12_isInside 105 = .ok (.invokevirtual 285, 3) := by decide +kernel
theorem dX12_isInside_108 : decode cX12_isInside 108 = .ok (.ifCond .eq 39, 3) := by decide +kernel
theorem dX12_isInside_111 : decode cX12_isInside 111 = .ok (.aload_n 0, 1) := by decide +kernel
theorem dX12_isInside_112 : decode cX12_isInside 112 = .ok (.iconst 0, 1) := by decide +kernel
theorem dX12_isInside_113 : decode cX12_isInside 113 = .ok (.iconst 2, 1) := by decide +kernel
theorem dX12_isInside_114 : decode cX12_isInside 114 = .ok (.iconst 1, 1) := by decide +kernel
theorem dX12_isInside_115 : decode cX12_isInside 115 = .ok (.iload 5, 2) := by decide +kernel
theorem dX12_isInside_117 : decode cX12_isInside 117 = .ok (.i2l, 1) := by decide +kernel
theorem dX12_isInside_118 : decode cX12_isInside 118 = .ok (.iload 6, 2) := by decide +kernel
theorem dX12_isInside_120 : decode cX12_isInside 120 = .ok (.i2l, 1) := by decide +kernel
theorem dX12_isInside_121 : decode cX12_isInside 121 = .ok (.invokevirtual 285, 3) := by decide +kernel
theorem dX12_isInside_124 : decode cX12_isInside 124 = .ok (.ifCond .eq 23, 3) := by decide +kernel
theorem dX12_isInside_127 : decode cX12_isInside 127 = .ok (.aload_n 0, 1) := by decide +kernel
theorem dX12_isInside_128 : decode cX12_isInside 128 = .ok (.iconst 1, 1) := by decide +kernel
theorem dX12_isInside_129 : decode cX12_isInside 129 = .ok (.iconst 2, 1) := by decide +kernel
theorem dX12_isInside_130 : decode cX12_isInside 130 = .ok (.iconst 0, 1) := by decide +kernel
theorem dX12_isInside_131 : decode cX12_isInside 131 = .ok (.iload 5, 2) := by decide +kernel
theorem dX12_isInside_133 : decode cX12_isInside 133 = .ok (.i2l, 1) := by decide +kernel
theorem dX12_isInside_134 : decode cX12_isInside 134 = .ok (.iload 6, 2) := by decide +kernel
theorem dX12_isInside_136 : decode cX12_isInside 136 = .ok (.i2l, 1) := by decide +kernel
theorem dX12_isInside_137 : decode cX12_isInside 137 = .ok (.invokevirtual 285, 3) := by decide +kernel
theorem dX12_isInside_140 : decode cX12_isInside 140 = .ok (.ifCond .eq 7, 3) := by decide +kernel
theorem dX12_isInside_143 : decode cX12_isInside 143 = .ok (.iconst 1, 1) := by decide +kernel
theorem dX12_isInside_144 : decode cX12_isInside 144 = .ok (.goto 4, 3) := by decide +kernel
theorem dX12_isInside_147 : decode cX12_isInside 147 = .ok (.iconst 0, 1) := by decide +kernel
theorem dX12_isInside_148 : decode cX12_isInside 148 = .ok (.ireturn, 1) := by decide +kernel
theorem dX12_fix_0 : decode cX12_fix 0 = .ok (.aload_n 0, 1) := by decide +kernel
theorem dX12_fix_1 : decode cX12_fix 1 = .ok (.iconst 0, 1) := by decide +kernel
theorem dX12_fix_2 : decode cX12_fix 2 = .ok (.putfield 74, 3) := by decide +kernel
theorem dX12_fix_5 : decode cX12_fix 5 = .ok (.aload_n 0, 1) := by decide +kernel
theorem dX12_fix_6 : decode cX12_fix 6 = .ok (.iload_n 1, 1) := by decide +kernel
theorem dX12_fix_7 : decode cX12_fix 7 = .ok (.invokevirtual 262, 3) := by decide +kernel
theorem dX12_fix_10 : decode cX12_fix 10 = .ok (.ifCond .ne 9, 3) := by decide +kernel
theorem dX12_fix_13 : decode cX12_fix 13 = .ok (.aload_n 0, 1) := by decide +kernel
theorem dX12_fix_14 : decode cX12_fix 14 = .ok (.iconst 1, 1) := by decide +kernel
theorem dX12_fix_15 : decode cX12_fix 15 = .ok (.invokevirtual 247, 3) := by decide +kernel
theorem dX12_fix_18 : decode cX12_fix 18 = .ok (.ireturn, 1) := by decide +kernel
theorem dX12_fix_19 : decode cX12_fix 19 = .ok (.aload_n 0, 1) := by decide +kernel
theorem dX12_fix_20 : decode cX12_fix 20 = .ok (.iload_n 1, 1) := by decide +kernel
theorem dX12_fix_21 : decode cX12_fix 21 = .ok (.i2l, 1) := by decide +kernel
theorem dX12_fix_22 : decode cX12_fix 22 = .ok (.invokevirtual 289, 3) := by decide +kernel
theorem dX12_fix_25 : decode cX12_fix 25 = .ok (.ifCond .ne 9, 3) := by decide +kernel
theorem dX12_fix_28 : decode cX12_fix 28 = .ok (.ldc_w 268, 3) := by decide +kernel
theorem dX12_fix_31 : decode cX12_fix 31 = .ok (.goto 19, 3) := by decide +kernel
theorem dX12_fix_34 : decode cX12_fix 34 = .ok (.iload_n 2, 1) := by decide +kernel
theorem dX12_fix_35 : decode cX12_fix 35 = .ok (.ifCond .eq 10, 3) := by decide +kernel
theorem dX12_fix_38 : decode cX12_fix 38 = .ok (.aload_n 0, 1) := by decide +kernel
theorem dX12_fix_39 : decode cX12_fix 39 = .ok (.getfield 238, 3) := by decide +kernel
theorem dX12_fix_42 : decode cX12_fix 42 = .ok (.goto 7, 3) := by decide +kernel
theorem dX12_fix_45 : decode cX12_fix 45 = .ok (.aload_n 0, 1) := by decide +kernel
theorem dX12_fix_46 : decode cX12_fix 46 = .ok (.getfield 234, 3) := by decide +kernel
theorem dX12_fix_49 : decode cX12_fix 49 = .ok (.l2i, 1) := by decide +kernel
theorem dX12_fix_50 : decode cX12_fix 50 = .ok (.ireturn, 1) := by decide +kernel
theorem dX12_residual_0 : decode cX12_residual 0 = .ok (.aload_n 0, 1) := by decide +kernel
theorem dX12_residual_1 : decode cX12_residual 1 = .ok (.aload_n 0, 1) := by decide +kernel
theorem dX12_residual_2 : decode cX12_residual 2 = .ok (.iload_n 1, 1) := by decide +kernel
theorem dX12_residual_3 : decode cX12_residual 3 = .ok (.invokevirtual 265, 3) := by decide +kernel
theorem dX12_residual_6 : decode cX12_residual 6 = .ok (.ifCond .ne 7, 3) := by decide +kernel
theorem dX12_residual_9 : decode cX12_residual 9 = .ok (.iconst 1, 1) := by decide +kernel
theorem dX12_residual_10 : decode cX12_residual 10 = .ok (.goto 16, 3) := by decide +kernel
theorem dX12_residual_13 : decode cX12_residual 13 = .ok (.aload_n 0, 1) := by decide +kernel
theorem dX12_residual_14 : decode cX12_residual 14 = .ok (.iload_n 2, 1) := by decide +kernel
theorem dX12_residual_15 : decode cX12_residual 15 = .ok (.invokevirtual 262, 3) := by decide +kernel
theorem dX12_residual_18 : decode cX12_residual 18 = .ok (.ifCond .eq 7, 3) := by decide +kernel
theorem dX12_residual_21 : decode cX12_residual 21 = .ok (.iconst 0, 1) := by decide +kernel
theorem dX12_residual_22 : decode cX12_residual 22 = .ok (.goto 4, 3) := by decide +kernel
theorem dX12_residual_25 : decode cX12_residual 25 = .ok (.iconst 2, 1) := by decide +kernel
theorem dX12_residual_26 : decode cX12_residual 26 = .ok (.putfield 74, 3) := by decide +kernel
theorem dX12_residual_29 : decode cX12_residual 29 = .ok (.aload_n 0, 1) := by decide +kernel
theorem dX12_residual_30 : decode cX12_residual 30 = .ok (.getfield 74, 3) := by decide +kernel
theorem dX12_residual_33 : decode cX12_residual 33 = .ok (.ifCond .eq 5, 3) := by decide +kernel
theorem dX12_residual_36 : decode cX12_residual 36 = .ok (.iconst 0, 1) := by decide +kernel
theorem dX12_residual_37 : decode cX12_residual 37 = .ok (.ireturn, 1) := by decide +kernel
theorem dX12_residual_38 : decode cX12_residual 38 = .ok (.aload_n 0, 1) := by decide +kernel
theorem dX12_residual_39 : decode cX12_residual 39 = .ok (.iload_n 2, 1) := by decide +kernel
theorem dX12_residual_40 : decode cX12_residual 40 = .ok (.i2l, 1) := by decide +kernel
theorem dX12_residual_41 : decode cX12_residual 41 = .ok (.invokevirtual 289, 3) := by decide +kernel
theorem dX12_residual_44 : decode cX12_residual 44 = .ok (.ifCond .eq 12, 3) := by decide +kernel
theorem dX12_residual_47 : decode cX12_residual 47 = .ok (.aload_n 0, 1) := by decide +kernel
theorem dX12_residual_48 : decode cX12_residual 48 = .ok (.iload_n 1, 1) := by decide +kernel
theorem dX12_residual_49 : decode cX12_residual 49 = .ok (.invokevirtual 293, 3) := by decide +kernel
theorem dX12_residual_52 : decode cX12_residual 52 = .ok (.l2i, 1) := by decide +kernel
theorem dX12_residual_53 : decode cX12_residual 53 = .ok (.goto 6, 3) := by decide +kernel
theorem dX12_residual_56 : decode cX12_residual 56 = .ok (.ldc_w 268, 3) := by decide +kernel
theorem dX12_residual_59 : decode cX12_residual 59 = .ok (.ireturn, 1) := by decide +kernel
theorem dX12_worst_0 : decode cX12_worst 0 = .ok (.aload_n 0, 1) := by decide +kernel
theorem dX12_worst_1 : decode cX12_worst 1 = .ok (.iconst 0, 1) := by decide +kernel
theorem dX12_worst_2 : decode cX12_worst 2 = .ok (.putfield 74, 3) := by decide +kernel
theorem dX12_worst_5 : decode cX12_worst 5 = .ok (.aload_n 0, 1) := by decide +kernel
theorem dX12_worst_6 : decode cX12_worst 6 = .ok (.iload_n 1, 1) := by decide +kernel
theorem dX12_worst_7 : decode cX12_worst 7 = .ok (.invokevirtual 262, 3) := by decide +kernel
theorem dX12_worst_10 : decode cX12_worst 10 = .ok (.ifCond .ne 9, 3) := by decide +kernel
theorem dX12_worst_13 : decode cX12_worst 13 = .ok (.aload_n 0, 1) := by decide +kernel
theorem dX12_worst_14 : decode cX12_worst 14 = .ok (.iconst 1, 1) := by decide +kernel
theorem dX12_worst_15 : decode cX12_worst 15 = .ok (.invokevirtual 247, 3) := by decide +kernel
theorem dX12_worst_18 : decode cX12_worst 18 = .ok (.ireturn, 1) := by decide +kernel
theorem dX12_worst_19 : decode cX12_worst 19 = .ok (.iconst (-1), 1) := by decide +kernel
theorem dX12_worst_20 : decode cX12_worst 20 = .ok (.istore_n 2, 1) := by decide +kernel
theorem dX12_worst_21 : decode cX12_worst 21 = .ok (.aload_n 0, 1) := by decide +kernel
theorem dX12_worst_22 : decode cX12_worst 22 = .ok (.iload_n 1, 1) := by decide +kernel
theorem dX12_worst_23 : decode cX12_worst 23 = .ok (.i2l, 1) := by decide +kernel
theorem dX12_worst_24 : decode cX12_worst 24 = .ok (.invokevirtual 289, 3) := by decide +kernel
theorem dX12_worst_27 : decode cX12_worst 27 = .ok (.istore_n 3, 1) := by decide +kernel
theorem dX12_worst_28 : decode cX12_worst 28 = .ok (.iconst 0, 1) := by decide +kernel
theorem dX12_worst_29 : decode cX12_worst 29 = .ok (.istore 4, 2) := by decide +kernel
theorem dX12_worst_31 : decode cX12_worst 31 = .ok (.iload 4, 2) := by decide +kernel
theorem dX12_worst_33 : decode cX12_worst 33 = .ok (.i2l, 1) := by decide +kernel
theorem dX12_worst_34 : decode cX12_worst 34 = .ok (.aload_n 0, 1) := by decide +kernel
theorem dX12_worst_35 : decode cX12_worst 35 = .ok (.getfield 9, 3) := by decide +kernel
theorem dX12_worst_38 : decode cX12_worst 38 = .ok (.iconst 2, 1) := by decide +kernel
theorem dX12_worst_39 : decode cX12_worst 39 = .ok (.laload, 1) := by decide +kernel
theorem dX12_worst_40 : decode cX12_worst 40 = .ok (.lcmp, 1) := by decide +kernel
theorem dX12_worst_41 : decode cX12_worst 41 = .ok (.ifCond .ge 46, 3) := by decide +kernel
theorem dX12_worst_44 : decode cX12_worst 44 = .ok (.iload_n 3, 1) := by decide +kernel
theorem dX12_worst_45 : decode cX12_worst 45 = .ok (.ifCond .eq 42, 3) := by decide +kernel
theorem dX12_worst_48 : decode cX12_worst 48 = .ok (.iload_n 2, 1) := by decide +kernel
theorem dX12_worst_49 : decode cX12_worst 49 = .ok (.iconst (-1), 1) := by decide +kernel
theorem dX12_worst_50 : decode cX12_worst 50 = .ok (.if_icmp .eq 24, 3) := by decide +kernel
theorem dX12_worst_53 : decode cX12_worst 53 = .ok (.aload_n 0, 1) := by decide +kernel
theorem dX12_worst_54 : decode cX12_worst 54 = .ok (.iload 4, 2) := by decide +kernel
theorem dX12_worst_56 : decode cX12_worst 56 = .ok (.invokevirtual 293, 3) := by decide +kernel
theorem dX12_worst_59 : decode cX12_worst 59 = .ok (.invokestatic 204, 3) := by decide +kernel
theorem dX12_worst_62 : decode cX12_worst 62 = .ok (.aload_n 0, 1) := by decide +kernel
theorem dX12_worst_63 : decode cX12_worst 63 = .ok (.iload_n 2, 1) := by decide +kernel
theorem dX12_worst_64 : decode cX12_worst 64 = .ok (.invokevirtual 293, 3) := by decide +kernel
theorem dX12_worst_67 : decode cX12_worst 67 = .ok (.invokestatic 204, 3) := by decide +kernel
theorem dX12_worst_70 : decode cX12_worst 70 = .ok (.lcmp, 1) := by decide +kernel
theorem dX12_worst_71 : decode cX12_worst 71 = .ok (.ifCond .le 8, 3) := by decide +kernel
theorem dX12_worst_74 : decode cX12_worst 74 = .ok (.iload 4, 2) := by decide +kernel
theorem dX12_worst_76 : decode cX12_worst 76 = .ok (.goto 4, 3) := by decide +kernel
theorem dX12_worst_79 : decode cX12_worst 79 = .ok (.iload_n 2, 1) := by decide +kernel
theorem dX12_worst_80 : decode cX12_worst 80 = .ok (.istore_n 2, 1) := by decide +kernel
theorem dX12_worst_81 : decode cX12_worst 81 = .ok (.iinc 4 1, 3) := by decide +kernel
theorem dX12_worst_84 : decode cX12_worst 84 = .ok (.goto (-53), 3) := by decide +kernel
theorem dX12_worst_87 : decode cX12_worst 87 = .ok (.iload_n 2, 1) := by decide +kernel
theorem dX12_worst_88 : decode cX12_worst 88 = .ok (.ireturn, 1) := by decide +kernel
theorem dX12_offCourse_0 : decode cX12_offCourse 0 = .ok (.aload_n 0, 1) := by decide +kernel
theorem dX12_offCourse_1 : decode cX12_offCourse 1 = .ok (.iconst 0, 1) := by decide +kernel
theorem dX12_offCourse_2 : decode cX12_offCourse 2 = .ok (.putfield 74, 3) := by decide +kernel
theorem dX12_offCourse_5 : decode cX12_offCourse 5 = .ok (.aload_n 0, 1) := by decide +kernel
theorem dX12_offCourse_6 : decode cX12_offCourse 6 = .ok (.iload_n 1, 1) := by decide +kernel
theorem dX12_offCourse_7 : decode cX12_offCourse 7 = .ok (.invokevirtual 262, 3) := by decide +kernel
theorem dX12_offCourse_10 : decode cX12_offCourse 10 = .ok (.ifCond .ne 9, 3) := by decide +kernel
theorem dX12_offCourse_13 : decode cX12_offCourse 13 = .ok (.aload_n 0, 1) := by decide +kernel
theorem dX12_offCourse_14 : decode cX12_offCourse 14 = .ok (.iconst 1, 1) := by decide +kernel
theorem dX12_offCourse_15 : decode cX12_offCourse 15 = .ok (.invokevirtual 247, 3) := by decide +kernel
theorem dX12_offCourse_18 : decode cX12_offCourse 18 = .ok (.ireturn, 1) := by decide +kernel
theorem dX12_offCourse_19 : decode cX12_offCourse 19 = .ok (.aload_n 0, 1) := by decide +kernel
theorem dX12_offCourse_20 : decode cX12_offCourse 20 = .ok (.iload_n 1, 1) := by decide +kernel
theorem dX12_offCourse_21 : decode cX12_offCourse 21 = .ok (.i2l, 1) := by decide +kernel
theorem dX12_offCourse_22 : decode cX12_offCourse 22 = .ok (.invokevirtual 289, 3) := by decide +kernel
theorem dX12_offCourse_25 : decode cX12_offCourse 25 = .ok (.ifCond .eq 13, 3) := by decide +kernel
theorem dX12_offCourse_28 : decode cX12_offCourse 28 = .ok (.aload_n 0, 1) := by decide +kernel
theorem dX12_offCourse_29 : decode cX12_offCourse 29 = .ok (.iload_n 1, 1) := by decide +kernel
theorem dX12_offCourse_30 : decode cX12_offCourse 30 = .ok (.i2l, 1) := by decide +kernel
theorem dX12_offCourse_31 : decode cX12_offCourse 31 = .ok (.invokevirtual 296, 3) := by decide +kernel
theorem dX12_offCourse_34 : decode cX12_offCourse 34 = .ok (.l2i, 1) := by decide +kernel
theorem dX12_offCourse_35 : decode cX12_offCourse 35 = .ok (.goto 6, 3) := by decide +kernel
theorem dX12_offCourse_38 : decode cX12_offCourse 38 = .ok (.ldc_w 268, 3) := by decide +kernel
theorem dX12_offCourse_41 : decode cX12_offCourse 41 = .ok (.ireturn, 1) := by decide +kernel
theorem dX12_setOf_0 : decode cX12_setOf 0 = .ok (.lload 5, 2) := by decide +kernel
theorem dX12_setOf_2 : decode cX12_setOf 2 = .ok (.lconst 0, 1) := by decide +kernel
theorem dX12_setOf_3 : decode cX12_setOf 3 = .ok (.lcmp, 1) := by decide +kernel
theorem dX12_setOf_4 : decode cX12_setOf 4 = .ok (.ifCond .ne 5, 3) := by decide +kernel
theorem dX12_setOf_7 : decode cX12_setOf 7 = .ok (.lconst 0, 1) := by decide +kernel
theorem dX12_setOf_8 : decode cX12_setOf 8 = .ok (.lreturn, 1) := by decide +kernel
theorem dX12_setOf_9 : decode cX12_setOf 9 = .ok (.lload_n 1, 1) := by decide +kernel
theorem dX12_setOf_10 : decode cX12_setOf 10 = .ok (.invokestatic 204, 3) := by decide +kernel
theorem dX12_setOf_13 : decode cX12_setOf 13 = .ok (.ldc2_w 113, 3) := by decide +kernel
theorem dX12_setOf_16 : decode cX12_setOf 16 = .ok (.lmul, 1) := by decide +kernel
theorem dX12_setOf_17 : decode cX12_setOf 17 = .ok (.lload 5, 2) := by decide +kernel
theorem dX12_setOf_19 : decode cX12_setOf 19 = .ok (.invokestatic 92, 3) := by decide +kernel
theorem dX12_setOf_22 : decode cX12_setOf 22 = .ok (.invokestatic 110, 3) := by decide +kernel
theorem dX12_setOf_25 : decode cX12_setOf 25 = .ok (.lstore 7, 2) := by decide +kernel
theorem dX12_setOf_27 : decode cX12_setOf 27 = .ok (.lload_n 1, 1) := by decide +kernel
theorem dX12_setOf_28 : decode cX12_setOf 28 = .ok (.lconst 0, 1) := by decide +kernel
theorem dX12_setOf_29 : decode cX12_setOf 29 = .ok (.lcmp, 1) := by decide +kernel
theorem dX12_setOf_30 : decode cX12_setOf 30 = .ok (.ifCond .lt 21, 3) := by decide +kernel
theorem dX12_setOf_33 : decode cX12_setOf 33 = .ok (.lload_n 3, 1) := by decide +kernel
theorem dX12_setOf_34 : decode cX12_setOf 34 = .ok (.lconst 0, 1) := by decide +kernel
theorem dX12_setOf_35 : decode cX12_setOf 35 = .ok (.lcmp, 1) := by decide +kernel
theorem dX12_setOf_36 : decode cX12_setOf 36 = .ok (.ifCond .lt 8, 3) := by decide +kernel
theorem dX12_setOf_39 : decode cX12_setOf 39 = .ok (.lload 7, 2) := by decide +kernel
theorem dX12_setOf_41 : decode cX12_setOf 41 = .ok (.goto 9, 3) := by decide +kernel
theorem dX12_setOf_44 : decode cX12_setOf 44 = .ok (.ldc2_w 99, 3) := by decide +kernel
theorem dX12_setOf_47 : decode cX12_setOf 47 = .ok (.lload 7, 2) := by decide +kernel
theorem dX12_setOf_49 : decode cX12_setOf 49 = .ok (.lsub, 1) := by decide +kernel
theorem dX12_setOf_50 : decode cX12_setOf 50 = .ok (.lreturn, 1) := by decide +kernel
theorem dX12_setOf_51 : decode cX12_setOf 51 = .ok (.lload_n 3, 1) := by decide +kernel
theorem dX12_setOf_52 : decode cX12_setOf 52 = .ok (.lconst 0, 1) := by decide +kernel
theorem dX12_setOf_53 : decode cX12_setOf 53 = .ok (.lcmp, 1) := by decide +kernel
theorem dX12_setOf_54 : decode cX12_setOf 54 = .ok (.ifCond .ge 12, 3) := by decide +kernel
theorem dX12_setOf_57 : decode cX12_setOf 57 = .ok (.ldc2_w 99, 3) := by decide +kernel
theorem dX12_setOf_60 : decode cX12_setOf 60 = .ok (.lload 7, 2) := by decide +kernel
theorem dX12_setOf_62 : decode cX12_setOf 62 = .ok (.ladd, 1) := by decide +kernel
theorem dX12_setOf_63 : decode cX12_setOf 63 = .ok (.goto 12, 3) := by decide +kernel
theorem dX12_setOf_66 : decode cX12_setOf 66 = .ok (.ldc2_w 90, 3) := by decide +kernel
theorem dX12_setOf_69 : decode cX12_setOf 69 = .ok (.lload 7, 2) := by decide +kernel
theorem dX12_setOf_71 : decode cX12_setOf 71 = .ok (.lsub, 1) := by decide +kernel
theorem dX12_setOf_72 : decode cX12_setOf 72 = .ok (.invokestatic 95, 3) := by decide +kernel
theorem dX12_setOf_75 : decode cX12_setOf 75 = .ok (.lreturn, 1) := by decide +kernel
theorem dX12_unknownCurrent_0 : decode cX12_unknownCurrent 0 = .ok (.aload_n 0, 1) := by decide +kernel
theorem dX12_unknownCurrent_1 : decode cX12_unknownCurrent 1 = .ok (.iconst 0, 1) := by decide +kernel
theorem dX12_unknownCurrent_2 : decode cX12_unknownCurrent 2 = .ok (.putfield 74, 3) := by decide +kernel
theorem dX12_unknownCurrent_5 : decode cX12_unknownCurrent 5 = .ok (.iload_n 1, 1) := by decide +kernel
theorem dX12_unknownCurrent_6 : decode cX12_unknownCurrent 6 = .ok (.i2l, 1) := by decide +kernel
theorem dX12_unknownCurrent_7 : decode cX12_unknownCurrent 7 = .ok (.lconst 1, 1) := by decide +kernel
theorem dX12_unknownCurrent_8 : decode cX12_unknownCurrent 8 = .ok (.ldc2_w 260, 3) := by decide +kernel
theorem dX12_unknownCurrent_11 : decode cX12_unknownCurrent 11 = .ok (.invokestatic 243, 3) := by decide +kernel
theorem dX12_unknownCurrent_14 : decode cX12_unknownCurrent 14 = .ok (.ifCond .ne 9, 3) := by decide +kernel
theorem dX12_unknownCurrent_17 : decode cX12_unknownCurrent 17 = .ok (.aload_n 0, 1) := by decide +kernel
theorem dX12_unknownCurrent_18 : decode cX12_unknownCurrent 18 = .ok (.iconst 1, 1) := by decide +kernel
theorem dX12_unknownCurrent_19 : decode cX12_unknownCurrent 19 = .ok (.invokevirtual 247, 3) := by decide +kernel
theorem dX12_unknownCurrent_22 : decode cX12_unknownCurrent 22 = .ok (.ireturn, 1) := by decide +kernel
theorem dX12_unknownCurrent_23 : decode cX12_unknownCurrent 23 = .ok (.aload_n 0, 1) := by decide +kernel
theorem dX12_unknownCurrent_24 : decode cX12_unknownCurrent 24 = .ok (.iload_n 1, 1) := by decide +kernel
theorem dX12_unknownCurrent_25 : decode cX12_unknownCurrent 25 = .ok (.i2l, 1) := by decide +kernel
theorem dX12_unknownCurrent_26 : decode cX12_unknownCurrent 26 = .ok (.invokevirtual 289, 3) := by decide +kernel
theorem dX12_unknownCurrent_29 : decode cX12_unknownCurrent 29 = .ok (.ifCond .ne 7, 3) := by decide +kernel
theorem dX12_unknownCurrent_32 : decode cX12_unknownCurrent 32 = .ok (.ldc_w 268, 3) := by decide +kernel
theorem dX12_unknownCurrent_35 : decode cX12_unknownCurrent 35 = .ok (.ireturn, 1) := by decide +kernel
theorem dX12_unknownCurrent_36 : decode cX12_unknownCurrent 36 = .ok (.aload_n 0, 1) := by decide +kernel
theorem dX12_unknownCurrent_37 : decode cX12_unknownCurrent 37 = .ok (.iload_n 1, 1) := by decide +kernel
theorem dX12_unknownCurrent_38 : decode cX12_unknownCurrent 38 = .ok (.i2l, 1) := by decide +kernel
theorem dX12_unknownCurrent_39 : decode cX12_unknownCurrent 39 = .ok (.invokevirtual 296, 3) := by decide +kernel
theorem dX12_unknownCurrent_42 : decode cX12_unknownCurrent 42 = .ok (.lstore_n 3, 1) := by decide +kernel
theorem dX12_unknownCurrent_43 : decode cX12_unknownCurrent 43 = .ok (.iload_n 2, 1) := by decide +kernel
theorem dX12_unknownCurrent_44 : decode cX12_unknownCurrent 44 = .ok (.ifCond .eq 14, 3) := by decide +kernel
theorem dX12_unknownCurrent_47 : decode cX12_unknownCurrent 47 = .ok (.ldc2_w 115, 3) := by decide +kernel
theorem dX12_unknownCurrent_50 : decode cX12_unknownCurrent 50 = .ok (.lload_n 3, 1) := by decide +kernel
theorem dX12_unknownCurrent_51 : decode cX12_unknownCurrent 51 = .ok (.lmul, 1) := by decide +kernel
theorem dX12_unknownCurrent_52 : decode cX12_unknownCurrent 52 = .ok (.iload_n 1, 1) := by decide +kernel
theorem dX12_unknownCurrent_53 : decode cX12_unknownCurrent 53 = .ok (.i2l, 1) := by decide +kernel
theorem dX12_unknownCurrent_54 : decode cX12_unknownCurrent 54 = .ok (.ldiv, 1) := by decide +kernel
theorem dX12_unknownCurrent_55 : decode cX12_unknownCurrent 55 = .ok (.goto 32, 3) := by decide +kernel
theorem dX12_unknownCurrent_58 : decode cX12_unknownCurrent 58 = .ok (.aload_n 0, 1) := by decide +kernel
theorem dX12_unknownCurrent_59 : decode cX12_unknownCurrent 59 = .ok (.aload_n 0, 1) := by decide +kernel
theorem dX12_unknownCurrent_60 : decode cX12_unknownCurrent 60 = .ok (.getfield 234, 3) := by decide +kernel
theorem dX12_unknownCurrent_63 : decode cX12_unknownCurrent 63 = .ok (.aload_n 0, 1) := by decide +kernel
theorem dX12_unknownCurrent_64 : decode cX12_unknownCurrent 64 = .ok (.iload_n 1, 1) := by decide +kernel
theorem dX12_unknownCurrent_65 : decode cX12_unknownCurrent 65 = .ok (.i2l, 1) := by decide +kernel
theorem dX12_unknownCurrent_66 : decode cX12_unknownCurrent 66 = .ok (.iconst 0, 1) := by decide +kernel
theorem dX12_unknownCurrent_67 : decode cX12_unknownCurrent 67 = .ok (.invokevirtual 131, 3) := by decide +kernel
theorem dX12_unknownCurrent_70 : decode cX12_unknownCurrent 70 = .ok (.lsub, 1) := by decide +kernel
theorem dX12_unknownCurrent_71 : decode cX12_unknownCurrent 71 = .ok (.aload_n 0, 1) := by decide +kernel
theorem dX12_unknownCurrent_72 : decode cX12_unknownCurrent 72 = .ok (.getfield 238, 3) := by decide +kernel
theorem dX12_unknownCurrent_75 : decode cX12_unknownCurrent 75 = .ok (.aload_n 0, 1) := by decide +kernel
theorem dX12_unknownCurrent_76 : decode cX12_unknownCurrent 76 = .ok (.iload_n 1, 1) := by decide +kernel
theorem dX12_unknownCurrent_77 : decode cX12_unknownCurrent 77 = .ok (.i2l, 1) := by decide +kernel
theorem dX12_unknownCurrent_78 : decode cX12_unknownCurrent 78 = .ok (.iconst 1, 1) := by decide +kernel
theorem dX12_unknownCurrent_79 : decode cX12_unknownCurrent 79 = .ok (.invokevirtual 131, 3) := by decide +kernel
theorem dX12_unknownCurrent_82 : decode cX12_unknownCurrent 82 = .ok (.lsub, 1) := by decide +kernel
theorem dX12_unknownCurrent_83 : decode cX12_unknownCurrent 83 = .ok (.lload_n 3, 1) := by decide +kernel
theorem dX12_unknownCurrent_84 : decode cX12_unknownCurrent 84 = .ok (.invokevirtual 299, 3) := by decide +kernel
theorem dX12_unknownCurrent_87 : decode cX12_unknownCurrent 87 = .ok (.l2i, 1) := by decide +kernel
theorem dX12_unknownCurrent_88 : decode cX12_unknownCurrent 88 = .ok (.ireturn, 1) := by decide +kernel
theorem dX12_meanResidual_0 : decode cX12_meanResidual 0 = .ok (.aload_n 0, 1) := by decide +kernel
theorem dX12_meanResidual_1 : decode cX12_meanResidual 1 = .ok (.aload_n 0, 1) := by decide +kernel
theorem dX12_meanResidual_2 : decode cX12_meanResidual 2 = .ok (.iload_n 1, 1) := by decide +kernel
theorem dX12_meanResidual_3 : decode cX12_meanResidual 3 = .ok (.invokevirtual 262, 3) := by decide +kernel
theorem dX12_meanResidual_6 : decode cX12_meanResidual 6 = .ok (.ifCond .eq 7, 3) := by decide +kernel
theorem dX12_meanResidual_9 : decode cX12_meanResidual 9 = .ok (.iconst 0, 1) := by decide +kernel
theorem dX12_meanResidual_10 : decode cX12_meanResidual 10 = .ok (.goto 4, 3) := by decide +kernel
theorem dX12_meanResidual_13 : decode cX12_meanResidual 13 = .ok (.iconst 1, 1) := by decide +kernel
theorem dX12_meanResidual_14 : decode cX12_meanResidual 14 = .ok (.putfield 74, 3) := by decide +kernel
theorem dX12_meanResidual_17 : decode cX12_meanResidual 17 = .ok (.aload_n 0, 1) := by decide +kernel
theorem dX12_meanResidual_18 : decode cX12_meanResidual 18 = .ok (.getfield 74, 3) := by decide +kernel
theorem dX12_meanResidual_21 : decode cX12_meanResidual 21 = .ok (.ifCond .ne 12, 3) := by decide +kernel
theorem dX12_meanResidual_24 : decode cX12_meanResidual 24 = .ok (.aload_n 0, 1) := by decide +kernel
theorem dX12_meanResidual_25 : decode cX12_meanResidual 25 = .ok (.iload_n 1, 1) := by decide +kernel
theorem dX12_meanResidual_26 : decode cX12_meanResidual 26 = .ok (.i2l, 1) := by decide +kernel
theorem dX12_meanResidual_27 : decode cX12_meanResidual 27 = .ok (.invokevirtual 289, 3) := by decide +kernel
theorem dX12_meanResidual_30 : decode cX12_meanResidual 30 = .ok (.ifCond .ne 5, 3) := by decide +kernel
theorem dX12_meanResidual_33 : decode cX12_meanResidual 33 = .ok (.dconst 0, 1) := by decide +kernel
theorem dX12_meanResidual_34 : decode cX12_meanResidual 34 = .ok (.dreturn, 1) := by decide +kernel
theorem dX12_meanResidual_35 : decode cX12_meanResidual 35 = .ok (.lconst 0, 1) := by decide +kernel
theorem dX12_meanResidual_36 : decode cX12_meanResidual 36 = .ok (.lstore_n 2, 1) := by decide +kernel
theorem dX12_meanResidual_37 : decode cX12_meanResidual 37 = .ok (.iconst 0, 1) := by decide +kernel
theorem dX12_meanResidual_38 : decode cX12_meanResidual 38 = .ok (.istore 4, 2) := by decide +kernel
theorem dX12_meanResidual_40 : decode cX12_meanResidual 40 = .ok (.iload 4, 2) := by decide +kernel
theorem dX12_meanResidual_42 : decode cX12_meanResidual 42 = .ok (.i2l, 1) := by decide +kernel
theorem dX12_meanResidual_43 : decode cX12_meanResidual 43 = .ok (.aload_n 0, 1) := by decide +kernel
theorem dX12_meanResidual_44 : decode cX12_meanResidual 44 = .ok (.getfield 9, 3) := by decide +kernel
theorem dX12_meanResidual_47 : decode cX12_meanResidual 47 = .ok (.iconst 2, 1) := by decide +kernel
theorem dX12_meanResidual_48 : decode cX12_meanResidual 48 = .ok (.laload, 1) := by decide +kernel
theorem dX12_meanResidual_49 : decode cX12_meanResidual 49 = .ok (.lcmp, 1) := by decide +kernel
theorem dX12_meanResidual_50 : decode cX12_meanResidual 50 = .ok (.ifCond .ge 21, 3) := by decide +kernel
theorem dX12_meanResidual_53 : decode cX12_meanResidual 53 = .ok (.lload_n 2, 1) := by decide +kernel
theorem dX12_meanResidual_54 : decode cX12_meanResidual 54 = .ok (.aload_n 0, 1) := by decide +kernel
theorem dX12_meanResidual_55 : decode cX12_meanResidual 55 = .ok (.iload 4, 2) := by decide +kernel
theorem dX12_meanResidual_57 : decode cX12_meanResidual 57 = .ok (.invokevirtual 293, 3) := by decide +kernel
theorem dX12_meanResidual_60 : decode cX12_meanResidual 60 = .ok (.invokestatic 204, 3) := by decide +kernel
theorem dX12_meanResidual_63 : decode cX12_meanResidual 63 = .ok (.ladd, 1) := by decide +kernel
theorem dX12_meanResidual_64 : decode cX12_meanResidual 64 = .ok (.lstore_n 2, 1) := by decide +kernel
theorem dX12_meanResidual_65 : decode cX12_meanResidual 65 = .ok (.iinc 4 1, 3) := by decide +kernel
theorem dX12_meanResidual_68 : decode cX12_meanResidual 68 = .ok (.goto (-28), 3) := by decide +kernel
theorem dX12_meanResidual_71 : decode cX12_meanResidual 71 = .ok (.lload_n 2, 1) := by decide +kernel
theorem dX12_meanResidual_72 : decode cX12_meanResidual 72 = .ok (.l2d, 1) := by decide +kernel
theorem dX12_meanResidual_73 : decode cX12_meanResidual 73 = .ok (.aload_n 0, 1) := by decide +kernel
theorem dX12_meanResidual_74 : decode cX12_meanResidual 74 = .ok (.getfield 9, 3) := by decide +kernel
theorem dX12_meanResidual_77 : decode cX12_meanResidual 77 = .ok (.iconst 2, 1) := by decide +kernel
theorem dX12_meanResidual_78 : decode cX12_meanResidual 78 = .ok (.laload, 1) := by decide +kernel
theorem dX12_meanResidual_79 : decode cX12_meanResidual 79 = .ok (.l2d, 1) := by decide +kernel
theorem dX12_meanResidual_80 : decode cX12_meanResidual 80 = .ok (.ddiv, 1) := by decide +kernel
theorem dX12_meanResidual_81 : decode cX12_meanResidual 81 = .ok (.dreturn, 1) := by decide +kernel
theorem dX12_meanIntercept_0 : decode cX12_meanIntercept 0 = .ok (.aload_n 0, 1) := by decide +kernel
theorem dX12_meanIntercept_1 : decode cX12_meanIntercept 1 = .ok (.iconst 0, 1) := by decide +kernel
theorem dX12_meanIntercept_2 : decode cX12_meanIntercept 2 = .ok (.putfield 74, 3) := by decide +kernel
theorem dX12_meanIntercept_5 : decode cX12_meanIntercept 5 = .ok (.lconst 0, 1) := by decide +kernel
theorem dX12_meanIntercept_6 : decode cX12_meanIntercept 6 = .ok (.lstore_n 1, 1) := by decide +kernel
theorem dX12_meanIntercept_7 : decode cX12_meanIntercept 7 = .ok (.iconst 0, 1) := by decide +kernel
theorem dX12_meanIntercept_8 : decode cX12_meanIntercept 8 = .ok (.istore_n 3, 1) := by decide +kernel
theorem dX12_meanIntercept_9 : decode cX12_meanIntercept 9 = .ok (.iload_n 3, 1) := by decide +kernel
theorem dX12_meanIntercept_10 : decode cX12_meanIntercept 10 = .ok (.i2l, 1) := by decide +kernel
theorem dX12_meanIntercept_11 : decode cX12_meanIntercept 11 = .ok (.aload_n 0, 1) := by decide +kernel
theorem dX12_meanIntercept_12 : decode cX12_meanIntercept 12 = .ok (.getfield 9, 3) := by decide +kernel
theorem dX12_meanIntercept_15 : decode cX12_meanIntercept 15 = .ok (.iconst 2, 1) := by decide +kernel
theorem dX12_meanIntercept_16 : decode cX12_meanIntercept 16 = .ok (.laload, 1) := by decide +kernel
theorem dX12_meanIntercept_17 : decode cX12_meanIntercept 17 = .ok (.lcmp, 1) := by decide +kernel
theorem dX12_meanIntercept_18 : decode cX12_meanIntercept 18 = .ok (.ifCond .ge 17, 3) := by decide +kernel
theorem dX12_meanIntercept_21 : decode cX12_meanIntercept 21 = .ok (.lload_n 1, 1) := by decide +kernel
theorem dX12_meanIntercept_22 : decode cX12_meanIntercept 22 = .ok (.aload_n 0, 1) := by decide +kernel
theorem dX12_meanIntercept_23 : decode cX12_meanIntercept 23 = .ok (.iload_n 3, 1) := by decide +kernel
theorem dX12_meanIntercept_24 : decode cX12_meanIntercept 24 = .ok (.invokevirtual 190, 3) := by decide +kernel
theorem dX12_meanIntercept_27 : decode cX12_meanIntercept 27 = .ok (.ladd, 1) := by decide +kernel
theorem dX12_meanIntercept_28 : decode cX12_meanIntercept 28 = .ok (.lstore_n 1, 1) := by decide +kernel
theorem dX12_meanIntercept_29 : decode cX12_meanIntercept 29 = .ok (.iinc 3 1, 3) := by decide +kernel
theorem dX12_meanIntercept_32 : decode cX12_meanIntercept 32 = .ok (.goto (-23), 3) := by decide +kernel
theorem dX12_meanIntercept_35 : decode cX12_meanIntercept 35 = .ok (.aload_n 0, 1) := by decide +kernel
theorem dX12_meanIntercept_36 : decode cX12_meanIntercept 36 = .ok (.getfield 9, 3) := by decide +kernel
theorem dX12_meanIntercept_39 : decode cX12_meanIntercept 39 = .ok (.iconst 2, 1) := by decide +kernel
theorem dX12_meanIntercept_40 : decode cX12_meanIntercept 40 = .ok (.laload, 1) := by decide +kernel
theorem dX12_meanIntercept_41 : decode cX12_meanIntercept 41 = .ok (.lconst 0, 1) := by decide +kernel
theorem dX12_meanIntercept_42 : decode cX12_meanIntercept 42 = .ok (.lcmp, 1) := by decide +kernel
theorem dX12_meanIntercept_43 : decode cX12_meanIntercept 43 = .ok (.ifCond .ne 7, 3) := by decide +kernel
theorem dX12_meanIntercept_46 : decode cX12_meanIntercept 46 = .ok (.fconst 0, 1) := by decide +kernel
theorem dX12_meanIntercept_47 : decode cX12_meanIntercept 47 = .ok (.goto 13, 3) := by decide +kernel
theorem dX12_meanIntercept_50 : decode cX12_meanIntercept 50 = .ok (.lload_n 1, 1) := by decide +kernel
theorem dX12_meanIntercept_51 : decode cX12_meanIntercept 51 = .ok (.l2f, 1) := by decide +kernel
theorem dX12_meanIntercept_52 : decode cX12_meanIntercept 52 = .ok (.aload_n 0, 1) := by decide +kernel
theorem dX12_meanIntercept_53 : decode cX12_meanIntercept 53 = .ok (.getfield 9, 3) := by decide +kernel
theorem dX12_meanIntercept_56 : decode cX12_meanIntercept 56 = .ok (.iconst 2, 1) := by decide +kernel
theorem dX12_meanIntercept_57 : decode cX12_meanIntercept 57 = .ok (.laload, 1) := by decide +kernel
theorem dX12_meanIntercept_58 : decode cX12_meanIntercept 58 = .ok (.l2f, 1) := by decide +kernel
theorem dX12_meanIntercept_59 : decode cX12_meanIntercept 59 = .ok (.fdiv, 1) := by decide +kernel
theorem dX12_meanIntercept_60 : decode cX12_meanIntercept 60 = .ok (.freturn, 1) := by decide +kernel
theorem dX12_addSight_0 : decode cX12_addSight 0 = .ok (.bipush 57, 2) := by decide +kernel
theorem dX12_addSight_2 : decode cX12_addSight 2 = .ok (.iconst 3, 1) := by decide +kernel
theorem dX12_addSight_3 : decode cX12_addSight 3 = .ok (.aload_n 0, 1) := by decide +kernel
theorem dX12_addSight_4 : decode cX12_addSight 4 = .ok (.iconst 2, 1) := by decide +kernel
theorem dX12_addSight_5 : decode cX12_addSight 5 = .ok (.laload, 1) := by decide +kernel
theorem dX12_addSight_6 : decode cX12_addSight 6 = .ok (.l2i, 1) := by decide +kernel
theorem dX12_addSight_7 : decode cX12_addSight 7 = .ok (.imul, 1) := by decide +kernel
theorem dX12_addSight_8 : decode cX12_addSight 8 = .ok (.iadd, 1) := by decide +kernel
theorem dX12_addSight_9 : decode cX12_addSight 9 = .ok (.istore 7, 2) := by decide +kernel
theorem dX12_addSight_11 : decode cX12_addSight 11 = .ok (.aload_n 0, 1) := by decide +kernel
theorem dX12_addSight_12 : decode cX12_addSight 12 = .ok (.iload 7, 2) := by decide +kernel
theorem dX12_addSight_14 : decode cX12_addSight 14 = .ok (.iconst 0, 1) := by decide +kernel
theorem dX12_addSight_15 : decode cX12_addSight 15 = .ok (.iadd, 1) := by decide +kernel
theorem dX12_addSight_16 : decode cX12_addSight 16 = .ok (.lload_n 1, 1) := by decide +kernel
theorem dX12_addSight_17 : decode cX12_addSight 17 = .ok (.lastore, 1) := by decide +kernel
theorem dX12_addSight_18 : decode cX12_addSight 18 = .ok (.aload_n 0, 1) := by decide +kernel
theorem dX12_addSight_19 : decode cX12_addSight 19 = .ok (.iload 7, 2) := by decide +kernel
theorem dX12_addSight_21 : decode cX12_addSight 21 = .ok (.iconst 1, 1) := by decide +kernel
theorem dX12_addSight_22 : decode cX12_addSight 22 = .ok (.iadd, 1) := by decide +kernel
theorem dX12_addSight_23 : decode cX12_addSight 23 = .ok (.lload_n 3, 1) := by decide +kernel
theorem dX12_addSight_24 : decode cX12_addSight 24 = .ok (.lastore, 1) := by decide +kernel
theorem dX12_addSight_25 : decode cX12_addSight 25 = .ok (.aload_n 0, 1) := by decide +kernel
theorem dX12_addSight_26 : decode cX12_addSight 26 = .ok (.iload 7, 2) := by decide +kernel
theorem dX12_addSight_28 : decode cX12_addSight 28 = .ok (.iconst 2, 1) := by decide +kernel
theorem dX12_addSight_29 : decode cX12_addSight 29 = .ok (.iadd, 1) := by decide +kernel
theorem dX12_addSight_30 : decode cX12_addSight 30 = .ok (.lload 5, 2) := by decide +kernel
theorem dX12_addSight_32 : decode cX12_addSight 32 = .ok (.lastore, 1) := by decide +kernel
theorem dX12_addSight_33 : decode cX12_addSight 33 = .ok (.aload_n 0, 1) := by decide +kernel
theorem dX12_addSight_34 : decode cX12_addSight 34 = .ok (.iconst 2, 1) := by decide +kernel
theorem dX12_addSight_35 : decode cX12_addSight 35 = .ok (.dup2, 1) := by decide +kernel
theorem dX12_addSight_36 : decode cX12_addSight 36 = .ok (.laload, 1) := by decide +kernel
theorem dX12_addSight_37 : decode cX12_addSight 37 = .ok (.lconst 1, 1) := by decide +kernel
theorem dX12_addSight_38 : decode cX12_addSight 38 = .ok (.ladd, 1) := by decide +kernel
theorem dX12_addSight_39 : decode cX12_addSight 39 = .ok (.lastore, 1) := by decide +kernel
theorem dX12_addSight_40 : decode cX12_addSight 40 = .ok (.return_, 1) := by decide +kernel
theorem dX12_addLeg_0 : decode cX12_addLeg 0 = .ok (.bipush 33, 2) := by decide +kernel
theorem dX12_addLeg_2 : decode cX12_addLeg 2 = .ok (.iconst 3, 1) := by decide +kernel
theorem dX12_addLeg_3 : decode cX12_addLeg 3 = .ok (.aload_n 0, 1) := by decide +kernel
theorem dX12_addLeg_4 : decode cX12_addLeg 4 = .ok (.iconst 1, 1) := by decide +kernel
theorem dX12_addLeg_5 : decode cX12_addLeg 5 = .ok (.laload, 1) := by decide +kernel
theorem dX12_addLeg_6 : decode cX12_addLeg 6 = .ok (.l2i, 1) := by decide +kernel
theorem dX12_addLeg_7 : decode cX12_addLeg 7 = .ok (.imul, 1) := by decide +kernel
theorem dX12_addLeg_8 : decode cX12_addLeg 8 = .ok (.iadd, 1) := by decide +kernel
theorem dX12_addLeg_9 : decode cX12_addLeg 9 = .ok (.istore 7, 2) := by decide +kernel
theorem dX12_addLeg_11 : decode cX12_addLeg 11 = .ok (.aload_n 0, 1) := by decide +kernel
theorem dX12_addLeg_12 : decode cX12_addLeg 12 = .ok (.iload 7, 2) := by decide +kernel
theorem dX12_addLeg_14 : decode cX12_addLeg 14 = .ok (.iconst 0, 1) := by decide +kernel
theorem dX12_addLeg_15 : decode cX12_addLeg 15 = .ok (.iadd, 1) := by decide +kernel
theorem dX12_addLeg_16 : decode cX12_addLeg 16 = .ok (.lload_n 1, 1) := by decide +kernel
theorem dX12_addLeg_17 : decode cX12_addLeg 17 = .ok (.lastore, 1) := by decide +kernel
theorem dX12_addLeg_18 : decode cX12_addLeg 18 = .ok (.aload_n 0, 1) := by decide +kernel
theorem dX12_addLeg_19 : decode cX12_addLeg 19 = .ok (.iload 7, 2) := by decide +kernel
theorem dX12_addLeg_21 : decode cX12_addLeg 21 = .ok (.iconst 1, 1) := by decide +kernel
theorem dX12_addLeg_22 : decode cX12_addLeg 22 = .ok (.iadd, 1) := by decide +kernel
theorem dX12_addLeg_23 : decode cX12_addLeg 23 = .ok (.lload_n 3, 1) := by decide +kernel
theorem dX12_addLeg_24 : decode cX12_addLeg 24 = .ok (.lastore, 1) := by decide +kernel
theorem dX12_addLeg_25 : decode cX12_addLeg 25 = .ok (.aload_n 0, 1) := by decide +kernel
theorem dX12_addLeg_26 : decode cX12_addLeg 26 = .ok (.iload 7, 2) := by decide +kernel
theorem dX12_addLeg_28 : decode cX12_addLeg 28 = .ok (.iconst 2, 1) := by decide +kernel
theorem dX12_addLeg_29 : decode cX12_addLeg 29 = .ok (.iadd, 1) := by decide +kernel
theorem dX12_addLeg_30 : decode cX12_addLeg 30 = .ok (.lload 5, 2) := by decide +kernel
theorem dX12_addLeg_32 : decode cX12_addLeg 32 = .ok (.lastore, 1) := by decide +kernel
theorem dX12_addLeg_33 : decode cX12_addLeg 33 = .ok (.aload_n 0, 1) := by decide +kernel
theorem dX12_addLeg_34 : decode cX12_addLeg 34 = .ok (.iconst 1, 1) := by decide +kernel
theorem dX12_addLeg_35 : decode cX12_addLeg 35 = .ok (.dup2, 1) := by decide +kernel
theorem dX12_addLeg_36 : decode cX12_addLeg 36 = .ok (.laload, 1) := by decide +kernel
theorem dX12_addLeg_37 : decode cX12_addLeg 37 = .ok (.lconst 1, 1) := by decide +kernel
theorem dX12_addLeg_38 : decode cX12_addLeg 38 = .ok (.ladd, 1) := by decide +kernel
theorem dX12_addLeg_39 : decode cX12_addLeg 39 = .ok (.lastore, 1) := by decide +kernel
theorem dX12_addLeg_40 : decode cX12_addLeg 40 = .ok (.return_, 1) := by decide +kernel
theorem dX12_observe_0 : decode cX12_observe 0 = .ok (.aload_n 0, 1) := by decide +kernel
theorem dX12_observe_1 : decode cX12_observe 1 = .ok (.aload_n 0, 1) := by decide +kernel
theorem dX12_observe_2 : decode cX12_observe 2 = .ok (.iload_n 1, 1) := by decide +kernel
theorem dX12_observe_3 : decode cX12_observe 3 = .ok (.invokevirtual 253, 3) := by decide +kernel
theorem dX12_observe_6 : decode cX12_observe 6 = .ok (.ifCond .ne 7, 3) := by decide +kernel
theorem dX12_observe_9 : decode cX12_observe 9 = .ok (.iconst 1, 1) := by decide +kernel
theorem dX12_observe_10 : decode cX12_observe 10 = .ok (.goto 30, 3) := by decide +kernel
theorem dX12_observe_13 : decode cX12_observe 13 = .ok (.aload_n 0, 1) := by decide +kernel
theorem dX12_observe_14 : decode cX12_observe 14 = .ok (.iload_n 2, 1) := by decide +kernel
theorem dX12_observe_15 : decode cX12_observe 15 = .ok (.invokevirtual 262, 3) := by decide +kernel
theorem dX12_observe_18 : decode cX12_observe 18 = .ok (.ifCond .eq 21, 3) := by decide +kernel
theorem dX12_observe_21 : decode cX12_observe 21 = .ok (.iload_n 3, 1) := by decide +kernel
theorem dX12_observe_22 : decode cX12_observe 22 = .ok (.i2l, 1) := by decide +kernel
theorem dX12_observe_23 : decode cX12_observe 23 = .ok (.ldc2_w 303, 3) := by decide +kernel
theorem dX12_observe_26 : decode cX12_observe 26 = .ok (.ldc2_w 305, 3) := by decide +kernel
theorem dX12_observe_29 : decode cX12_observe 29 = .ok (.invokestatic 243, 3) := by decide +kernel
theorem dX12_observe_32 : decode cX12_observe 32 = .ok (.ifCond .eq 7, 3) := by decide +kernel
theorem dX12_observe_35 : decode cX12_observe 35 = .ok (.iconst 0, 1) := by decide +kernel
theorem dX12_observe_36 : decode cX12_observe 36 = .ok (.goto 4, 3) := by decide +kernel
theorem dX12_observe_39 : decode cX12_observe 39 = .ok (.iconst 2, 1) := by decide +kernel
theorem dX12_observe_40 : decode cX12_observe 40 = .ok (.putfield 74, 3) := by decide +kernel
theorem dX12_observe_43 : decode cX12_observe 43 = .ok (.aload_n 0, 1) := by decide +kernel
theorem dX12_observe_44 : decode cX12_observe 44 = .ok (.getfield 74, 3) := by decide +kernel
theorem dX12_observe_47 : decode cX12_observe 47 = .ok (.ifCond .eq 5, 3) := by decide +kernel
theorem dX12_observe_50 : decode cX12_observe 50 = .ok (.iconst 0, 1) := by decide +kernel
theorem dX12_observe_51 : decode cX12_observe 51 = .ok (.ireturn, 1) := by decide +kernel
theorem dX12_observe_52 : decode cX12_observe 52 = .ok (.aload_n 0, 1) := by decide +kernel
theorem dX12_observe_53 : decode cX12_observe 53 = .ok (.getfield 9, 3) := by decide +kernel
theorem dX12_observe_56 : decode cX12_observe 56 = .ok (.iconst 2, 1) := by decide +kernel
theorem dX12_observe_57 : decode cX12_observe 57 = .ok (.laload, 1) := by decide +kernel
theorem dX12_observe_58 : decode cX12_observe 58 = .ok (.ldc2_w 307, 3) := by decide +kernel
theorem dX12_observe_61 : decode cX12_observe 61 = .ok (.lcmp, 1) := by decide +kernel
theorem dX12_observe_62 : decode cX12_observe 62 = .ok (.ifCond .ne 6, 3) := by decide +kernel
theorem dX12_observe_65 : decode cX12_observe 65 = .ok (.bipush (-2), 2) := by decide +kernel
theorem dX12_observe_67 : decode cX12_observe 67 = .ok (.ireturn, 1) := by decide +kernel
theorem dX12_observe_68 : decode cX12_observe 68 = .ok (.aload_n 0, 1) := by decide +kernel
theorem dX12_observe_69 : decode cX12_observe 69 = .ok (.invokevirtual 309, 3) := by decide +kernel
theorem dX12_observe_72 : decode cX12_observe 72 = .ok (.aload_n 0, 1) := by decide +kernel
theorem dX12_observe_73 : decode cX12_observe 73 = .ok (.getfield 9, 3) := by decide +kernel
theorem dX12_observe_76 : decode cX12_observe 76 = .ok (.iload_n 1, 1) := by decide +kernel
theorem dX12_observe_77 : decode cX12_observe 77 = .ok (.i2l, 1) := by decide +kernel
theorem dX12_observe_78 : decode cX12_observe 78 = .ok (.iload_n 2, 1) := by decide +kernel
theorem dX12_observe_79 : decode cX12_observe 79 = .ok (.i2l, 1) := by decide +kernel
theorem dX12_observe_80 : decode cX12_observe 80 = .ok (.iload_n 3, 1) := by decide +kernel
theorem dX12_observe_81 : decode cX12_observe 81 = .ok (.i2l, 1) := by decide +kernel
theorem dX12_observe_82 : decode cX12_observe 82 = .ok (.invokestatic 312, 3) := by decide +kernel
theorem dX12_observe_85 : decode cX12_observe 85 = .ok (.aload_n 0, 1) := by decide +kernel
theorem dX12_observe_86 : decode cX12_observe 86 = .ok (.getfield 9, 3) := by decide +kernel
theorem dX12_observe_89 : decode cX12_observe 89 = .ok (.iconst 2, 1) := by decide +kernel
theorem dX12_observe_90 : decode cX12_observe 90 = .ok (.laload, 1) := by decide +kernel
theorem dX12_observe_91 : decode cX12_observe 91 = .ok (.l2i, 1) := by decide +kernel
theorem dX12_observe_92 : decode cX12_observe 92 = .ok (.iconst 1, 1) := by decide +kernel
theorem dX12_observe_93 : decode cX12_observe 93 = .ok (.isub, 1) := by decide +kernel
theorem dX12_observe_94 : decode cX12_observe 94 = .ok (.ireturn, 1) := by decide +kernel
theorem dX12_drop_0 : decode cX12_drop 0 = .ok (.aload_n 0, 1) := by decide +kernel
theorem dX12_drop_1 : decode cX12_drop 1 = .ok (.iconst 0, 1) := by decide +kernel
theorem dX12_drop_2 : decode cX12_drop 2 = .ok (.putfield 74, 3) := by decide +kernel
theorem dX12_drop_5 : decode cX12_drop 5 = .ok (.aload_n 0, 1) := by decide +kernel
theorem dX12_drop_6 : decode cX12_drop 6 = .ok (.iload_n 1, 1) := by decide +kernel
theorem dX12_drop_7 : decode cX12_drop 7 = .ok (.invokevirtual 265, 3) := by decide +kernel
theorem dX12_drop_10 : decode cX12_drop 10 = .ok (.ifCond .ne 9, 3) := by decide +kernel
theorem dX12_drop_13 : decode cX12_drop 13 = .ok (.aload_n 0, 1) := by decide +kernel
theorem dX12_drop_14 : decode cX12_drop 14 = .ok (.iconst 1, 1) := by decide +kernel
theorem dX12_drop_15 : decode cX12_drop 15 = .ok (.invokevirtual 247, 3) := by decide +kernel
theorem dX12_drop_18 : decode cX12_drop 18 = .ok (.ireturn, 1) := by decide +kernel
theorem dX12_drop_19 : decode cX12_drop 19 = .ok (.aload_n 0, 1) := by decide +kernel
theorem dX12_drop_20 : decode cX12_drop 20 = .ok (.invokevirtual 309, 3) := by decide +kernel
theorem dX12_drop_23 : decode cX12_drop 23 = .ok (.aload_n 0, 1) := by decide +kernel
theorem dX12_drop_24 : decode cX12_drop 24 = .ok (.getfield 9, 3) := by decide +kernel
theorem dX12_drop_27 : decode cX12_drop 27 = .ok (.iconst 2, 1) := by decide +kernel
theorem dX12_drop_28 : decode cX12_drop 28 = .ok (.dup2, 1) := by decide +kernel
theorem dX12_drop_29 : decode cX12_drop 29 = .ok (.laload, 1) := by decide +kernel
theorem dX12_drop_30 : decode cX12_drop 30 = .ok (.lconst 1, 1) := by decide +kernel
theorem dX12_drop_31 : decode cX12_drop 31 = .ok (.lsub, 1) := by decide +kernel
theorem dX12_drop_32 : decode cX12_drop 32 = .ok (.lastore, 1) := by decide +kernel
theorem dX12_drop_33 : decode cX12_drop 33 = .ok (.bipush 57, 2) := by decide +kernel
theorem dX12_drop_35 : decode cX12_drop 35 = .ok (.iconst 3, 1) := by decide +kernel
theorem dX12_drop_36 : decode cX12_drop 36 = .ok (.iload_n 1, 1) := by decide +kernel
theorem dX12_drop_37 : decode cX12_drop 37 = .ok (.imul, 1) := by decide +kernel
theorem dX12_drop_38 : decode cX12_drop 38 = .ok (.iadd, 1) := by decide +kernel
theorem dX12_drop_39 : decode cX12_drop 39 = .ok (.istore_n 2, 1) := by decide +kernel
theorem dX12_drop_40 : decode cX12_drop 40 = .ok (.iload_n 2, 1) := by decide +kernel
theorem dX12_drop_41 : decode cX12_drop 41 = .ok (.i2l, 1) := by decide +kernel
theorem dX12_drop_42 : decode cX12_drop 42 = .ok (.ldc2_w 316, 3) := by decide +kernel
theorem dX12_drop_45 : decode cX12_drop 45 = .ok (.ldc2_w 142, 3) := by decide +kernel
theorem dX12_drop_48 : decode cX12_drop 48 = .ok (.aload_n 0, 1) := by decide +kernel
theorem dX12_drop_49 : decode cX12_drop 49 = .ok (.getfield 9, 3) := by decide +kernel
theorem dX12_drop_52 : decode cX12_drop 52 = .ok (.iconst 2, 1) := by decide +kernel
theorem dX12_drop_53 : decode cX12_drop 53 = .ok (.laload, 1) := by decide +kernel
theorem dX12_drop_54 : decode cX12_drop 54 = .ok (.lmul, 1) := by decide +kernel
theorem dX12_drop_55 : decode cX12_drop 55 = .ok (.ladd, 1) := by decide +kernel
theorem dX12_drop_56 : decode cX12_drop 56 = .ok (.lcmp, 1) := by decide +kernel
theorem dX12_drop_57 : decode cX12_drop 57 = .ok (.ifCond .ge 23, 3) := by decide +kernel
theorem dX12_drop_60 : decode cX12_drop 60 = .ok (.aload_n 0, 1) := by decide +kernel
theorem dX12_drop_61 : decode cX12_drop 61 = .ok (.getfield 9, 3) := by decide +kernel
theorem dX12_drop_64 : decode cX12_drop 64 = .ok (.iload_n 2, 1) := by decide +kernel
theorem dX12_drop_65 : decode cX12_drop 65 = .ok (.aload_n 0, 1) := by decide +kernel
theorem dX12_drop_66 : decode cX12_drop 66 = .ok (.getfield 9, 3) := by decide +kernel
theorem dX12_drop_69 : decode cX12_drop 69 = .ok (.iload_n 2, 1) := by decide +kernel
theorem dX12_drop_70 : decode cX12_drop 70 = .ok (.iconst 3, 1) := by decide +kernel
theorem dX12_drop_71 : decode cX12_drop 71 = .ok (.iadd, 1) := by decide +kernel
theorem dX12_drop_72 : decode cX12_drop 72 = .ok (.laload, 1) := by decide +kernel
theorem dX12_drop_73 : decode cX12_drop 73 = .ok (.lastore, 1) := by decide +kernel
theorem dX12_drop_74 : decode cX12_drop 74 = .ok (.iinc 2 1, 3) := by decide +kernel
theorem dX12_drop_77 : decode cX12_drop 77 = .ok (.goto (-37), 3) := by decide +kernel
theorem dX12_drop_80 : decode cX12_drop 80 = .ok (.aload_n 0, 1) := by decide +kernel
theorem dX12_drop_81 : decode cX12_drop 81 = .ok (.getfield 9, 3) := by decide +kernel
theorem dX12_drop_84 : decode cX12_drop 84 = .ok (.iconst 2, 1) := by decide +kernel
theorem dX12_drop_85 : decode cX12_drop 85 = .ok (.laload, 1) := by decide +kernel
theorem dX12_drop_86 : decode cX12_drop 86 = .ok (.l2i, 1) := by decide +kernel
theorem dX12_drop_87 : decode cX12_drop 87 = .ok (.ireturn, 1) := by decide +kernel
theorem dX12_steer_0 : decode cX12_steer 0 = .ok (.aload_n 0, 1) := by decide +kernel
theorem dX12_steer_1 : decode cX12_steer 1 = .ok (.iconst 0, 1) := by decide +kernel
theorem dX12_steer_2 : decode cX12_steer 2 = .ok (.putfield 74, 3) := by decide +kernel
theorem dX12_steer_5 : decode cX12_steer 5 = .ok (.aload_n 0, 1) := by decide +kernel
theorem dX12_steer_6 : decode cX12_steer 6 = .ok (.iload_n 1, 1) := by decide +kernel
theorem dX12_steer_7 : decode cX12_steer 7 = .ok (.invokevirtual 262, 3) := by decide +kernel
theorem dX12_steer_10 : decode cX12_steer 10 = .ok (.ifCond .eq 27, 3) := by decide +kernel
theorem dX12_steer_13 : decode cX12_steer 13 = .ok (.iload_n 2, 1) := by decide +kernel
theorem dX12_steer_14 : decode cX12_steer 14 = .ok (.i2l, 1) := by decide +kernel
theorem dX12_steer_15 : decode cX12_steer 15 = .ok (.lconst 0, 1) := by decide +kernel
theorem dX12_steer_16 : decode cX12_steer 16 = .ok (.ldc2_w 318, 3) := by decide +kernel
theorem dX12_steer_19 : decode cX12_steer 19 = .ok (.invokestatic 243, 3) := by decide +kernel
theorem dX12_steer_22 : decode cX12_steer 22 = .ok (.ifCond .eq 15, 3) := by decide +kernel
theorem dX12_steer_25 : decode cX12_steer 25 = .ok (.iload_n 3, 1) := by decide +kernel
theorem dX12_steer_26 : decode cX12_steer 26 = .ok (.i2l, 1) := by decide +kernel
theorem dX12_steer_27 : decode cX12_steer 27 = .ok (.lconst 0, 1) := by decide +kernel
theorem dX12_steer_28 : decode cX12_steer 28 = .ok (.ldc2_w 320, 3) := by decide +kernel
theorem dX12_steer_31 : decode cX12_steer 31 = .ok (.invokestatic 243, 3) := by decide +kernel
theorem dX12_steer_34 : decode cX12_steer 34 = .ok (.ifCond .ne 9, 3) := by decide +kernel
theorem dX12_steer_37 : decode cX12_steer 37 = .ok (.aload_n 0, 1) := by decide +kernel
theorem dX12_steer_38 : decode cX12_steer 38 = .ok (.iconst 1, 1) := by decide +kernel
theorem dX12_steer_39 : decode cX12_steer 39 = .ok (.invokevirtual 247, 3) := by decide +kernel
theorem dX12_steer_42 : decode cX12_steer 42 = .ok (.ireturn, 1) := by decide +kernel
theorem dX12_steer_43 : decode cX12_steer 43 = .ok (.aload_n 0, 1) := by decide +kernel
theorem dX12_steer_44 : decode cX12_steer 44 = .ok (.getfield 9, 3) := by decide +kernel
theorem dX12_steer_47 : decode cX12_steer 47 = .ok (.iconst 1, 1) := by decide +kernel
theorem dX12_steer_48 : decode cX12_steer 48 = .ok (.laload, 1) := by decide +kernel
theorem dX12_steer_49 : decode cX12_steer 49 = .ok (.ldc2_w 251, 3) := by decide +kernel
theorem dX12_steer_52 : decode cX12_steer 52 = .ok (.lcmp, 1) := by decide +kernel
theorem dX12_steer_53 : decode cX12_steer 53 = .ok (.ifCond .ne 6, 3) := by decide +kernel
theorem dX12_steer_56 : decode cX12_steer 56 = .ok (.bipush (-2), 2) := by decide +kernel
theorem dX12_steer_58 : decode cX12_steer 58 = .ok (.ireturn, 1) := by decide +kernel
theorem dX12_steer_59 : decode cX12_steer 59 = .ok (.aload_n 0, 1) := by decide +kernel
theorem dX12_steer_60 : decode cX12_steer 60 = .ok (.getfield 9, 3) := by decide +kernel
theorem dX12_steer_63 : decode cX12_steer 63 = .ok (.iconst 1, 1) := by decide +kernel
theorem dX12_steer_64 : decode cX12_steer 64 = .ok (.laload, 1) := by decide +kernel
theorem dX12_steer_65 : decode cX12_steer 65 = .ok (.lconst 0, 1) := by decide +kernel
theorem dX12_steer_66 : decode cX12_steer 66 = .ok (.lcmp, 1) := by decide +kernel
theorem dX12_steer_67 : decode cX12_steer 67 = .ok (.ifCond .le 26, 3) := by decide +kernel
theorem dX12_steer_70 : decode cX12_steer 70 = .ok (.iload_n 1, 1) := by decide +kernel
theorem dX12_steer_71 : decode cX12_steer 71 = .ok (.i2l, 1) := by decide +kernel
theorem dX12_steer_72 : decode cX12_steer 72 = .ok (.aload_n 0, 1) := by decide +kernel
theorem dX12_steer_73 : decode cX12_steer 73 = .ok (.aload_n 0, 1) := by decide +kernel
theorem dX12_steer_74 : decode cX12_steer 74 = .ok (.getfield 9, 3) := by decide +kernel
theorem dX12_steer_77 : decode cX12_steer 77 = .ok (.iconst 1, 1) := by decide +kernel
theorem dX12_steer_78 : decode cX12_steer 78 = .ok (.laload, 1) := by decide +kernel
theorem dX12_steer_79 : decode cX12_steer 79 = .ok (.l2i, 1) := by decide +kernel
theorem dX12_steer_80 : decode cX12_steer 80 = .ok (.iconst 1, 1) := by decide +kernel
theorem dX12_steer_81 : decode cX12_steer 81 = .ok (.isub, 1) := by decide +kernel
theorem dX12_steer_82 : decode cX12_steer 82 = .ok (.iconst 0, 1) := by decide +kernel
theorem dX12_steer_83 : decode cX12_steer 83 = .ok (.invokevirtual 127, 3) := by decide +kernel
theorem dX12_steer_86 : decode cX12_steer 86 = .ok (.lcmp, 1) := by decide +kernel
theorem dX12_steer_87 : decode cX12_steer 87 = .ok (.ifCond .gt 6, 3) := by decide +kernel
theorem dX12_steer_90 : decode cX12_steer 90 = .ok (.bipush (-3), 2) := by decide +kernel
theorem dX12_steer_92 : decode cX12_steer 92 = .ok (.ireturn, 1) := by decide +kernel
theorem dX12_steer_93 : decode cX12_steer 93 = .ok (.aload_n 0, 1) := by decide +kernel
theorem dX12_steer_94 : decode cX12_steer 94 = .ok (.invokevirtual 309, 3) := by decide +kernel
theorem dX12_steer_97 : decode cX12_steer 97 = .ok (.aload_n 0, 1) := by decide +kernel
theorem dX12_steer_98 : decode cX12_steer 98 = .ok (.getfield 9, 3) := by decide +kernel
theorem dX12_steer_101 : decode cX12_steer 101 = .ok (.iload_n 1, 1) := by decide +kernel
theorem dX12_steer_102 : decode cX12_steer 102 = .ok (.i2l, 1) := by decide +kernel
theorem dX12_steer_103 : decode cX12_steer 103 = .ok (.iload_n 2, 1) := by decide +kernel
theorem dX12_steer_104 : decode cX12_steer 104 = .ok (.i2l, 1) := by decide +kernel
theorem dX12_steer_105 : decode cX12_steer 105 = .ok (.iload_n 3, 1) := by decide +kernel
theorem dX12_steer_106 : decode cX12_steer 106 = .ok (.i2l, 1) := by decide +kernel
theorem dX12_steer_107 : decode cX12_steer 107 = .ok (.invokestatic 322, 3) := by decide +kernel
theorem dX12_steer_110 : decode cX12_steer 110 = .ok (.aload_n 0, 1) := by decide +kernel
theorem dX12_steer_111 : decode cX12_steer 111 = .ok (.getfield 9, 3) := by decide +kernel
theorem dX12_steer_114 : decode cX12_steer 114 = .ok (.iconst 1, 1) := by decide +kernel
theorem dX12_steer_115 : decode cX12_steer 115 = .ok (.laload, 1) := by decide +kernel
theorem dX12_steer_116 : decode cX12_steer 116 = .ok (.l2i, 1) := by decide +kernel
theorem dX12_steer_117 : decode cX12_steer 117 = .ok (.iconst 1, 1) := by decide +kernel
theorem dX12_steer_118 : decode cX12_steer 118 = .ok (.isub, 1) := by decide +kernel
theorem dX12_steer_119 : decode cX12_steer 119 = .ok (.ireturn, 1) := by decide +kernel
theorem dX12_setCurrent_0 : decode cX12_setCurrent 0 = .ok (.aload_n 0, 1) := by decide +kernel
theorem dX12_setCurrent_1 : decode cX12_setCurrent 1 = .ok (.iconst 0, 1) := by decide +kernel
theorem dX12_setCurrent_2 : decode cX12_setCurrent 2 = .ok (.putfield 74, 3) := by decide +kernel
theorem dX12_setCurrent_5 : decode cX12_setCurrent 5 = .ok (.iload_n 1, 1) := by decide +kernel
theorem dX12_setCurrent_6 : decode cX12_setCurrent 6 = .ok (.i2l, 1) := by decide +kernel
theorem dX12_setCurrent_7 : decode cX12_setCurrent 7 = .ok (.lconst 0, 1) := by decide +kernel
theorem dX12_setCurrent_8 : decode cX12_setCurrent 8 = .ok (.ldc2_w 318, 3) := by decide +kernel
theorem dX12_setCurrent_11 : decode cX12_setCurrent 11 = .ok (.invokestatic 243, 3) := by decide +kernel
theorem dX12_setCurrent_14 : decode cX12_setCurrent 14 = .ok (.ifCond .eq 15, 3) := by decide +kernel
theorem dX12_setCurrent_17 : decode cX12_setCurrent 17 = .ok (.iload_n 2, 1) := by decide +kernel
theorem dX12_setCurrent_18 : decode cX12_setCurrent 18 = .ok (.i2l, 1) := by decide +kernel
theorem dX12_setCurrent_19 : decode cX12_setCurrent 19 = .ok (.lconst 0, 1) := by decide +kernel
theorem dX12_setCurrent_20 : decode cX12_setCurrent 20 = .ok (.ldc2_w 135, 3) := by decide +kernel
theorem dX12_setCurrent_23 : decode cX12_setCurrent 23 = .ok (.invokestatic 243, 3) := by decide +kernel
theorem dX12_setCurrent_26 : decode cX12_setCurrent 26 = .ok (.ifCond .ne 9, 3) := by decide +kernel
theorem dX12_setCurrent_29 : decode cX12_setCurrent 29 = .ok (.aload_n 0, 1) := by decide +kernel
theorem dX12_setCurrent_30 : decode cX12_setCurrent 30 = .ok (.iconst 1, 1) := by decide +kernel
theorem dX12_setCurrent_31 : decode cX12_setCurrent 31 = .ok (.invokevirtual 247, 3) := by decide +kernel
theorem dX12_setCurrent_34 : decode cX12_setCurrent 34 = .ok (.ireturn, 1) := by decide +kernel
theorem dX12_setCurrent_35 : decode cX12_setCurrent 35 = .ok (.aload_n 0, 1) := by decide +kernel
theorem dX12_setCurrent_36 : decode cX12_setCurrent 36 = .ok (.invokevirtual 309, 3) := by decide +kernel
theorem dX12_setCurrent_39 : decode cX12_setCurrent 39 = .ok (.aload_n 0, 1) := by decide +kernel
theorem dX12_setCurrent_40 : decode cX12_setCurrent 40 = .ok (.getfield 9, 3) := by decide +kernel
theorem dX12_setCurrent_43 : decode cX12_setCurrent 43 = .ok (.bipush 8, 2) := by decide +kernel
theorem dX12_setCurrent_45 : decode cX12_setCurrent 45 = .ok (.laload, 1) := by decide +kernel
theorem dX12_setCurrent_46 : decode cX12_setCurrent 46 = .ok (.l2i, 1) := by decide +kernel
theorem dX12_setCurrent_47 : decode cX12_setCurrent 47 = .ok (.istore_n 3, 1) := by decide +kernel
theorem dX12_setCurrent_48 : decode cX12_setCurrent 48 = .ok (.aload_n 0, 1) := by decide +kernel
theorem dX12_setCurrent_49 : decode cX12_setCurrent 49 = .ok (.getfield 9, 3) := by decide +kernel
theorem dX12_setCurrent_52 : decode cX12_setCurrent 52 = .ok (.bipush 7, 2) := by decide +kernel
theorem dX12_setCurrent_54 : decode cX12_setCurrent 54 = .ok (.iload_n 1, 1) := by decide +kernel
theorem dX12_setCurrent_55 : decode cX12_setCurrent 55 = .ok (.i2l, 1) := by decide +kernel
theorem dX12_setCurrent_56 : decode cX12_setCurrent 56 = .ok (.lastore, 1) := by decide +kernel
theorem dX12_setCurrent_57 : decode cX12_setCurrent 57 = .ok (.aload_n 0, 1) := by decide +kernel
theorem dX12_setCurrent_58 : decode cX12_setCurrent 58 = .ok (.getfield 9, 3) := by decide +kernel
theorem dX12_setCurrent_61 : decode cX12_setCurrent 61 = .ok (.bipush 8, 2) := by decide +kernel
theorem dX12_setCurrent_63 : decode cX12_setCurrent 63 = .ok (.iload_n 2, 1) := by decide +kernel
theorem dX12_setCurrent_64 : decode cX12_setCurrent 64 = .ok (.i2l, 1) := by decide +kernel
theorem dX12_setCurrent_65 : decode cX12_setCurrent 65 = .ok (.lastore, 1) := by decide +kernel
theorem dX12_setCurrent_66 : decode cX12_setCurrent 66 = .ok (.iload_n 3, 1) := by decide +kernel
theorem dX12_setCurrent_67 : decode cX12_setCurrent 67 = .ok (.ireturn, 1) := by decide +kernel
theorem dX12_correct_0 : decode cX12_correct 0 = .ok (.aload_n 0, 1) := by decide +kernel
theorem dX12_correct_1 : decode cX12_correct 1 = .ok (.iconst 0, 1) := by decide +kernel
theorem dX12_correct_2 : decode cX12_correct 2 = .ok (.putfield 74, 3) := by decide +kernel
theorem dX12_correct_5 : decode cX12_correct 5 = .ok (.iload_n 1, 1) := by decide +kernel
theorem dX12_correct_6 : decode cX12_correct 6 = .ok (.i2l, 1) := by decide +kernel
theorem dX12_correct_7 : decode cX12_correct 7 = .ok (.lconst 0, 1) := by decide +kernel
theorem dX12_correct_8 : decode cX12_correct 8 = .ok (.ldc2_w 325, 3) := by decide +kernel
theorem dX12_correct_11 : decode cX12_correct 11 = .ok (.invokestatic 243, 3) := by decide +kernel
theorem dX12_correct_14 : decode cX12_correct 14 = .ok (.ifCond .eq 17, 3) := by decide +kernel
theorem dX12_correct_17 : decode cX12_correct 17 = .ok (.iload_n 2, 1) := by decide +kernel
theorem dX12_correct_18 : decode cX12_correct 18 = .ok (.i2l, 1) := by decide +kernel
theorem dX12_correct_19 : decode cX12_correct 19 = .ok (.ldc2_w 327, 3) := by decide +kernel
theorem dX12_correct_22 : decode cX12_correct 22 = .ok (.ldc2_w 329, 3) := by decide +kernel
theorem dX12_correct_25 : decode cX12_correct 25 = .ok (.invokestatic 243, 3) := by decide +kernel
theorem dX12_correct_28 : decode cX12_correct 28 = .ok (.ifCond .ne 9, 3) := by decide +kernel
theorem dX12_correct_31 : decode cX12_correct 31 = .ok (.aload_n 0, 1) := by decide +kernel
theorem dX12_correct_32 : decode cX12_correct 32 = .ok (.iconst 1, 1) := by decide +kernel
theorem dX12_correct_33 : decode cX12_correct 33 = .ok (.invokevirtual 247, 3) := by decide +kernel
theorem dX12_correct_36 : decode cX12_correct 36 = .ok (.ireturn, 1) := by decide +kernel
theorem dX12_correct_37 : decode cX12_correct 37 = .ok (.aload_n 0, 1) := by decide +kernel
theorem dX12_correct_38 : decode cX12_correct 38 = .ok (.invokevirtual 309, 3) := by decide +kernel
theorem dX12_correct_41 : decode cX12_correct 41 = .ok (.aload_n 0, 1) := by decide +kernel
theorem dX12_correct_42 : decode cX12_correct 42 = .ok (.getfield 9, 3) := by decide +kernel
theorem dX12_correct_45 : decode cX12_correct 45 = .ok (.iconst 5, 1) := by decide +kernel
theorem dX12_correct_46 : decode cX12_correct 46 = .ok (.iload_n 1, 1) := by decide +kernel
theorem dX12_correct_47 : decode cX12_correct 47 = .ok (.i2l, 1) := by decide +kernel
theorem dX12_correct_48 : decode cX12_correct 48 = .ok (.lastore, 1) := by decide +kernel
theorem dX12_correct_49 : decode cX12_correct 49 = .ok (.aload_n 0, 1) := by decide +kernel
theorem dX12_correct_50 : decode cX12_correct 50 = .ok (.getfield 9, 3) := by decide +kernel
theorem dX12_correct_53 : decode cX12_correct 53 = .ok (.bipush 6, 2) := by decide +kernel
theorem dX12_correct_55 : decode cX12_correct 55 = .ok (.iload_n 2, 1) := by decide +kernel
theorem dX12_correct_56 : decode cX12_correct 56 = .ok (.i2l, 1) := by decide +kernel
theorem dX12_correct_57 : decode cX12_correct 57 = .ok (.lastore, 1) := by decide +kernel
theorem dX12_correct_58 : decode cX12_correct 58 = .ok (.aload_n 0, 1) := by decide +kernel
theorem dX12_correct_59 : decode cX12_correct 59 = .ok (.invokevirtual 150, 3) := by decide +kernel
theorem dX12_correct_62 : decode cX12_correct 62 = .ok (.l2i, 1) := by decide +kernel
theorem dX12_correct_63 : decode cX12_correct 63 = .ok (.ireturn, 1) := by decide +kernel
theorem dX12_write_0 : decode cX12_write 0 = .ok (.aload_n 0, 1) := by decide +kernel
theorem dX12_write_1 : decode cX12_write 1 = .ok (.getfield 37, 3) := by decide +kernel
theorem dX12_write_4 : decode cX12_write 4 = .ok (.aload_n 0, 1) := by decide +kernel
theorem dX12_write_5 : decode cX12_write 5 = .ok (.getfield 331, 3) := by decide +kernel
theorem dX12_write_8 : decode cX12_write 8 = .ok (.iload_n 1, 1) := by decide +kernel
theorem dX12_write_9 : decode cX12_write 9 = .ok (.iastore, 1) := by decide +kernel
theorem dX12_write_10 : decode cX12_write 10 = .ok (.aload_n 0, 1) := by decide +kernel
theorem dX12_write_11 : decode cX12_write 11 = .ok (.dup, 1) := by decide +kernel
theorem dX12_write_12 : decode cX12_write 12 = .ok (.getfield 331, 3) := by decide +kernel
theorem dX12_write_15 : decode cX12_write 15 = .ok (.iconst 1, 1) := by decide +kernel
theorem dX12_write_16 : decode cX12_write 16 = .ok (.iadd, 1) := by decide +kernel
theorem dX12_write_17 : decode cX12_write 17 = .ok (.putfield 331, 3) := by decide +kernel
theorem dX12_write_20 : decode cX12_write 20 = .ok (.return_, 1) := by decide +kernel
theorem dX12_writeNumber_0 : decode cX12_writeNumber 0 = .ok (.lload_n 1, 1) := by decide +kernel
theorem dX12_writeNumber_1 : decode cX12_writeNumber 1 = .ok (.ldc2_w 334, 3) := by decide +kernel
theorem dX12_writeNumber_4 : decode cX12_writeNumber 4 = .ok (.lcmp, 1) := by decide +kernel
theorem dX12_writeNumber_5 : decode cX12_writeNumber 5 = .ok (.ifCond .le 12, 3) := by decide +kernel
theorem dX12_writeNumber_8 : decode cX12_writeNumber 8 = .ok (.aload_n 0, 1) := by decide +kernel
theorem dX12_writeNumber_9 : decode cX12_writeNumber 9 = .ok (.lload_n 1, 1) := by decide +kernel
theorem dX12_writeNumber_10 : decode cX12_writeNumber 10 = .ok (.ldc2_w 336, 3) := by decide +kernel
theorem dX12_writeNumber_13 : decode cX12_writeNumber 13 = .ok (.ldiv, 1) := by decide +kernel
theorem dX12_writeNumber_14 : decode cX12_writeNumber 14 = .ok (.invokevirtual 338, 3) := by decide +kernel
theorem dX12_writeNumber_17 : decode cX12_writeNumber 17 = .ok (.aload_n 0, 1) := by decide +kernel
theorem dX12_writeNumber_18 : decode cX12_writeNumber 18 = .ok (.bipush 48, 2) := by decide +kernel
theorem dX12_writeNumber_20 : decode cX12_writeNumber 20 = .ok (.lload_n 1, 1) := by decide +kernel
theorem dX12_writeNumber_21 : decode cX12_writeNumber 21 = .ok (.ldc2_w 336, 3) := by decide +kernel
theorem dX12_writeNumber_24 : decode cX12_writeNumber 24 = .ok (.lrem, 1) := by decide +kernel
theorem dX12_writeNumber_25 : decode cX12_writeNumber 25 = .ok (.l2i, 1) := by decide +kernel
theorem dX12_writeNumber_26 : decode cX12_writeNumber 26 = .ok (.iadd, 1) := by decide +kernel
theorem dX12_writeNumber_27 : decode cX12_writeNumber 27 = .ok (.invokevirtual 341, 3) := by decide +kernel
theorem dX12_writeNumber_30 : decode cX12_writeNumber 30 = .ok (.return_, 1) := by decide +kernel
theorem dX12_writeName_0 : decode cX12_writeName 0 = .ok (.lload_n 1, 1) := by decide +kernel
theorem dX12_writeName_1 : decode cX12_writeName 1 = .ok (.ldc2_w 344, 3) := by decide +kernel
theorem dX12_writeName_4 : decode cX12_writeName 4 = .ok (.lcmp, 1) := by decide +kernel
theorem dX12_writeName_5 : decode cX12_writeName 5 = .ok (.ifCond .le 12, 3) := by decide +kernel
theorem dX12_writeName_8 : decode cX12_writeName 8 = .ok (.aload_n 0, 1) := by decide +kernel
theorem dX12_writeName_9 : decode cX12_writeName 9 = .ok (.lload_n 1, 1) := by decide +kernel
theorem dX12_writeName_10 : decode cX12_writeName 10 = .ok (.ldc2_w 346, 3) := by decide +kernel
theorem dX12_writeName_13 : decode cX12_writeName 13 = .ok (.ldiv, 1) := by decide +kernel
theorem dX12_writeName_14 : decode cX12_writeName 14 = .ok (.invokevirtual 348, 3) := by decide +kernel
theorem dX12_writeName_17 : decode cX12_writeName 17 = .ok (.aload_n 0, 1) := by decide +kernel
theorem dX12_writeName_18 : decode cX12_writeName 18 = .ok (.bipush 97, 2) := by decide +kernel
theorem dX12_writeName_20 : decode cX12_writeName 20 = .ok (.lload_n 1, 1) := by decide +kernel
theorem dX12_writeName_21 : decode cX12_writeName 21 = .ok (.ldc2_w 346, 3) := by decide +kernel
theorem dX12_writeName_24 : decode cX12_writeName 24 = .ok (.lrem, 1) := by decide +kernel
theorem dX12_writeName_25 : decode cX12_writeName 25 = .ok (.l2i, 1) := by decide +kernel
theorem dX12_writeName_26 : decode cX12_writeName 26 = .ok (.iadd, 1) := by decide +kernel
theorem dX12_writeName_27 : decode cX12_writeName 27 = .ok (.iconst 1, 1) := by decide +kernel
theorem dX12_writeName_28 : decode cX12_writeName 28 = .ok (.isub, 1) := by decide +kernel
theorem dX12_writeName_29 : decode cX12_writeName 29 = .ok (.invokevirtual 341, 3) := by decide +kernel
theorem dX12_writeName_32 : decode cX12_writeName 32 = .ok (.return_, 1) := by decide +kernel
theorem dX12_format_0 : decode cX12_format 0 = .ok (.aload_n 0, 1) := by decide +kernel
theorem dX12_format_1 : decode cX12_format 1 = .ok (.iconst 0, 1) := by decide +kernel
theorem dX12_format_2 : decode cX12_format 2 = .ok (.putfield 74, 3) := by decide +kernel
theorem dX12_format_5 : decode cX12_format 5 = .ok (.aload_n 0, 1) := by decide +kernel
theorem dX12_format_6 : decode cX12_format 6 = .ok (.iload_n 1, 1) := by decide +kernel
theorem dX12_format_7 : decode cX12_format 7 = .ok (.invokevirtual 265, 3) := by decide +kernel
theorem dX12_format_10 : decode cX12_format 10 = .ok (.ifCond .ne 9, 3) := by decide +kernel
theorem dX12_format_13 : decode cX12_format 13 = .ok (.aload_n 0, 1) := by decide +kernel
theorem dX12_format_14 : decode cX12_format 14 = .ok (.iconst 1, 1) := by decide +kernel
theorem dX12_format_15 : decode cX12_format 15 = .ok (.invokevirtual 247, 3) := by decide +kernel
theorem dX12_format_18 : decode cX12_format 18 = .ok (.ireturn, 1) := by decide +kernel
theorem dX12_format_19 : decode cX12_format 19 = .ok (.aload_n 0, 1) := by decide +kernel
theorem dX12_format_20 : decode cX12_format 20 = .ok (.iconst 0, 1) := by decide +kernel
theorem dX12_format_21 : decode cX12_format 21 = .ok (.putfield 331, 3) := by decide +kernel
theorem dX12_format_24 : decode cX12_format 24 = .ok (.aload_n 0, 1) := by decide +kernel
theorem dX12_format_25 : decode cX12_format 25 = .ok (.aload_n 0, 1) := by decide +kernel
theorem dX12_format_26 : decode cX12_format 26 = .ok (.aload_n 0, 1) := by decide +kernel
theorem dX12_format_27 : decode cX12_format 27 = .ok (.iload_n 1, 1) := by decide +kernel
theorem dX12_format_28 : decode cX12_format 28 = .ok (.iconst 0, 1) := by decide +kernel
theorem dX12_format_29 : decode cX12_format 29 = .ok (.invokevirtual 147, 3) := by decide +kernel
theorem dX12_format_32 : decode cX12_format 32 = .ok (.iconst 3, 1) := by decide +kernel
theorem dX12_format_33 : decode cX12_format 33 = .ok (.invokevirtual 158, 3) := by decide +kernel
theorem dX12_format_36 : decode cX12_format 36 = .ok (.invokevirtual 348, 3) := by decide +kernel
theorem dX12_format_39 : decode cX12_format 39 = .ok (.aload_n 0, 1) := by decide +kernel
theorem dX12_format_40 : decode cX12_format 40 = .ok (.bipush 32, 2) := by decide +kernel
theorem dX12_format_42 : decode cX12_format 42 = .ok (.invokevirtual 341, 3) := by decide +kernel
theorem dX12_format_45 : decode cX12_format 45 = .ok (.aload_n 0, 1) := by decide +kernel
theorem dX12_format_46 : decode cX12_format 46 = .ok (.iload_n 1, 1) := by decide +kernel
theorem dX12_format_47 : decode cX12_format 47 = .ok (.invokevirtual 181, 3) := by decide +kernel
theorem dX12_format_50 : decode cX12_format 50 = .ok (.lstore_n 2, 1) := by decide +kernel
theorem dX12_format_51 : decode cX12_format 51 = .ok (.lload_n 2, 1) := by decide +kernel
theorem dX12_format_52 : decode cX12_format 52 = .ok (.lconst 0, 1) := by decide +kernel
theorem dX12_format_53 : decode cX12_format 53 = .ok (.lcmp, 1) := by decide +kernel
theorem dX12_format_54 : decode cX12_format 54 = .ok (.ifCond .ge 9, 3) := by decide +kernel
theorem dX12_format_57 : decode cX12_format 57 = .ok (.aload_n 0, 1) := by decide +kernel
theorem dX12_format_58 : decode cX12_format 58 = .ok (.bipush 45, 2) := by decide +kernel
theorem dX12_format_60 : decode cX12_format 60 = .ok (.invokevirtual 341, 3) := by decide +kernel
theorem dX12_format_63 : decode cX12_format 63 = .ok (.lload_n 2, 1) := by decide +kernel
theorem dX12_format_64 : decode cX12_format 64 = .ok (.invokestatic 204, 3) := by decide +kernel
theorem dX12_format_67 : decode cX12_format 67 = .ok (.lstore 4, 2) := by decide +kernel
theorem dX12_format_69 : decode cX12_format 69 = .ok (.aload_n 0, 1) := by decide +kernel
theorem dX12_format_70 : decode cX12_format 70 = .ok (.lload 4, 2) := by decide +kernel
theorem dX12_format_72 : decode cX12_format 72 = .ok (.ldc2_w 329, 3) := by decide +kernel
theorem dX12_format_75 : decode cX12_format 75 = .ok (.ldiv, 1) := by decide +kernel
theorem dX12_format_76 : decode cX12_format 76 = .ok (.invokevirtual 338, 3) := by decide +kernel
theorem dX12_format_79 : decode cX12_format 79 = .ok (.aload_n 0, 1) := by decide +kernel
theorem dX12_format_80 : decode cX12_format 80 = .ok (.bipush 39, 2) := by decide +kernel
theorem dX12_format_82 : decode cX12_format 82 = .ok (.invokevirtual 341, 3) := by decide +kernel
theorem dX12_format_85 : decode cX12_format 85 = .ok (.aload_n 0, 1) := by decide +kernel
theorem dX12_format_86 : decode cX12_format 86 = .ok (.bipush 48, 2) := by decide +kernel
theorem dX12_format_88 : decode cX12_format 88 = .ok (.lload 4, 2) := by decide +kernel
theorem dX12_format_90 : decode cX12_format 90 = .ok (.ldc2_w 329, 3) := by decide +kernel
theorem dX12_format_93 : decode cX12_format 93 = .ok (.lrem, 1) := by decide +kernel
theorem dX12_format_94 : decode cX12_format 94 = .ok (.ldc2_w 336, 3) := by decide +kernel
theorem dX12_format_97 : decode cX12_format 97 = .ok (.ldiv, 1) := by decide +kernel
theorem dX12_format_98 : decode cX12_format 98 = .ok (.l2i, 1) := by decide +kernel
theorem dX12_format_99 : decode cX12_format 99 = .ok (.iadd, 1) := by decide +kernel
theorem dX12_format_100 : decode cX12_format 100 = .ok (.invokevirtual 341, 3) := by decide +kernel
theorem dX12_format_103 : decode cX12_format 103 = .ok (.aload_n 0, 1) := by decide +kernel
theorem dX12_format_104 : decode cX12_format 104 = .ok (.bipush 48, 2) := by decide +kernel
theorem dX12_format_106 : decode cX12_format 106 = .ok (.lload 4, 2) := by decide +kernel
theorem dX12_format_108 : decode cX12_format 108 = .ok (.ldc2_w 329, 3) := by decide +kernel
theorem dX12_format_111 : decode cX12_format 111 = .ok (.lrem, 1) := by decide +kernel
theorem dX12_format_112 : decode cX12_format 112 = .ok (.ldc2_w 336, 3) := by decide +kernel
theorem dX12_format_115 : decode cX12_format 115 = .ok (.lrem, 1) := by decide +kernel
theorem dX12_format_116 : decode cX12_format 116 = .ok (.l2i, 1) := by decide +kernel
theorem dX12_format_117 : decode cX12_format 117 = .ok (.iadd, 1) := by decide +kernel
theorem dX12_format_118 : decode cX12_format 118 = .ok (.invokevirtual 341, 3) := by decide +kernel
theorem dX12_format_121 : decode cX12_format 121 = .ok (.aload_n 0, 1) := by decide +kernel
theorem dX12_format_122 : decode cX12_format 122 = .ok (.bipush 32, 2) := by decide +kernel
theorem dX12_format_124 : decode cX12_format 124 = .ok (.invokevirtual 341, 3) := by decide +kernel
theorem dX12_format_127 : decode cX12_format 127 = .ok (.aload_n 0, 1) := by decide +kernel
theorem dX12_format_128 : decode cX12_format 128 = .ok (.bipush 122, 2) := by decide +kernel
theorem dX12_format_130 : decode cX12_format 130 = .ok (.invokevirtual 341, 3) := by decide +kernel
theorem dX12_format_133 : decode cX12_format 133 = .ok (.aload_n 0, 1) := by decide +kernel
theorem dX12_format_134 : decode cX12_format 134 = .ok (.aload_n 0, 1) := by decide +kernel
theorem dX12_format_135 : decode cX12_format 135 = .ok (.iload_n 1, 1) := by decide +kernel
theorem dX12_format_136 : decode cX12_format 136 = .ok (.invokevirtual 184, 3) := by decide +kernel
theorem dX12_format_139 : decode cX12_format 139 = .ok (.ldc2_w 329, 3) := by decide +kernel
theorem dX12_format_142 : decode cX12_format 142 = .ok (.ldiv, 1) := by decide +kernel
theorem dX12_format_143 : decode cX12_format 143 = .ok (.invokevirtual 338, 3) := by decide +kernel
theorem dX12_format_146 : decode cX12_format 146 = .ok (.aload_n 0, 1) := by decide +kernel
theorem dX12_format_147 : decode cX12_format 147 = .ok (.bipush 32, 2) := by decide +kernel
theorem dX12_format_149 : decode cX12_format 149 = .ok (.invokevirtual 341, 3) := by decide +kernel
theorem dX12_format_152 : decode cX12_format 152 = .ok (.aload_n 0, 1) := by decide +kernel
theorem dX12_format_153 : decode cX12_format 153 = .ok (.iload_n 1, 1) := by decide +kernel
theorem dX12_format_154 : decode cX12_format 154 = .ok (.invokevirtual 190, 3) := by decide +kernel
theorem dX12_format_157 : decode cX12_format 157 = .ok (.lstore 6, 2) := by decide +kernel
theorem dX12_format_159 : decode cX12_format 159 = .ok (.aload_n 0, 1) := by decide +kernel
theorem dX12_format_160 : decode cX12_format 160 = .ok (.lload 6, 2) := by decide +kernel
theorem dX12_format_162 : decode cX12_format 162 = .ok (.lconst 0, 1) := by decide +kernel
theorem dX12_format_163 : decode cX12_format 163 = .ok (.lcmp, 1) := by decide +kernel
theorem dX12_format_164 : decode cX12_format 164 = .ok (.ifCond .lt 8, 3) := by decide +kernel
theorem dX12_format_167 : decode cX12_format 167 = .ok (.bipush 116, 2) := by decide +kernel
theorem dX12_format_169 : decode cX12_format 169 = .ok (.goto 5, 3) := by decide +kernel
theorem dX12_format_172 : decode cX12_format 172 = .ok (.bipush 97, 2) := by decide +kernel
theorem dX12_format_174 : decode cX12_format 174 = .ok (.invokevirtual 341, 3) := by decide +kernel
theorem dX12_format_177 : decode cX12_format 177 = .ok (.aload_n 0, 1) := by decide +kernel
theorem dX12_format_178 : decode cX12_format 178 = .ok (.lload 6, 2) := by decide +kernel
theorem dX12_format_180 : decode cX12_format 180 = .ok (.invokestatic 204, 3) := by decide +kernel
theorem dX12_format_183 : decode cX12_format 183 = .ok (.invokevirtual 338, 3) := by decide +kernel
theorem dX12_format_186 : decode cX12_format 186 = .ok (.aload_n 0, 1) := by decide +kernel
theorem dX12_format_187 : decode cX12_format 187 = .ok (.getfield 331, 3) := by decide +kernel
theorem dX12_format_190 : decode cX12_format 190 = .ok (.ireturn, 1) := by decide +kernel
theorem dX12_formattedByte_0 : decode cX12_formattedByte 0 = .ok (.aload_n 0, 1) := by decide +kernel
theorem dX12_formattedByte_1 : decode cX12_formattedByte 1 = .ok (.iconst 0, 1) := by decide +kernel
theorem dX12_formattedByte_2 : decode cX12_formattedByte 2 = .ok (.putfield 74, 3) := by decide +kernel
theorem dX12_formattedByte_5 : decode cX12_formattedByte 5 = .ok (.iload_n 1, 1) := by decide +kernel
theorem dX12_formattedByte_6 : decode cX12_formattedByte 6 = .ok (.i2l, 1) := by decide +kernel
theorem dX12_formattedByte_7 : decode cX12_formattedByte 7 = .ok (.lconst 0, 1) := by decide +kernel
theorem dX12_formattedByte_8 : decode cX12_formattedByte 8 = .ok (.aload_n 0, 1) := by decide +kernel
theorem dX12_formattedByte_9 : decode cX12_formattedByte 9 = .ok (.getfield 331, 3) := by decide +kernel
theorem dX12_formattedByte_12 : decode cX12_formattedByte 12 = .ok (.i2l, 1) := by decide +kernel
theorem dX12_formattedByte_13 : decode cX12_formattedByte 13 = .ok (.lconst 1, 1) := by decide +kernel
theorem dX12_formattedByte_14 : decode cX12_formattedByte 14 = .ok (.lsub, 1) := by decide +kernel
theorem dX12_formattedByte_15 : decode cX12_formattedByte 15 = .ok (.invokestatic 243, 3) := by decide +kernel
theorem dX12_formattedByte_18 : decode cX12_formattedByte 18 = .ok (.ifCond .eq 12, 3) := by decide +kernel
theorem dX12_formattedByte_21 : decode cX12_formattedByte 21 = .ok (.aload_n 0, 1) := by decide +kernel
theorem dX12_formattedByte_22 : decode cX12_formattedByte 22 = .ok (.getfield 37, 3) := by decide +kernel
theorem dX12_formattedByte_25 : decode cX12_formattedByte 25 = .ok (.iload_n 1, 1) := by decide +kernel
theorem dX12_formattedByte_26 : decode cX12_formattedByte 26 = .ok (.iaload, 1) := by decide +kernel
theorem dX12_formattedByte_27 : decode cX12_formattedByte 27 = .ok (.goto 4, 3) := by decide +kernel
theorem dX12_formattedByte_30 : decode cX12_formattedByte 30 = .ok (.iconst (-1), 1) := by decide +kernel
theorem dX12_formattedByte_31 : decode cX12_formattedByte 31 = .ok (.ireturn, 1) := by decide +kernel
theorem dX12_copy_0 : decode cX12_copy 0 = .ok (.iconst 0, 1) := by decide +kernel
theorem dX12_copy_1 : decode cX12_copy 1 = .ok (.istore 4, 2) := by decide +kernel
theorem dX12_copy_3 : decode cX12_copy 3 = .ok (.iload 4, 2) := by decide +kernel
theorem dX12_copy_5 : decode cX12_copy 5 = .ok (.bipush 93, 2) := by decide +kernel
theorem dX12_copy_7 : decode cX12_copy 7 = .ok (.if_icmp .ge 27, 3) := by decide +kernel
theorem dX12_copy_10 : decode cX12_copy 10 = .ok (.aload_n 2, 1) := by decide +kernel
theorem dX12_copy_11 : decode cX12_copy 11 = .ok (.bipush 93, 2) := by decide +kernel
theorem dX12_copy_13 : decode cX12_copy 13 = .ok (.iload_n 3, 1) := by decide +kernel
theorem dX12_copy_14 : decode cX12_copy 14 = .ok (.imul, 1) := by decide +kernel
theorem dX12_copy_15 : decode cX12_copy 15 = .ok (.iload 4, 2) := by decide +kernel
theorem dX12_copy_17 : decode cX12_copy 17 = .ok (.iadd, 1) := by decide +kernel
theorem dX12_copy_18 : decode cX12_copy 18 = .ok (.aload_n 0, 1) := by decide +kernel
theorem dX12_copy_19 : decode cX12_copy 19 = .ok (.bipush 93, 2) := by decide +kernel
theorem dX12_copy_21 : decode cX12_copy 21 = .ok (.iload_n 1, 1) := by decide +kernel
theorem dX12_copy_22 : decode cX12_copy 22 = .ok (.imul, 1) := by decide +kernel
theorem dX12_copy_23 : decode cX12_copy 23 = .ok (.iload 4, 2) := by decide +kernel
theorem dX12_copy_25 : decode cX12_copy 25 = .ok (.iadd, 1) := by decide +kernel
theorem dX12_copy_26 : decode cX12_copy 26 = .ok (.laload, 1) := by decide +kernel
theorem dX12_copy_27 : decode cX12_copy 27 = .ok (.lastore, 1) := by decide +kernel
theorem dX12_copy_28 : decode cX12_copy 28 = .ok (.iinc 4 1, 3) := by decide +kernel
theorem dX12_copy_31 : decode cX12_copy 31 = .ok (.goto (-28), 3) := by decide +kernel
theorem dX12_copy_34 : decode cX12_copy 34 = .ok (.return_, 1) := by decide +kernel
theorem dX12_record_0 : decode cX12_record 0 = .ok (.aload_n 0, 1) := by decide +kernel
theorem dX12_record_1 : decode cX12_record 1 = .ok (.getfield 351, 3) := by decide +kernel
theorem dX12_record_4 : decode cX12_record 4 = .ok (.bipush 10, 2) := by decide +kernel
theorem dX12_record_6 : decode cX12_record 6 = .ok (.if_icmp .ne 42, 3) := by decide +kernel
theorem dX12_record_9 : decode cX12_record 9 = .ok (.iconst 1, 1) := by decide +kernel
theorem dX12_record_10 : decode cX12_record 10 = .ok (.istore_n 1, 1) := by decide +kernel
theorem dX12_record_11 : decode cX12_record 11 = .ok (.iload_n 1, 1) := by decide +kernel
theorem dX12_record_12 : decode cX12_record 12 = .ok (.bipush 10, 2) := by decide +kernel
theorem dX12_record_14 : decode cX12_record 14 = .ok (.if_icmp .ge 24, 3) := by decide +kernel
theorem dX12_record_17 : decode cX12_record 17 = .ok (.aload_n 0, 1) := by decide +kernel
theorem dX12_record_18 : decode cX12_record 18 = .ok (.getfield 19, 3) := by decide +kernel
theorem dX12_record_21 : decode cX12_record 21 = .ok (.iload_n 1, 1) := by decide +kernel
theorem dX12_record_22 : decode cX12_record 22 = .ok (.aload_n 0, 1) := by decide +kernel
theorem dX12_record_23 : decode cX12_record 23 = .ok (.getfield 19, 3) := by decide +kernel
theorem dX12_record_26 : decode cX12_record 26 = .ok (.iload_n 1, 1) := by decide +kernel
theorem dX12_record_27 : decode cX12_record 27 = .ok (.iconst 1, 1) := by decide +kernel
theorem dX12_record_28 : decode cX12_record 28 = .ok (.isub, 1) := by decide +kernel
theorem dX12_record_29 : decode cX12_record 29 = .ok (.invokestatic 354, 3) := by decide +kernel
theorem dX12_record_32 : decode cX12_record 32 = .ok (.iinc 1 1, 3) := by decide +kernel
theorem dX12_record_35 : decode cX12_record 35 = .ok (.goto (-24), 3) := by decide +kernel
theorem dX12_record_38 : decode cX12_record 38 = .ok (.aload_n 0, 1) := by decide +kernel
theorem dX12_record_39 : decode cX12_record 39 = .ok (.dup, 1) := by decide +kernel
theorem dX12_record_40 : decode cX12_record 40 = .ok (.getfield 351, 3) := by decide +kernel
theorem dX12_record_43 : decode cX12_record 43 = .ok (.iconst 1, 1) := by decide +kernel
theorem dX12_record_44 : decode cX12_record 44 = .ok (.isub, 1) := by decide +kernel
theorem dX12_record_45 : decode cX12_record 45 = .ok (.putfield 351, 3) := by decide +kernel
theorem dX12_record_48 : decode cX12_record 48 = .ok (.aload_n 0, 1) := by decide +kernel
theorem dX12_record_49 : decode cX12_record 49 = .ok (.getfield 9, 3) := by decide +kernel
theorem dX12_record_52 : decode cX12_record 52 = .ok (.iconst 0, 1) := by decide +kernel
theorem dX12_record_53 : decode cX12_record 53 = .ok (.aload_n 0, 1) := by decide +kernel
theorem dX12_record_54 : decode cX12_record 54 = .ok (.getfield 19, 3) := by decide +kernel
theorem dX12_record_57 : decode cX12_record 57 = .ok (.aload_n 0, 1) := by decide +kernel
theorem dX12_record_58 : decode cX12_record 58 = .ok (.getfield 351, 3) := by decide +kernel
theorem dX12_record_61 : decode cX12_record 61 = .ok (.invokestatic 354, 3) := by decide +kernel
theorem dX12_record_64 : decode cX12_record 64 = .ok (.aload_n 0, 1) := by decide +kernel
theorem dX12_record_65 : decode cX12_record 65 = .ok (.dup, 1) := by decide +kernel
theorem dX12_record_66 : decode cX12_record 66 = .ok (.getfield 351, 3) := by decide +kernel
theorem dX12_record_69 : decode cX12_record 69 = .ok (.iconst 1, 1) := by decide +kernel
theorem dX12_record_70 : decode cX12_record 70 = .ok (.iadd, 1) := by decide +kernel
theorem dX12_record_71 : decode cX12_record 71 = .ok (.putfield 351, 3) := by decide +kernel
theorem dX12_record_74 : decode cX12_record 74 = .ok (.return_, 1) := by decide +kernel
theorem dX12_undoCount_0 : decode cX12_undoCount 0 = .ok (.aload_n 0, 1) := by decide +kernel
theorem dX12_undoCount_1 : decode cX12_undoCount 1 = .ok (.iconst 0, 1) := by decide +kernel
theorem dX12_undoCount_2 : decode cX12_undoCount 2 = .ok (.putfield 74, 3) := by decide +kernel
theorem dX12_undoCount_5 : decode cX12_undoCount 5 = .ok (.aload_n 0, 1) := by decide +kernel
theorem dX12_undoCount_6 : decode cX12_undoCount 6 = .ok (.getfield 351, 3) := by decide +kernel
theorem dX12_undoCount_9 : decode cX12_undoCount 9 = .ok (.ireturn, 1) := by decide +kernel
theorem dX12_undo_0 : decode cX12_undo 0 = .ok (.aload_n 0, 1) := by decide +kernel
theorem dX12_undo_1 : decode cX12_undo 1 = .ok (.iconst 0, 1) := by decide +kernel
theorem dX12_undo_2 : decode cX12_undo 2 = .ok (.putfield 74, 3) := by decide +kernel
theorem dX12_undo_5 : decode cX12_undo 5 = .ok (.aload_n 0, 1) := by decide +kernel
theorem dX12_undo_6 : decode cX12_undo 6 = .ok (.getfield 351, 3) := by decide +kernel
theorem dX12_undo_9 : decode cX12_undo 9 = .ok (.ifCond .ne 5, 3) := by decide +kernel
theorem dX12_undo_12 : decode cX12_undo 12 = .ok (.iconst (-1), 1) := by decide +kernel
theorem dX12_undo_13 : decode cX12_undo 13 = .ok (.ireturn, 1) := by decide +kernel
theorem dX12_undo_14 : decode cX12_undo 14 = .ok (.aload_n 0, 1) := by decide +kernel
theorem dX12_undo_15 : decode cX12_undo 15 = .ok (.dup, 1) := by decide +kernel
theorem dX12_undo_16 : decode cX12_undo 16 = .ok (.getfield 351, 3) := by decide +kernel
theorem dX12_undo_19 : decode cX12_undo 19 = .ok (.iconst 1, 1) := by decide +kernel
theorem dX12_undo_20 : decode cX12_undo 20 = .ok (.isub, 1) := by decide +kernel
theorem dX12_undo_21 : decode cX12_undo 21 = .ok (.putfield 351, 3) := by decide +kernel
theorem dX12_undo_24 : decode cX12_undo 24 = .ok (.aload_n 0, 1) := by decide +kernel
theorem dX12_undo_25 : decode cX12_undo 25 = .ok (.getfield 19, 3) := by decide +kernel
theorem dX12_undo_28 : decode cX12_undo 28 = .ok (.aload_n 0, 1) := by decide +kernel
theorem dX12_undo_29 : decode cX12_undo 29 = .ok (.getfield 351, 3) := by decide +kernel
theorem dX12_undo_32 : decode cX12_undo 32 = .ok (.aload_n 0, 1) := by decide +kernel
theorem dX12_undo_33 : decode cX12_undo 33 = .ok (.getfield 9, 3) := by decide +kernel
theorem dX12_undo_36 : decode cX12_undo 36 = .ok (.iconst 0, 1) := by decide +kernel
theorem dX12_undo_37 : decode cX12_undo 37 = .ok (.invokestatic 354, 3) := by decide +kernel
theorem dX12_undo_40 : decode cX12_undo 40 = .ok (.aload_n 0, 1) := by decide +kernel
theorem dX12_undo_41 : decode cX12_undo 41 = .ok (.getfield 351, 3) := by decide +kernel
theorem dX12_undo_44 : decode cX12_undo 44 = .ok (.ireturn, 1) := by decide +kernel
theorem dX12_saveSnapshot_0 : decode cX12_saveSnapshot 0 = .ok (.aload_n 0, 1) := by decide +kernel
theorem dX12_saveSnapshot_1 : decode cX12_saveSnapshot 1 = .ok (.iconst 0, 1) := by decide +kernel
theorem dX12_saveSnapshot_2 : decode cX12_saveSnapshot 2 = .ok (.putfield 74, 3) := by decide +kernel
theorem dX12_saveSnapshot_5 : decode cX12_saveSnapshot 5 = .ok (.aload_n 0, 1) := by decide +kernel
theorem dX12_saveSnapshot_6 : decode cX12_saveSnapshot 6 = .ok (.getfield 9, 3) := by decide +kernel
theorem dX12_saveSnapshot_9 : decode cX12_saveSnapshot 9 = .ok (.iconst 0, 1) := by decide +kernel
theorem dX12_saveSnapshot_10 : decode cX12_saveSnapshot 10 = .ok (.aload_n 0, 1) := by decide +kernel
theorem dX12_saveSnapshot_11 : decode cX12_saveSnapshot 11 = .ok (.getfield 16, 3) := by decide +kernel
theorem dX12_saveSnapshot_14 : decode cX12_saveSnapshot 14 = .ok (.iconst 0, 1) := by decide +kernel
theorem dX12_saveSnapshot_15 : decode cX12_saveSnapshot 15 = .ok (.invokestatic 354, 3) := by decide +kernel
theorem dX12_saveSnapshot_18 : decode cX12_saveSnapshot 18 = .ok (.aload_n 0, 1) := by decide +kernel
theorem dX12_saveSnapshot_19 : decode cX12_saveSnapshot 19 = .ok (.iconst 1, 1) := by decide +kernel
theorem dX12_saveSnapshot_20 : decode cX12_saveSnapshot 20 = .ok (.putfield 358, 3) := by decide +kernel
theorem dX12_saveSnapshot_23 : decode cX12_saveSnapshot 23 = .ok (.return_, 1) := by decide +kernel
theorem dX12_restoreSnapshot_0 : decode cX12_restoreSnapshot 0 = .ok (.aload_n 0, 1) := by decide +kernel
theorem dX12_restoreSnapshot_1 : decode cX12_restoreSnapshot 1 = .ok (.iconst 0, 1) := by decide +kernel
theorem dX12_restoreSnapshot_2 : decode cX12_restoreSnapshot 2 = .ok (.putfield 74, 3) := by decide +kernel
theorem dX12_restoreSnapshot_5 : decode cX12_restoreSnapshot 5 = .ok (.aload_n 0, 1) := by decide +kernel
theorem dX12_restoreSnapshot_6 : decode cX12_restoreSnapshot 6 = .ok (.getfield 358, 3) := by decide +kernel
theorem dX12_restoreSnapshot_9 : decode cX12_restoreSnapshot 9 = .ok (.ifCond .ne 5, 3) := by decide +kernel
theorem dX12_restoreSnapshot_12 : decode cX12_restoreSnapshot 12 = .ok (.iconst 0, 1) := by decide +kernel
theorem dX12_restoreSnapshot_13 : decode cX12_restoreSnapshot 13 = .ok (.ireturn, 1) := by decide +kernel
theorem dX12_restoreSnapshot_14 : decode cX12_restoreSnapshot 14 = .ok (.aload_n 0, 1) := by decide +kernel
theorem dX12_restoreSnapshot_15 : decode cX12_restoreSnapshot 15 = .ok (.getfield 16, 3) := by decide +kernel
theorem dX12_restoreSnapshot_18 : decode cX12_restoreSnapshot 18 = .ok (.iconst 0, 1) := by decide +kernel
theorem dX12_restoreSnapshot_19 : decode cX12_restoreSnapshot 19 = .ok (.aload_n 0, 1) := by decide +kernel
theorem dX12_restoreSnapshot_20 : decode cX12_restoreSnapshot 20 = .ok (.getfield 9, 3) := by decide +kernel
theorem dX12_restoreSnapshot_23 : decode cX12_restoreSnapshot 23 = .ok (.iconst 0, 1) := by decide +kernel
theorem dX12_restoreSnapshot_24 : decode cX12_restoreSnapshot 24 = .ok (.invokestatic 354, 3) := by decide +kernel
theorem dX12_restoreSnapshot_27 : decode cX12_restoreSnapshot 27 = .ok (.aload_n 0, 1) := by decide +kernel
theorem dX12_restoreSnapshot_28 : decode cX12_restoreSnapshot 28 = .ok (.iconst 0, 1) := by decide +kernel
theorem dX12_restoreSnapshot_29 : decode cX12_restoreSnapshot 29 = .ok (.putfield 351, 3) := by decide +kernel
theorem dX12_restoreSnapshot_32 : decode cX12_restoreSnapshot 32 = .ok (.iconst 1, 1) := by decide +kernel
theorem dX12_restoreSnapshot_33 : decode cX12_restoreSnapshot 33 = .ok (.ireturn, 1) := by decide +kernel
theorem dX12_feed_0 : decode cX12_feed 0 = .ok (.aload_n 0, 1) := by decide +kernel
theorem dX12_feed_1 : decode cX12_feed 1 = .ok (.iconst 0, 1) := by decide +kernel
theorem dX12_feed_2 : decode cX12_feed 2 = .ok (.putfield 74, 3) := by decide +kernel
theorem dX12_feed_5 : decode cX12_feed 5 = .ok (.aload_n 0, 1) := by decide +kernel
theorem dX12_feed_6 : decode cX12_feed 6 = .ok (.getfield 362, 3) := by decide +kernel
theorem dX12_feed_9 : decode cX12_feed 9 = .ok (.bipush 20, 2) := by decide +kernel
theorem dX12_feed_11 : decode cX12_feed 11 = .ok (.iadd, 1) := by decide +kernel
theorem dX12_feed_12 : decode cX12_feed 12 = .ok (.sipush 700, 3) := by decide +kernel
theorem dX12_feed_15 : decode cX12_feed 15 = .ok (.if_icmp .le 5, 3) := by decide +kernel
theorem dX12_feed_18 : decode cX12_feed 18 = .ok (.iconst (-1), 1) := by decide +kernel
theorem dX12_feed_19 : decode cX12_feed 19 = .ok (.ireturn, 1) := by decide +kernel
theorem dX12_feed_20 : decode cX12_feed 20 = .ok (.iconst 0, 1) := by decide +kernel
theorem dX12_feed_21 : decode cX12_feed 21 = .ok (.istore 6, 2) := by decide +kernel
theorem dX12_feed_23 : decode cX12_feed 23 = .ok (.iload 6, 2) := by decide +kernel
theorem dX12_feed_25 : decode cX12_feed 25 = .ok (.bipush 20, 2) := by decide +kernel
theorem dX12_feed_27 : decode cX12_feed 27 = .ok (.if_icmp .ge 93, 3) := by decide +kernel
theorem dX12_feed_30 : decode cX12_feed 30 = .ok (.iload 6, 2) := by decide +kernel
theorem dX12_feed_32 : decode cX12_feed 32 = .ok (.iconst 4, 1) := by decide +kernel
theorem dX12_feed_33 : decode cX12_feed 33 = .ok (.if_icmp .ge 7, 3) := by decide +kernel
theorem dX12_feed_36 : decode cX12_feed 36 = .ok (.iload_n 1, 1) := by decide +kernel
theorem dX12_feed_37 : decode cX12_feed 37 = .ok (.goto 39, 3) := by decide +kernel
theorem dX12_feed_40 : decode cX12_feed 40 = .ok (.iload 6, 2) := by decide +kernel
theorem dX12_feed_42 : decode cX12_feed 42 = .ok (.bipush 8, 2) := by decide +kernel
theorem dX12_feed_44 : decode cX12_feed 44 = .ok (.if_icmp .ge 7, 3) := by decide +kernel
theorem dX12_feed_47 : decode cX12_feed 47 = .ok (.iload_n 2, 1) := by decide +kernel
theorem dX12_feed_48 : decode cX12_feed 48 = .ok (.goto 28, 3) := by decide +kernel
theorem dX12_feed_51 : decode cX12_feed 51 = .ok (.iload 6, 2) := by decide +kernel
theorem dX12_feed_53 : decode cX12_feed 53 = .ok (.bipush 12, 2) := by decide +kernel
theorem dX12_feed_55 : decode cX12_feed 55 = .ok (.if_icmp .ge 7, 3) := by decide +kernel
theorem dX12_feed_58 : decode cX12_feed 58 = .ok (.iload_n 3, 1) := by decide +kernel
theorem dX12_feed_59 : decode cX12_feed 59 = .ok (.goto 17, 3) := by decide +kernel
theorem dX12_feed_62 : decode cX12_feed 62 = .ok (.iload 6, 2) := by decide +kernel
theorem dX12_feed_64 : decode cX12_feed 64 = .ok (.bipush 16, 2) := by decide +kernel
theorem dX12_feed_66 : decode cX12_feed 66 = .ok (.if_icmp .ge 8, 3) := by decide +kernel
theorem dX12_feed_69 : decode cX12_feed 69 = .ok (.iload 4, 2) := by decide +kernel
theorem dX12_feed_71 : decode cX12_feed 71 = .ok (.goto 5, 3) := by decide +kernel
theorem dX12_feed_74 : decode cX12_feed 74 = .ok (.iload 5, 2) := by decide +kernel
theorem dX12_feed_76 : decode cX12_feed 76 = .ok (.istore 7, 2) := by decide +kernel
theorem dX12_feed_78 : decode cX12_feed 78 = .ok (.aload_n 0, 1) := by decide +kernel
theorem dX12_feed_79 : decode cX12_feed 79 = .ok (.getfield 41, 3) := by decide +kernel
theorem dX12_feed_82 : decode cX12_feed 82 = .ok (.aload_n 0, 1) := by decide +kernel
theorem dX12_feed_83 : decode cX12_feed 83 = .ok (.getfield 362, 3) := by decide +kernel
theorem dX12_feed_86 : decode cX12_feed 86 = .ok (.iload 7, 2) := by decide +kernel
theorem dX12_feed_88 : decode cX12_feed 88 = .ok (.bipush 24, 2) := by decide +kernel
theorem dX12_feed_90 : decode cX12_feed 90 = .ok (.bipush 8, 2) := by decide +kernel
theorem dX12_feed_92 : decode cX12_feed 92 = .ok (.iload 6, 2) := by decide +kernel
theorem dX12_feed_94 : decode cX12_feed 94 = .ok (.iconst 4, 1) := by decide +kernel
theorem dX12_feed_95 : decode cX12_feed 95 = .ok (.irem, 1) := by decide +kernel
theorem dX12_feed_96 : decode cX12_feed 96 = .ok (.imul, 1) := by decide +kernel
theorem dX12_feed_97 : decode cX12_feed 97 = .ok (.isub, 1) := by decide +kernel
theorem dX12_feed_98 : decode cX12_feed 98 = .ok (.ishr, 1) := by decide +kernel
theorem dX12_feed_99 : decode cX12_feed 99 = .ok (.sipush 255, 3) := by decide +kernel
theorem dX12_feed_102 : decode cX12_feed 102 = .ok (.iand, 1) := by decide +kernel
theorem dX12_feed_103 : decode cX12_feed 103 = .ok (.iastore, 1) := by decide +kernel
theorem dX12_feed_104 : decode cX12_feed 104 = .ok (.aload_n 0, 1) := by decide +kernel
theorem dX12_feed_105 : decode cX12_feed 105 = .ok (.dup, 1) := by decide +kernel
theorem dX12_feed_106 : decode cX12_feed 106 = .ok (.getfield 362, 3) := by decide +kernel
theorem dX12_feed_109 : decode cX12_feed 109 = .ok (.iconst 1, 1) := by decide +kernel
theorem dX12_feed_110 : decode cX12_feed 110 = .ok (.iadd, 1) := by decide +kernel
theorem dX12_feed_111 : decode cX12_feed 111 = .ok (.putfield 362, 3) := by decide +kernel
theorem dX12_feed_114 : decode cX12_feed 114 = .ok (.iinc 6 1, 3) := by decide +kernel
theorem dX12_feed_117 : decode cX12_feed 117 = .ok (.goto (-94), 3) := by decide +kernel
theorem dX12_feed_120 : decode cX12_feed 120 = .ok (.aload_n 0, 1) := by decide +kernel
theorem dX12_feed_121 : decode cX12_feed 121 = .ok (.getfield 362, 3) := by decide +kernel
theorem dX12_feed_124 : decode cX12_feed 124 = .ok (.ireturn, 1) := by decide +kernel
theorem dX12_errorPosition_0 : decode cX12_errorPosition 0 = .ok (.aload_n 0, 1) := by decide +kernel
theorem dX12_errorPosition_1 : decode cX12_errorPosition 1 = .ok (.iconst 0, 1) := by decide +kernel
theorem dX12_errorPosition_2 : decode cX12_errorPosition 2 = .ok (.putfield 74, 3) := by decide +kernel
theorem dX12_errorPosition_5 : decode cX12_errorPosition 5 = .ok (.aload_n 0, 1) := by decide +kernel
theorem dX12_errorPosition_6 : decode cX12_errorPosition 6 = .ok (.getfield 44, 3) := by decide +kernel
theorem dX12_errorPosition_9 : decode cX12_errorPosition 9 = .ok (.ireturn, 1) := by decide +kernel
theorem dX12_byteAt_0 : decode cX12_byteAt 0 = .ok (.iload_n 1, 1) := by decide +kernel
theorem dX12_byteAt_1 : decode cX12_byteAt 1 = .ok (.aload_n 0, 1) := by decide +kernel
theorem dX12_byteAt_2 : decode cX12_byteAt 2 = .ok (.getfield 365, 3) := by decide +kernel
theorem dX12_byteAt_5 : decode cX12_byteAt 5 = .ok (.if_icmp .ge 12, 3) := by decide +kernel
theorem dX12_byteAt_8 : decode cX12_byteAt 8 = .ok (.aload_n 0, 1) := by decide +kernel
theorem dX12_byteAt_9 : decode cX12_byteAt 9 = .ok (.getfield 41, 3) := by decide +kernel
theorem dX12_byteAt_12 : decode cX12_byteAt 12 = .ok (.iload_n 1, 1) := by decide +kernel
theorem dX12_byteAt_13 : decode cX12_byteAt 13 = .ok (.iaload, 1) := by decide +kernel
theorem dX12_byteAt_14 : decode cX12_byteAt 14 = .ok (.goto 4, 3) := by decide +kernel
theorem dX12_byteAt_17 : decode cX12_byteAt 17 = .ok (.iconst (-1), 1) := by decide +kernel
theorem dX12_byteAt_18 : decode cX12_byteAt 18 = .ok (.ireturn, 1) := by decide +kernel
theorem dX12_isLetter_0 : decode cX12_isLetter 0 = .ok (.aload_n 0, 1) := by decide +kernel
theorem dX12_isLetter_1 : decode cX12_isLetter 1 = .ok (.iload_n 1, 1) := by decide +kernel
theorem dX12_isLetter_2 : decode cX12_isLetter 2 = .ok (.invokevirtual 368, 3) := by decide +kernel
theorem dX12_isLetter_5 : decode cX12_isLetter 5 = .ok (.bipush 97, 2) := by decide +kernel
theorem dX12_isLetter_7 : decode cX12_isLetter 7 = .ok (.if_icmp .lt 17, 3) := by decide +kernel
theorem dX12_isLetter_10 : decode cX12_isLetter 10 = .ok (.aload_n 0, 1) := by decide +kernel
theorem dX12_isLetter_11 : decode cX12_isLetter 11 = .ok (.iload_n 1, 1) := by decide +kernel
theorem dX12_isLetter_12 : decode cX12_isLetter 12 = .ok (.invokevirtual 368, 3) := by decide +kernel
theorem dX12_isLetter_15 : decode cX12_isLetter 15 = .ok (.bipush 122, 2) := by decide +kernel
theorem dX12_isLetter_17 : decode cX12_isLetter 17 = .ok (.if_icmp .gt 7, 3) := by decide +kernel
theorem dX12_isLetter_20 : decode cX12_isLetter 20 = .ok (.iconst 1, 1) := by decide +kernel
theorem dX12_isLetter_21 : decode cX12_isLetter 21 = .ok (.goto 4, 3) := by decide +kernel
theorem dX12_isLetter_24 : decode cX12_isLetter 24 = .ok (.iconst 0, 1) := by decide +kernel
theorem dX12_isLetter_25 : decode cX12_isLetter 25 = .ok (.ireturn, 1) := by decide +kernel
theorem dX12_isDigit_0 : decode cX12_isDigit 0 = .ok (.aload_n 0, 1) := by decide +kernel
theorem dX12_isDigit_1 : decode cX12_isDigit 1 = .ok (.iload_n 1, 1) := by decide +kernel
theorem dX12_isDigit_2 : decode cX12_isDigit 2 = .ok (.invokevirtual 368, 3) := by decide +kernel
theorem dX12_isDigit_5 : decode cX12_isDigit 5 = .ok (.bipush 48, 2) := by decide +kernel
theorem dX12_isDigit_7 : decode cX12_isDigit 7 = .ok (.if_icmp .lt 17, 3) := by decide +kernel
theorem dX12_isDigit_10 : decode cX12_isDigit 10 = .ok (.aload_n 0, 1) := by decide +kernel
theorem dX12_isDigit_11 : decode cX12_isDigit 11 = .ok (.iload_n 1, 1) := by decide +kernel
theorem dX12_isDigit_12 : decode cX12_isDigit 12 = .ok (.invokevirtual 368, 3) := by decide +kernel
theorem dX12_isDigit_15 : decode cX12_isDigit 15 = .ok (.bipush 57, 2) := by decide +kernel
theorem dX12_isDigit_17 : decode cX12_isDigit 17 = .ok (.if_icmp .gt 7, 3) := by decide +kernel
theorem dX12_isDigit_20 : decode cX12_isDigit 20 = .ok (.iconst 1, 1) := by decide +kernel
theorem dX12_isDigit_21 : decode cX12_isDigit 21 = .ok (.goto 4, 3) := by decide +kernel
theorem dX12_isDigit_24 : decode cX12_isDigit 24 = .ok (.iconst 0, 1) := by decide +kernel
theorem dX12_isDigit_25 : decode cX12_isDigit 25 = .ok (.ireturn, 1) := by decide +kernel
theorem dX12_scan_0 : decode cX12_scan 0 = .ok (.aload_n 0, 1) := by decide +kernel
theorem dX12_scan_1 : decode cX12_scan 1 = .ok (.aload_n 0, 1) := by decide +kernel
theorem dX12_scan_2 : decode cX12_scan 2 = .ok (.getfield 371, 3) := by decide +kernel
theorem dX12_scan_5 : decode cX12_scan 5 = .ok (.invokevirtual 368, 3) := by decide +kernel
theorem dX12_scan_8 : decode cX12_scan 8 = .ok (.bipush 32, 2) := by decide +kernel
theorem dX12_scan_10 : decode cX12_scan 10 = .ok (.if_icmp .eq 16, 3) := by decide +kernel
theorem dX12_scan_13 : decode cX12_scan 13 = .ok (.aload_n 0, 1) := by decide +kernel
theorem dX12_scan_14 : decode cX12_scan 14 = .ok (.aload_n 0, 1) := by decide +kernel
theorem dX12_scan_15 : decode cX12_scan 15 = .ok (.getfield 371, 3) := by decide +kernel
theorem dX12_scan_18 : decode cX12_scan 18 = .ok (.invokevirtual 368, 3) := by decide +kernel
theorem dX12_scan_21 : decode cX12_scan 21 = .ok (.bipush 10, 2) := by decide +kernel
theorem dX12_scan_23 : decode cX12_scan 23 = .ok (.if_icmp .ne 16, 3) := by decide +kernel
theorem dX12_scan_26 : decode cX12_scan 26 = .ok (.aload_n 0, 1) := by decide +kernel
theorem dX12_scan_27 : decode cX12_scan 27 = .ok (.dup, 1) := by decide +kernel
theorem dX12_scan_28 : decode cX12_scan 28 = .ok (.getfield 371, 3) := by decide +kernel
theorem dX12_scan_31 : decode cX12_scan 31 = .ok (.iconst 1, 1) := by decide +kernel
theorem dX12_scan_32 : decode cX12_scan 32 = .ok (.iadd, 1) := by decide +kernel
theorem dX12_scan_33 : decode cX12_scan 33 = .ok (.putfield 371, 3) := by decide +kernel
theorem dX12_scan_36 : decode cX12_scan 36 = .ok (.goto (-36), 3) := by decide +kernel
theorem dX12_scan_39 : decode cX12_scan 39 = .ok (.aload_n 0, 1) := by decide +kernel
theorem dX12_scan_40 : decode cX12_scan 40 = .ok (.aload_n 0, 1) := by decide +kernel
theorem dX12_scan_41 : decode cX12_scan 41 = .ok (.getfield 371, 3) := by decide +kernel
theorem dX12_scan_44 : decode cX12_scan 44 = .ok (.putfield 374, 3) := by decide +kernel
theorem dX12_scan_47 : decode cX12_scan 47 = .ok (.aload_n 0, 1) := by decide +kernel
theorem dX12_scan_48 : decode cX12_scan 48 = .ok (.getfield 371, 3) := by decide +kernel
theorem dX12_scan_51 : decode cX12_scan 51 = .ok (.aload_n 0, 1) := by decide +kernel
theorem dX12_scan_52 : decode cX12_scan 52 = .ok (.getfield 365, 3) := by decide +kernel
theorem dX12_scan_55 : decode cX12_scan 55 = .ok (.if_icmp .lt 11, 3) := by decide +kernel
theorem dX12_scan_58 : decode cX12_scan 58 = .ok (.aload_n 0, 1) := by decide +kernel
theorem dX12_scan_59 : decode cX12_scan 59 = .ok (.iconst 0, 1) := by decide +kernel
theorem dX12_scan_60 : decode cX12_scan 60 = .ok (.putfield 377, 3) := by decide +kernel
theorem dX12_scan_63 : decode cX12_scan 63 = .ok (.goto 104, 3) := by decide +kernel
theorem dX12_scan_66 : decode cX12_scan 66 = .ok (.aload_n 0, 1) := by decide +kernel
theorem dX12_scan_67 : decode cX12_scan 67 = .ok (.aload_n 0, 1) := by decide +kernel
theorem dX12_scan_68 : decode cX12_scan 68 = .ok (.getfield 371, 3) := by decide +kernel
theorem dX12_scan_71 : decode cX12_scan 71 = .ok (.invokevirtual 380, 3) := by decide +kernel
theorem dX12_scan_74 : decode cX12_scan 74 = .ok (.ifCond .eq 35, 3) := by decide +kernel
theorem dX12_scan_77 : decode cX12_scan 77 = .ok (.aload_n 0, 1) := by decide +kernel
theorem dX12_scan_78 : decode cX12_scan 78 = .ok (.aload_n 0, 1) := by decide +kernel
theorem dX12_scan_79 : decode cX12_scan 79 = .ok (.getfield 371, 3) := by decide +kernel
theorem dX12_scan_82 : decode cX12_scan 82 = .ok (.invokevirtual 380, 3) := by decide +kernel
theorem dX12_scan_85 : decode cX12_scan 85 = .ok (.ifCond .eq 16, 3) := by decide +kernel
theorem dX12_scan_88 : decode cX12_scan 88 = .ok (.aload_n 0, 1) := by decide +kernel
theorem dX12_scan_89 : decode cX12_scan 89 = .ok (.dup, 1) := by decide +kernel
theorem dX12_scan_90 : decode cX12_scan 90 = .ok (.getfield 371, 3) := by decide +kernel
theorem dX12_scan_93 : decode cX12_scan 93 = .ok (.iconst 1, 1) := by decide +kernel
theorem dX12_scan_94 : decode cX12_scan 94 = .ok (.iadd, 1) := by decide +kernel
theorem dX12_scan_95 : decode cX12_scan 95 = .ok (.putfield 371, 3) := by decide +kernel
theorem dX12_scan_98 : decode cX12_scan 98 = .ok (.goto (-21), 3) := by decide +kernel
theorem dX12_scan_101 : decode cX12_scan 101 = .ok (.aload_n 0, 1) := by decide +kernel
theorem dX12_scan_102 : decode cX12_scan 102 = .ok (.iconst 1, 1) := by decide +kernel
theorem dX12_scan_103 : decode cX12_scan 103 = .ok (.putfield 377, 3) := by decide +kernel
theorem dX12_scan_106 : decode cX12_scan 106 = .ok (.goto 61, 3) := by decide +kernel
theorem dX12_scan_109 : decode cX12_scan 109 = .ok (.aload_n 0, 1) := by decide +kernel
theorem dX12_scan_110 : decode cX12_scan 110 = .ok (.aload_n 0, 1) := by decide +kernel
theorem dX12_scan_111 : decode cX12_scan 111 = .ok (.getfield 371, 3) := by decide +kernel
theorem dX12_scan_114 : decode cX12_scan 114 = .ok (.invokevirtual 383, 3) := by decide +kernel
theorem dX12_scan_117 : decode cX12_scan 117 = .ok (.ifCond .eq 35, 3) := by decide +kernel
theorem dX12_scan_120 : decode cX12_scan 120 = .ok (.aload_n 0, 1) := by decide +kernel
theorem dX12_scan_121 : decode cX12_scan 121 = .ok (.aload_n 0, 1) := by decide +kernel
theorem dX12_scan_122 : decode cX12_scan 122 = .ok (.getfield 371, 3) := by decide +kernel
theorem dX12_scan_125 : decode cX12_scan 125 = .ok (.invokevirtual 383, 3) := by decide +kernel
theorem dX12_scan_128 : decode cX12_scan 128 = .ok (.ifCond .eq 16, 3) := by decide +kernel
theorem dX12_scan_131 : decode cX12_scan 131 = .ok (.aload_n 0, 1) := by decide +kernel
theorem dX12_scan_132 : decode cX12_scan 132 = .ok (.dup, 1) := by decide +kernel
theorem dX12_scan_133 : decode cX12_scan 133 = .ok (.getfield 371, 3) := by decide +kernel
theorem dX12_scan_136 : decode cX12_scan 136 = .ok (.iconst 1, 1) := by decide +kernel
theorem dX12_scan_137 : decode cX12_scan 137 = .ok (.iadd, 1) := by decide +kernel
theorem dX12_scan_138 : decode cX12_scan 138 = .ok (.putfield 371, 3) := by decide +kernel
theorem dX12_scan_141 : decode cX12_scan 141 = .ok (.goto (-21), 3) := by decide +kernel
theorem dX12_scan_144 : decode cX12_scan 144 = .ok (.aload_n 0, 1) := by decide +kernel
theorem dX12_scan_145 : decode cX12_scan 145 = .ok (.iconst 2, 1) := by decide +kernel
theorem dX12_scan_146 : decode cX12_scan 146 = .ok (.putfield 377, 3) := by decide +kernel
theorem dX12_scan_149 : decode cX12_scan 149 = .ok (.goto 18, 3) := by decide +kernel
theorem dX12_scan_152 : decode cX12_scan 152 = .ok (.aload_n 0, 1) := by decide +kernel
theorem dX12_scan_153 : decode cX12_scan 153 = .ok (.dup, 1) := by decide +kernel
theorem dX12_scan_154 : decode cX12_scan 154 = .ok (.getfield 371, 3) := by decide +kernel
theorem dX12_scan_157 : decode cX12_scan 157 = .ok (.iconst 1, 1) := by decide +kernel
theorem dX12_scan_158 : decode cX12_scan 158 = .ok (.iadd, 1) := by decide +kernel
theorem dX12_scan_159 : decode cX12_scan 159 = .ok (.putfield 371, 3) := by decide +kernel
theorem dX12_scan_162 : decode cX12_scan 162 = .ok (.aload_n 0, 1) := by decide +kernel
theorem dX12_scan_163 : decode cX12_scan 163 = .ok (.iconst 3, 1) := by decide +kernel
theorem dX12_scan_164 : decode cX12_scan 164 = .ok (.putfield 377, 3) := by decide +kernel
theorem dX12_scan_167 : decode cX12_scan 167 = .ok (.return_, 1) := by decide +kernel
theorem dX12_startText_0 : decode cX12_startText 0 = .ok (.aload_n 0, 1) := by decide +kernel
theorem dX12_startText_1 : decode cX12_startText 1 = .ok (.iload_n 1, 1) := by decide +kernel
theorem dX12_startText_2 : decode cX12_startText 2 = .ok (.putfield 365, 3) := by decide +kernel
theorem dX12_startText_5 : decode cX12_startText 5 = .ok (.aload_n 0, 1) := by decide +kernel
theorem dX12_startText_6 : decode cX12_startText 6 = .ok (.iconst 0, 1) := by decide +kernel
theorem dX12_startText_7 : decode cX12_startText 7 = .ok (.putfield 371, 3) := by decide +kernel
theorem dX12_startText_10 : decode cX12_startText 10 = .ok (.aload_n 0, 1) := by decide +kernel
theorem dX12_startText_11 : decode cX12_startText 11 = .ok (.iconst 0, 1) := by decide +kernel
theorem dX12_startText_12 : decode cX12_startText 12 = .ok (.putfield 386, 3) := by decide +kernel
theorem dX12_startText_15 : decode cX12_startText 15 = .ok (.aload_n 0, 1) := by decide +kernel
theorem dX12_startText_16 : decode cX12_startText 16 = .ok (.iconst 0, 1) := by decide +kernel
theorem dX12_startText_17 : decode cX12_startText 17 = .ok (.putfield 389, 3) := by decide +kernel
theorem dX12_startText_20 : decode cX12_startText 20 = .ok (.aload_n 0, 1) := by decide +kernel
theorem dX12_startText_21 : decode cX12_startText 21 = .ok (.invokevirtual 392, 3) := by decide +kernel
theorem dX12_startText_24 : decode cX12_startText 24 = .ok (.return_, 1) := by decide +kernel
theorem dX12_finish_0 : decode cX12_finish 0 = .ok (.aload_n 0, 1) := by decide +kernel
theorem dX12_finish_1 : decode cX12_finish 1 = .ok (.iconst 0, 1) := by decide +kernel
theorem dX12_finish_2 : decode cX12_finish 2 = .ok (.putfield 362, 3) := by decide +kernel
theorem dX12_finish_5 : decode cX12_finish 5 = .ok (.aload_n 0, 1) := by decide +kernel
theorem dX12_finish_6 : decode cX12_finish 6 = .ok (.aload_n 0, 1) := by decide +kernel
theorem dX12_finish_7 : decode cX12_finish 7 = .ok (.getfield 386, 3) := by decide +kernel
theorem dX12_finish_10 : decode cX12_finish 10 = .ok (.ifCond .ne 7, 3) := by decide +kernel
theorem dX12_finish_13 : decode cX12_finish 13 = .ok (.iconst (-1), 1) := by decide +kernel
theorem dX12_finish_14 : decode cX12_finish 14 = .ok (.goto 7, 3) := by decide +kernel
theorem dX12_finish_17 : decode cX12_finish 17 = .ok (.aload_n 0, 1) := by decide +kernel
theorem dX12_finish_18 : decode cX12_finish 18 = .ok (.getfield 395, 3) := by decide +kernel
theorem dX12_finish_21 : decode cX12_finish 21 = .ok (.putfield 44, 3) := by decide +kernel
theorem dX12_finish_24 : decode cX12_finish 24 = .ok (.aload_n 0, 1) := by decide +kernel
theorem dX12_finish_25 : decode cX12_finish 25 = .ok (.getfield 386, 3) := by decide +kernel
theorem dX12_finish_28 : decode cX12_finish 28 = .ok (.ireturn, 1) := by decide +kernel
theorem dX12_flaw_0 : decode cX12_flaw 0 = .ok (.aload_n 0, 1) := by decide +kernel
theorem dX12_flaw_1 : decode cX12_flaw 1 = .ok (.getfield 386, 3) := by decide +kernel
theorem dX12_flaw_4 : decode cX12_flaw 4 = .ok (.ifCond .ne 16, 3) := by decide +kernel
theorem dX12_flaw_7 : decode cX12_flaw 7 = .ok (.aload_n 0, 1) := by decide +kernel
theorem dX12_flaw_8 : decode cX12_flaw 8 = .ok (.iload_n 1, 1) := by decide +kernel
theorem dX12_flaw_9 : decode cX12_flaw 9 = .ok (.putfield 386, 3) := by decide +kernel
theorem dX12_flaw_12 : decode cX12_flaw 12 = .ok (.aload_n 0, 1) := by decide +kernel
theorem dX12_flaw_13 : decode cX12_flaw 13 = .ok (.aload_n 0, 1) := by decide +kernel
theorem dX12_flaw_14 : decode cX12_flaw 14 = .ok (.getfield 374, 3) := by decide +kernel
theorem dX12_flaw_17 : decode cX12_flaw 17 = .ok (.putfield 395, 3) := by decide +kernel
theorem dX12_flaw_20 : decode cX12_flaw 20 = .ok (.return_, 1) := by decide +kernel
theorem dX12_check_0 : decode cX12_check 0 = .ok (.iload_n 1, 1) := by decide +kernel
theorem dX12_check_1 : decode cX12_check 1 = .ok (.ifCond .ne 8, 3) := by decide +kernel
theorem dX12_check_4 : decode cX12_check 4 = .ok (.aload_n 0, 1) := by decide +kernel
theorem dX12_check_5 : decode cX12_check 5 = .ok (.iload_n 2, 1) := by decide +kernel
theorem dX12_check_6 : decode cX12_check 6 = .ok (.invokevirtual 398, 3) := by decide +kernel
theorem dX12_check_9 : decode cX12_check 9 = .ok (.return_, 1) := by decide +kernel
theorem dX12_advance_0 : decode cX12_advance 0 = .ok (.aload_n 0, 1) := by decide +kernel
theorem dX12_advance_1 : decode cX12_advance 1 = .ok (.getfield 386, 3) := by decide +kernel
theorem dX12_advance_4 : decode cX12_advance 4 = .ok (.ifCond .ne 7, 3) := by decide +kernel
theorem dX12_advance_7 : decode cX12_advance 7 = .ok (.aload_n 0, 1) := by decide +kernel
theorem dX12_advance_8 : decode cX12_advance 8 = .ok (.invokevirtual 392, 3) := by decide +kernel
theorem dX12_advance_11 : decode cX12_advance 11 = .ok (.return_, 1) := by decide +kernel
theorem dX12_isSymbol_0 : decode cX12_isSymbol 0 = .ok (.aload_n 0, 1) := by decide +kernel
theorem dX12_isSymbol_1 : decode cX12_isSymbol 1 = .ok (.getfield 386, 3) := by decide +kernel
theorem dX12_isSymbol_4 : decode cX12_isSymbol 4 = .ok (.ifCond .ne 28, 3) := by decide +kernel
theorem dX12_isSymbol_7 : decode cX12_isSymbol 7 = .ok (.aload_n 0, 1) := by decide +kernel
theorem dX12_isSymbol_8 : decode cX12_isSymbol 8 = .ok (.getfield 377, 3) := by decide +kernel
theorem dX12_isSymbol_11 : decode cX12_isSymbol 11 = .ok (.iconst 3, 1) := by decide +kernel
theorem dX12_isSymbol_12 : decode cX12_isSymbol 12 = .ok (.if_icmp .ne 20, 3) := by decide +kernel
theorem dX12_isSymbol_15 : decode cX12_isSymbol 15 = .ok (.aload_n 0, 1) := by decide +kernel
theorem dX12_isSymbol_16 : decode cX12_isSymbol 16 = .ok (.getfield 41, 3) := by decide +kernel
theorem dX12_isSymbol_19 : decode cX12_isSymbol 19 = .ok (.aload_n 0, 1) := by decide +kernel
theorem dX12_isSymbol_20 : decode cX12_isSymbol 20 = .ok (.getfield 374, 3) := by decide +kernel
theorem dX12_isSymbol_23 : decode cX12_isSymbol 23 = .ok (.iaload, 1) := by decide +kernel
theorem dX12_isSymbol_24 : decode cX12_isSymbol 24 = .ok (.iload_n 1, 1) := by decide +kernel
theorem dX12_isSymbol_25 : decode cX12_isSymbol 25 = .ok (.if_icmp .ne 7, 3) := by decide +kernel
theorem dX12_isSymbol_28 : decode cX12_isSymbol 28 = .ok (.iconst 1, 1) := by decide +kernel
theorem dX12_isSymbol_29 : decode cX12_isSymbol 29 = .ok (.goto 4, 3) := by decide +kernel
theorem dX12_isSymbol_32 : decode cX12_isSymbol 32 = .ok (.iconst 0, 1) := by decide +kernel
theorem dX12_isSymbol_33 : decode cX12_isSymbol 33 = .ok (.ireturn, 1) := by decide +kernel
theorem dX12_isWord_0 : decode cX12_isWord 0 = .ok (.aload_n 0, 1) := by decide +kernel
theorem dX12_isWord_1 : decode cX12_isWord 1 = .ok (.getfield 386, 3) := by decide +kernel
theorem dX12_isWord_4 : decode cX12_isWord 4 = .ok (.ifCond .ne 31, 3) := by decide +kernel
theorem dX12_isWord_7 : decode cX12_isWord 7 = .ok (.aload_n 0, 1) := by decide +kernel
theorem dX12_isWord_8 : decode cX12_isWord 8 = .ok (.getfield 377, 3) := by decide +kernel
theorem dX12_isWord_11 : decode cX12_isWord 11 = .ok (.iconst 1, 1) := by decide +kernel
theorem dX12_isWord_12 : decode cX12_isWord 12 = .ok (.if_icmp .ne 23, 3) := by decide +kernel
theorem dX12_isWord_15 : decode cX12_isWord 15 = .ok (.aload_n 1, 1) := by decide +kernel
theorem dX12_isWord_16 : decode cX12_isWord 16 = .ok (.invokevirtual 401, 3) := by decide +kernel
theorem dX12_isWord_19 : decode cX12_isWord 19 = .ok (.aload_n 0, 1) := by decide +kernel
theorem dX12_isWord_20 : decode cX12_isWord 20 = .ok (.getfield 371, 3) := by decide +kernel
theorem dX12_isWord_23 : decode cX12_isWord 23 = .ok (.aload_n 0, 1) := by decide +kernel
theorem dX12_isWord_24 : decode cX12_isWord 24 = .ok (.getfield 374, 3) := by decide +kernel
theorem dX12_isWord_27 : decode cX12_isWord 27 = .ok (.isub, 1) := by decide +kernel
theorem dX12_isWord_28 : decode cX12_isWord 28 = .ok (.if_icmp .ne 7, 3) := by decide +kernel
theorem dX12_isWord_31 : decode cX12_isWord 31 = .ok (.iconst 1, 1) := by decide +kernel
theorem dX12_isWord_32 : decode cX12_isWord 32 = .ok (.goto 4, 3) := by decide +kernel
theorem dX12_isWord_35 : decode cX12_isWord 35 = .ok (.iconst 0, 1) := by decide +kernel
theorem dX12_isWord_36 : decode cX12_isWord 36 = .ok (.istore_n 2, 1) := by decide +kernel
theorem dX12_isWord_37 : decode cX12_isWord 37 = .ok (.iconst 0, 1) := by decide +kernel
theorem dX12_isWord_38 : decode cX12_isWord 38 = .ok (.istore_n 3, 1) := by decide +kernel
theorem dX12_isWord_39 : decode cX12_isWord 39 = .ok (.iload_n 2, 1) := by decide +kernel
theorem dX12_isWord_40 : decode cX12_isWord 40 = .ok (.ifCond .eq 42, 3) := by decide +kernel
theorem dX12_isWord_43 : decode cX12_isWord 43 = .ok (.iload_n 3, 1) := by decide +kernel
theorem dX12_isWord_44 : decode cX12_isWord 44 = .ok (.aload_n 1, 1) := by decide +kernel
theorem dX12_isWord_45 : decode cX12_isWord 45 = .ok (.invokevirtual 401, 3) := by decide +kernel
theorem dX12_isWord_48 : decode cX12_isWord 48 = .ok (.if_icmp .ge 34, 3) := by decide +kernel
theorem dX12_isWord_51 : decode cX12_isWord 51 = .ok (.aload_n 1, 1) := by decide +kernel
theorem dX12_isWord_52 : decode cX12_isWord 52 = .ok (.iload_n 3, 1) := by decide +kernel
theorem dX12_isWord_53 : decode cX12_isWord 53 = .ok (.invokevirtual 405, 3) := by decide +kernel
theorem dX12_isWord_56 : decode cX12_isWord 56 = .ok (.aload_n 0, 1) := by decide +kernel
theorem dX12_isWord_57 : decode cX12_isWord 57 = .ok (.getfield 41, 3) := by decide +kernel
theorem dX12_isWord_60 : decode cX12_isWord 60 = .ok (.aload_n 0, 1) := by decide +kernel
theorem dX12_isWord_61 : decode cX12_isWord 61 = .ok (.getfield 374, 3) := by decide +kernel
theorem dX12_isWord_64 : decode cX12_isWord 64 = .ok (.iload_n 3, 1) := by decide +kernel
theorem dX12_isWord_65 : decode cX12_isWord 65 = .ok (.iadd, 1) := by decide +kernel
theorem dX12_isWord_66 : decode cX12_isWord 66 = .ok (.iaload, 1) := by decide +kernel
theorem dX12_isWord_67 : decode cX12_isWord 67 = .ok (.if_icmp .ne 7, 3) := by decide +kernel
theorem dX12_isWord_70 : decode cX12_isWord 70 = .ok (.iconst 1, 1) := by decide +kernel
theorem dX12_isWord_71 : decode cX12_isWord 71 = .ok (.goto 4, 3) := by decide +kernel
theorem dX12_isWord_74 : decode cX12_isWord 74 = .ok (.iconst 0, 1) := by decide +kernel
theorem dX12_isWord_75 : decode cX12_isWord 75 = .ok (.istore_n 2, 1) := by decide +kernel
theorem dX12_isWord_76 : decode cX12_isWord 76 = .ok (.iinc 3 1, 3) := by decide +kernel
theorem dX12_isWord_79 : decode cX12_isWord 79 = .ok (.goto (-40), 3) := by decide +kernel
theorem dX12_isWord_82 : decode cX12_isWord 82 = .ok (.iload_n 2, 1) := by decide +kernel
theorem dX12_isWord_83 : decode cX12_isWord 83 = .ok (.ireturn, 1) := by decide +kernel
theorem dX12_accept_0 : decode cX12_accept 0 = .ok (.aload_n 0, 1) := by decide +kernel
theorem dX12_accept_1 : decode cX12_accept 1 = .ok (.aload_n 1, 1) := by decide +kernel
theorem dX12_accept_2 : decode cX12_accept 2 = .ok (.invokevirtual 409, 3) := by decide +kernel
theorem dX12_accept_5 : decode cX12_accept 5 = .ok (.istore_n 2, 1) := by decide +kernel
theorem dX12_accept_6 : decode cX12_accept 6 = .ok (.iload_n 2, 1) := by decide +kernel
theorem dX12_accept_7 : decode cX12_accept 7 = .ok (.ifCond .eq 7, 3) := by decide +kernel
theorem dX12_accept_10 : decode cX12_accept 10 = .ok (.aload_n 0, 1) := by decide +kernel
theorem dX12_accept_11 : decode cX12_accept 11 = .ok (.invokevirtual 392, 3) := by decide +kernel
theorem dX12_accept_14 : decode cX12_accept 14 = .ok (.iload_n 2, 1) := by decide +kernel
theorem dX12_accept_15 : decode cX12_accept 15 = .ok (.ireturn, 1) := by decide +kernel
theorem dX12_expect_0 : decode cX12_expect 0 = .ok (.aload_n 0, 1) := by decide +kernel
theorem dX12_expect_1 : decode cX12_expect 1 = .ok (.aload_n 0, 1) := by decide +kernel
theorem dX12_expect_2 : decode cX12_expect 2 = .ok (.iload_n 1, 1) := by decide +kernel
theorem dX12_expect_3 : decode cX12_expect 3 = .ok (.invokevirtual 420, 3) := by decide +kernel
theorem dX12_expect_6 : decode cX12_expect 6 = .ok (.iconst 1, 1) := by decide +kernel
theorem dX12_expect_7 : decode cX12_expect 7 = .ok (.invokevirtual 413, 3) := by decide +kernel
theorem dX12_expect_10 : decode cX12_expect 10 = .ok (.aload_n 0, 1) := by decide +kernel
theorem dX12_expect_11 : decode cX12_expect 11 = .ok (.invokevirtual 417, 3) := by decide +kernel
theorem dX12_expect_14 : decode cX12_expect 14 = .ok (.return_, 1) := by decide +kernel
theorem dX12_value_0 : decode cX12_value 0 = .ok (.iconst 0, 1) := by decide +kernel
theorem dX12_value_1 : decode cX12_value 1 = .ok (.istore_n 1, 1) := by decide +kernel
theorem dX12_value_2 : decode cX12_value 2 = .ok (.aload_n 0, 1) := by decide +kernel
theorem dX12_value_3 : decode cX12_value 3 = .ok (.getfield 374, 3) := by decide +kernel
theorem dX12_value_6 : decode cX12_value 6 = .ok (.istore_n 2, 1) := by decide +kernel
theorem dX12_value_7 : decode cX12_value 7 = .ok (.iload_n 2, 1) := by decide +kernel
theorem dX12_value_8 : decode cX12_value 8 = .ok (.aload_n 0, 1) := by decide +kernel
theorem dX12_value_9 : decode cX12_value 9 = .ok (.getfield 371, 3) := by decide +kernel
theorem dX12_value_12 : decode cX12_value 12 = .ok (.if_icmp .ge 43, 3) := by decide +kernel
theorem dX12_value_15 : decode cX12_value 15 = .ok (.aload_n 0, 1) := by decide +kernel
theorem dX12_value_16 : decode cX12_value 16 = .ok (.getfield 377, 3) := by decide +kernel
theorem dX12_value_19 : decode cX12_value 19 = .ok (.iconst 2, 1) := by decide +kernel
theorem dX12_value_20 : decode cX12_value 20 = .ok (.if_icmp .ne 35, 3) := by decide +kernel
theorem dX12_value_23 : decode cX12_value 23 = .ok (.ldc2_w 423, 3) := by decide +kernel
theorem dX12_value_26 : decode cX12_value 26 = .ok (.ldc2_w 336, 3) := by decide +kernel
theorem dX12_value_29 : decode cX12_value 29 = .ok (.iload_n 1, 1) := by decide +kernel
theorem dX12_value_30 : decode cX12_value 30 = .ok (.i2l, 1) := by decide +kernel
theorem dX12_value_31 : decode cX12_value 31 = .ok (.lmul, 1) := by decide +kernel
theorem dX12_value_32 : decode cX12_value 32 = .ok (.aload_n 0, 1) := by decide +kernel
theorem dX12_value_33 : decode cX12_value 33 = .ok (.getfield 41, 3) := by decide +kernel
theorem dX12_value_36 : decode cX12_value 36 = .ok (.iload_n 2, 1) := by decide +kernel
theorem dX12_value_37 : decode cX12_value 37 = .ok (.iaload, 1) := by decide +kernel
theorem dX12_value_38 : decode cX12_value 38 = .ok (.i2l, 1) := by decide +kernel
theorem dX12_value_39 : decode cX12_value 39 = .ok (.ladd, 1) := by decide +kernel
theorem dX12_value_40 : decode cX12_value 40 = .ok (.ldc2_w 425, 3) := by decide +kernel
theorem dX12_value_43 : decode cX12_value 43 = .ok (.lsub, 1) := by decide +kernel
theorem dX12_value_44 : decode cX12_value 44 = .ok (.invokestatic 77, 3) := by decide +kernel
theorem dX12_value_47 : decode cX12_value 47 = .ok (.l2i, 1) := by decide +kernel
theorem dX12_value_48 : decode cX12_value 48 = .ok (.istore_n 1, 1) := by decide +kernel
theorem dX12_value_49 : decode cX12_value 49 = .ok (.iinc 2 1, 3) := by decide +kernel
theorem dX12_value_52 : decode cX12_value 52 = .ok (.goto (-45), 3) := by decide +kernel
theorem dX12_value_55 : decode cX12_value 55 = .ok (.iload_n 1, 1) := by decide +kernel
theorem dX12_value_56 : decode cX12_value 56 = .ok (.ireturn, 1) := by decide +kernel
theorem dX12_readNumber_0 : decode cX12_readNumber 0 = .ok (.aload_n 0, 1) := by decide +kernel
theorem dX12_readNumber_1 : decode cX12_readNumber 1 = .ok (.aload_n 0, 1) := by decide +kernel
theorem dX12_readNumber_2 : decode cX12_readNumber 2 = .ok (.getfield 386, 3) := by decide +kernel
theorem dX12_readNumber_5 : decode cX12_readNumber 5 = .ok (.ifCond .ne 11, 3) := by decide +kernel
theorem dX12_readNumber_8 : decode cX12_readNumber 8 = .ok (.aload_n 0, 1) := by decide +kernel
theorem dX12_readNumber_9 : decode cX12_readNumber 9 = .ok (.getfield 377, 3) := by decide +kernel
theorem dX12_readNumber_12 : decode cX12_readNumber 12 = .ok (.iconst 2, 1) := by decide +kernel
theorem dX12_readNumber_13 : decode cX12_readNumber 13 = .ok (.if_icmp .ne 7, 3) := by decide +kernel
theorem dX12_readNumber_16 : decode cX12_readNumber 16 = .ok (.iconst 1, 1) := by decide +kernel
theorem dX12_readNumber_17 : decode cX12_readNumber 17 = .ok (.goto 4, 3) := by decide +kernel
theorem dX12_readNumber_20 : decode cX12_readNumber 20 = .ok (.iconst 0, 1) := by decide +kernel
theorem dX12_readNumber_21 : decode cX12_readNumber 21 = .ok (.iconst 1, 1) := by decide +kernel
theorem dX12_readNumber_22 : decode cX12_readNumber 22 = .ok (.invokevirtual 413, 3) := by decide +kernel
theorem dX12_readNumber_25 : decode cX12_readNumber 25 = .ok (.aload_n 0, 1) := by decide +kernel
theorem dX12_readNumber_26 : decode cX12_readNumber 26 = .ok (.invokevirtual 427, 3) := by decide +kernel
theorem dX12_readNumber_29 : decode cX12_readNumber 29 = .ok (.istore_n 3, 1) := by decide +kernel
theorem dX12_readNumber_30 : decode cX12_readNumber 30 = .ok (.aload_n 0, 1) := by decide +kernel
theorem dX12_readNumber_31 : decode cX12_readNumber 31 = .ok (.aload_n 0, 1) := by decide +kernel
theorem dX12_readNumber_32 : decode cX12_readNumber 32 = .ok (.getfield 386, 3) := by decide +kernel
theorem dX12_readNumber_35 : decode cX12_readNumber 35 = .ok (.ifCond .ne 15, 3) := by decide +kernel
theorem dX12_readNumber_38 : decode cX12_readNumber 38 = .ok (.iload_n 3, 1) := by decide +kernel
theorem dX12_readNumber_39 : decode cX12_readNumber 39 = .ok (.i2l, 1) := by decide +kernel
theorem dX12_readNumber_40 : decode cX12_readNumber 40 = .ok (.iload_n 1, 1) := by decide +kernel
theorem dX12_readNumber_41 : decode cX12_readNumber 41 = .ok (.i2l, 1) := by decide +kernel
theorem dX12_readNumber_42 : decode cX12_readNumber 42 = .ok (.iload_n 2, 1) := by decide +kernel
theorem dX12_readNumber_43 : decode cX12_readNumber 43 = .ok (.i2l, 1) := by decide +kernel
theorem dX12_readNumber_44 : decode cX12_readNumber 44 = .ok (.invokestatic 243, 3) := by decide +kernel
theorem dX12_readNumber_47 : decode cX12_readNumber 47 = .ok (.ifCond .eq 7, 3) := by decide +kernel
theorem dX12_readNumber_50 : decode cX12_readNumber 50 = .ok (.iconst 1, 1) := by decide +kernel
theorem dX12_readNumber_51 : decode cX12_readNumber 51 = .ok (.goto 4, 3) := by decide +kernel
theorem dX12_readNumber_54 : decode cX12_readNumber 54 = .ok (.iconst 0, 1) := by decide +kernel
theorem dX12_readNumber_55 : decode cX12_readNumber 55 = .ok (.iconst 2, 1) := by decide +kernel
theorem dX12_readNumber_56 : decode cX12_readNumber 56 = .ok (.invokevirtual 413, 3) := by decide +kernel
theorem dX12_readNumber_59 : decode cX12_readNumber 59 = .ok (.aload_n 0, 1) := by decide +kernel
theorem dX12_readNumber_60 : decode cX12_readNumber 60 = .ok (.invokevirtual 417, 3) := by decide +kernel
theorem dX12_readNumber_63 : decode cX12_readNumber 63 = .ok (.aload_n 0, 1) := by decide +kernel
theorem dX12_readNumber_64 : decode cX12_readNumber 64 = .ok (.getfield 386, 3) := by decide +kernel
theorem dX12_readNumber_67 : decode cX12_readNumber 67 = .ok (.ifCond .ne 7, 3) := by decide +kernel
theorem dX12_readNumber_70 : decode cX12_readNumber 70 = .ok (.iload_n 3, 1) := by decide +kernel
theorem dX12_readNumber_71 : decode cX12_readNumber 71 = .ok (.goto 4, 3) := by decide +kernel
theorem dX12_readNumber_74 : decode cX12_readNumber 74 = .ok (.iload_n 1, 1) := by decide +kernel
theorem dX12_readNumber_75 : decode cX12_readNumber 75 = .ok (.ireturn, 1) := by decide +kernel
theorem dX12_nameHere_0 : decode cX12_nameHere 0 = .ok (.lconst 0, 1) := by decide +kernel
theorem dX12_nameHere_1 : decode cX12_nameHere 1 = .ok (.lstore_n 1, 1) := by decide +kernel
theorem dX12_nameHere_2 : decode cX12_nameHere 2 = .ok (.aload_n 0, 1) := by decide +kernel
theorem dX12_nameHere_3 : decode cX12_nameHere 3 = .ok (.getfield 374, 3) := by decide +kernel
theorem dX12_nameHere_6 : decode cX12_nameHere 6 = .ok (.istore_n 3, 1) := by decide +kernel
theorem dX12_nameHere_7 : decode cX12_nameHere 7 = .ok (.iload_n 3, 1) := by decide +kernel
theorem dX12_nameHere_8 : decode cX12_nameHere 8 = .ok (.aload_n 0, 1) := by decide +kernel
theorem dX12_nameHere_9 : decode cX12_nameHere 9 = .ok (.getfield 371, 3) := by decide +kernel
theorem dX12_nameHere_12 : decode cX12_nameHere 12 = .ok (.if_icmp .ge 29, 3) := by decide +kernel
theorem dX12_nameHere_15 : decode cX12_nameHere 15 = .ok (.ldc2_w 346, 3) := by decide +kernel
theorem dX12_nameHere_18 : decode cX12_nameHere 18 = .ok (.lload_n 1, 1) := by decide +kernel
theorem dX12_nameHere_19 : decode cX12_nameHere 19 = .ok (.lmul, 1) := by decide +kernel
theorem dX12_nameHere_20 : decode cX12_nameHere 20 = .ok (.aload_n 0, 1) := by decide +kernel
theorem dX12_nameHere_21 : decode cX12_nameHere 21 = .ok (.getfield 41, 3) := by decide +kernel
theorem dX12_nameHere_24 : decode cX12_nameHere 24 = .ok (.iload_n 3, 1) := by decide +kernel
theorem dX12_nameHere_25 : decode cX12_nameHere 25 = .ok (.iaload, 1) := by decide +kernel
theorem dX12_nameHere_26 : decode cX12_nameHere 26 = .ok (.i2l, 1) := by decide +kernel
theorem dX12_nameHere_27 : decode cX12_nameHere 27 = .ok (.ladd, 1) := by decide +kernel
theorem dX12_nameHere_28 : decode cX12_nameHere 28 = .ok (.ldc2_w 430, 3) := by decide +kernel
theorem dX12_nameHere_31 : decode cX12_nameHere 31 = .ok (.lsub, 1) := by decide +kernel
theorem dX12_nameHere_32 : decode cX12_nameHere 32 = .ok (.lconst 1, 1) := by decide +kernel
theorem dX12_nameHere_33 : decode cX12_nameHere 33 = .ok (.ladd, 1) := by decide +kernel
theorem dX12_nameHere_34 : decode cX12_nameHere 34 = .ok (.lstore_n 1, 1) := by decide +kernel
theorem dX12_nameHere_35 : decode cX12_nameHere 35 = .ok (.iinc 3 1, 3) := by decide +kernel
theorem dX12_nameHere_38 : decode cX12_nameHere 38 = .ok (.goto (-31), 3) := by decide +kernel
theorem dX12_nameHere_41 : decode cX12_nameHere 41 = .ok (.lload_n 1, 1) := by decide +kernel
theorem dX12_nameHere_42 : decode cX12_nameHere 42 = .ok (.lreturn, 1) := by decide +kernel
theorem dX12_bodyHere_0 : decode cX12_bodyHere 0 = .ok (.iconst 0, 1) := by decide +kernel
theorem dX12_bodyHere_1 : decode cX12_bodyHere 1 = .ok (.istore_n 1, 1) := by decide +kernel
theorem dX12_bodyHere_2 : decode cX12_bodyHere 2 = .ok (.iload_n 1, 1) := by decide +kernel
theorem dX12_bodyHere_3 : decode cX12_bodyHere 3 = .ok (.i2l, 1) := by decide +kernel
theorem dX12_bodyHere_4 : decode cX12_bodyHere 4 = .ok (.aload_n 0, 1) := by decide +kernel
theorem dX12_bodyHere_5 : decode cX12_bodyHere 5 = .ok (.getfield 13, 3) := by decide +kernel
theorem dX12_bodyHere_8 : decode cX12_bodyHere 8 = .ok (.iconst 0, 1) := by decide +kernel
theorem dX12_bodyHere_9 : decode cX12_bodyHere 9 = .ok (.laload, 1) := by decide +kernel
theorem dX12_bodyHere_10 : decode cX12_bodyHere 10 = .ok (.lcmp, 1) := by decide +kernel
theorem dX12_bodyHere_11 : decode cX12_bodyHere 11 = .ok (.ifCond .ge 54, 3) := by decide +kernel
theorem dX12_bodyHere_14 : decode cX12_bodyHere 14 = .ok (.aload_n 0, 1) := by decide +kernel
theorem dX12_bodyHere_15 : decode cX12_bodyHere 15 = .ok (.getfield 377, 3) := by decide +kernel
theorem dX12_bodyHere_18 : decode cX12_bodyHere 18 = .ok (.iconst 1, 1) := by decide +kernel
theorem dX12_bodyHere_19 : decode cX12_bodyHere 19 = .ok (.if_icmp .ne 46, 3) := by decide +kernel
theorem dX12_bodyHere_22 : decode cX12_bodyHere 22 = .ok (.aload_n 0, 1) := by decide +kernel
theorem dX12_bodyHere_23 : decode cX12_bodyHere 23 = .ok (.getfield 371, 3) := by decide +kernel
theorem dX12_bodyHere_26 : decode cX12_bodyHere 26 = .ok (.aload_n 0, 1) := by decide +kernel
theorem dX12_bodyHere_27 : decode cX12_bodyHere 27 = .ok (.getfield 374, 3) := by decide +kernel
theorem dX12_bodyHere_30 : decode cX12_bodyHere 30 = .ok (.isub, 1) := by decide +kernel
theorem dX12_bodyHere_31 : decode cX12_bodyHere 31 = .ok (.bipush 8, 2) := by decide +kernel
theorem dX12_bodyHere_33 : decode cX12_bodyHere 33 = .ok (.if_icmp .gt 32, 3) := by decide +kernel
theorem dX12_bodyHere_36 : decode cX12_bodyHere 36 = .ok (.aload_n 0, 1) := by decide +kernel
theorem dX12_bodyHere_37 : decode cX12_bodyHere 37 = .ok (.getfield 13, 3) := by decide +kernel
theorem dX12_bodyHere_40 : decode cX12_bodyHere 40 = .ok (.bipush 9, 2) := by decide +kernel
theorem dX12_bodyHere_42 : decode cX12_bodyHere 42 = .ok (.iconst 4, 1) := by decide +kernel
theorem dX12_bodyHere_43 : decode cX12_bodyHere 43 = .ok (.iload_n 1, 1) := by decide +kernel
theorem dX12_bodyHere_44 : decode cX12_bodyHere 44 = .ok (.imul, 1) := by decide +kernel
theorem dX12_bodyHere_45 : decode cX12_bodyHere 45 = .ok (.iadd, 1) := by decide +kernel
theorem dX12_bodyHere_46 : decode cX12_bodyHere 46 = .ok (.iconst 3, 1) := by decide +kernel
theorem dX12_bodyHere_47 : decode cX12_bodyHere 47 = .ok (.iadd, 1) := by decide +kernel
theorem dX12_bodyHere_48 : decode cX12_bodyHere 48 = .ok (.laload, 1) := by decide +kernel
theorem dX12_bodyHere_49 : decode cX12_bodyHere 49 = .ok (.aload_n 0, 1) := by decide +kernel
theorem dX12_bodyHere_50 : decode cX12_bodyHere 50 = .ok (.invokevirtual 432, 3) := by decide +kernel
theorem dX12_bodyHere_53 : decode cX12_bodyHere 53 = .ok (.lcmp, 1) := by decide +kernel
theorem dX12_bodyHere_54 : decode cX12_bodyHere 54 = .ok (.ifCond .ne 5, 3) := by decide +kernel
theorem dX12_bodyHere_57 : decode cX12_bodyHere 57 = .ok (.iload_n 1, 1) := by decide +kernel
theorem dX12_bodyHere_58 : decode cX12_bodyHere 58 = .ok (.ireturn, 1) := by decide +kernel
theorem dX12_bodyHere_59 : decode cX12_bodyHere 59 = .ok (.iinc 1 1, 3) := by decide +kernel
theorem dX12_bodyHere_62 : decode cX12_bodyHere 62 = .ok (.goto (-60), 3) := by decide +kernel
theorem dX12_bodyHere_65 : decode cX12_bodyHere 65 = .ok (.iconst (-1), 1) := by decide +kernel
theorem dX12_bodyHere_66 : decode cX12_bodyHere 66 = .ok (.ireturn, 1) := by decide +kernel
theorem dX12_readSigned_0 : decode cX12_readSigned 0 = .ok (.aload_n 0, 1) := by decide +kernel
theorem dX12_readSigned_1 : decode cX12_readSigned 1 = .ok (.bipush 45, 2) := by decide +kernel
theorem dX12_readSigned_3 : decode cX12_readSigned 3 = .ok (.invokevirtual 420, 3) := by decide +kernel
theorem dX12_readSigned_6 : decode cX12_readSigned 6 = .ok (.istore_n 2, 1) := by decide +kernel
theorem dX12_readSigned_7 : decode cX12_readSigned 7 = .ok (.iload_n 2, 1) := by decide +kernel
theorem dX12_readSigned_8 : decode cX12_readSigned 8 = .ok (.ifCond .eq 7, 3) := by decide +kernel
theorem dX12_readSigned_11 : decode cX12_readSigned 11 = .ok (.aload_n 0, 1) := by decide +kernel
theorem dX12_readSigned_12 : decode cX12_readSigned 12 = .ok (.invokevirtual 417, 3) := by decide +kernel
theorem dX12_readSigned_15 : decode cX12_readSigned 15 = .ok (.aload_n 0, 1) := by decide +kernel
theorem dX12_readSigned_16 : decode cX12_readSigned 16 = .ok (.iconst 0, 1) := by decide +kernel
theorem dX12_readSigned_17 : decode cX12_readSigned 17 = .ok (.iload_n 1, 1) := by decide +kernel
theorem dX12_readSigned_18 : decode cX12_readSigned 18 = .ok (.invokevirtual 435, 3) := by decide +kernel
theorem dX12_readSigned_21 : decode cX12_readSigned 21 = .ok (.istore_n 3, 1) := by decide +kernel
theorem dX12_readSigned_22 : decode cX12_readSigned 22 = .ok (.iload_n 2, 1) := by decide +kernel
theorem dX12_readSigned_23 : decode cX12_readSigned 23 = .ok (.ifCond .eq 8, 3) := by decide +kernel
theorem dX12_readSigned_26 : decode cX12_readSigned 26 = .ok (.iload_n 3, 1) := by decide +kernel
theorem dX12_readSigned_27 : decode cX12_readSigned 27 = .ok (.ineg, 1) := by decide +kernel
theorem dX12_readSigned_28 : decode cX12_readSigned 28 = .ok (.goto 4, 3) := by decide +kernel
theorem dX12_readSigned_31 : decode cX12_readSigned 31 = .ok (.iload_n 3, 1) := by decide +kernel
theorem dX12_readSigned_32 : decode cX12_readSigned 32 = .ok (.ireturn, 1) := by decide +kernel
theorem dX12_readBody_0 : decode cX12_readBody 0 = .ok (.aload_n 0, 1) := by decide +kernel
theorem dX12_readBody_1 : decode cX12_readBody 1 = .ok (.aload_n 0, 1) := by decide +kernel
theorem dX12_readBody_2 : decode cX12_readBody 2 = .ok (.getfield 13, 3) := by decide +kernel
theorem dX12_readBody_5 : decode cX12_readBody 5 = .ok (.iconst 0, 1) := by decide +kernel
theorem dX12_readBody_6 : decode cX12_readBody 6 = .ok (.laload, 1) := by decide +kernel
theorem dX12_readBody_7 : decode cX12_readBody 7 = .ok (.ldc2_w 115, 3) := by decide +kernel
theorem dX12_readBody_10 : decode cX12_readBody 10 = .ok (.lcmp, 1) := by decide +kernel
theorem dX12_readBody_11 : decode cX12_readBody 11 = .ok (.ifCond .ge 7, 3) := by decide +kernel
theorem dX12_readBody_14 : decode cX12_readBody 14 = .ok (.iconst 1, 1) := by decide +kernel
theorem dX12_readBody_15 : decode cX12_readBody 15 = .ok (.goto 4, 3) := by decide +kernel
theorem dX12_readBody_18 : decode cX12_readBody 18 = .ok (.iconst 0, 1) := by decide +kernel
theorem dX12_readBody_19 : decode cX12_readBody 19 = .ok (.iconst 3, 1) := by decide +kernel
theorem dX12_readBody_20 : decode cX12_readBody 20 = .ok (.invokevirtual 413, 3) := by decide +kernel
theorem dX12_readBody_23 : decode cX12_readBody 23 = .ok (.aload_n 0, 1) := by decide +kernel
theorem dX12_readBody_24 : decode cX12_readBody 24 = .ok (.invokevirtual 417, 3) := by decide +kernel
theorem dX12_readBody_27 : decode cX12_readBody 27 = .ok (.aload_n 0, 1) := by decide +kernel
theorem dX12_readBody_28 : decode cX12_readBody 28 = .ok (.aload_n 0, 1) := by decide +kernel
theorem dX12_readBody_29 : decode cX12_readBody 29 = .ok (.getfield 386, 3) := by decide +kernel
theorem dX12_readBody_32 : decode cX12_readBody 32 = .ok (.ifCond .ne 25, 3) := by decide +kernel
theorem dX12_readBody_35 : decode cX12_readBody 35 = .ok (.aload_n 0, 1) := by decide +kernel
theorem dX12_readBody_36 : decode cX12_readBody 36 = .ok (.getfield 377, 3) := by decide +kernel
theorem dX12_readBody_39 : decode cX12_readBody 39 = .ok (.iconst 1, 1) := by decide +kernel
theorem dX12_readBody_40 : decode cX12_readBody 40 = .ok (.if_icmp .ne 21, 3) := by decide +kernel
theorem dX12_readBody_43 : decode cX12_readBody 43 = .ok (.aload_n 0, 1) := by decide +kernel
theorem dX12_readBody_44 : decode cX12_readBody 44 = .ok (.getfield 371, 3) := by decide +kernel
theorem dX12_readBody_47 : decode cX12_readBody 47 = .ok (.aload_n 0, 1) := by decide +kernel
theorem dX12_readBody_48 : decode cX12_readBody 48 = .ok (.getfield 374, 3) := by decide +kernel
theorem dX12_readBody_51 : decode cX12_readBody 51 = .ok (.isub, 1) := by decide +kernel
theorem dX12_readBody_52 : decode cX12_readBody 52 = .ok (.bipush 8, 2) := by decide +kernel
theorem dX12_readBody_54 : decode cX12_readBody 54 = .ok (.if_icmp .gt 7, 3) := by decide +kernel
theorem dX12_readBody_57 : decode cX12_readBody 57 = .ok (.iconst 1, 1) := by decide +kernel
theorem dX12_readBody_58 : decode cX12_readBody 58 = .ok (.goto 4, 3) := by decide +kernel
theorem dX12_readBody_61 : decode cX12_readBody 61 = .ok (.iconst 0, 1) := by decide +kernel
theorem dX12_readBody_62 : decode cX12_readBody 62 = .ok (.iconst 1, 1) := by decide +kernel
theorem dX12_readBody_63 : decode cX12_readBody 63 = .ok (.invokevirtual 413, 3) := by decide +kernel
theorem dX12_readBody_66 : decode cX12_readBody 66 = .ok (.aload_n 0, 1) := by decide +kernel
theorem dX12_readBody_67 : decode cX12_readBody 67 = .ok (.aload_n 0, 1) := by decide +kernel
theorem dX12_readBody_68 : decode cX12_readBody 68 = .ok (.getfield 386, 3) := by decide +kernel
theorem dX12_readBody_71 : decode cX12_readBody 71 = .ok (.ifCond .ne 11, 3) := by decide +kernel
theorem dX12_readBody_74 : decode cX12_readBody 74 = .ok (.aload_n 0, 1) := by decide +kernel
theorem dX12_readBody_75 : decode cX12_readBody 75 = .ok (.invokevirtual 439, 3) := by decide +kernel
theorem dX12_readBody_78 : decode cX12_readBody 78 = .ok (.iconst (-1), 1) := by decide +kernel
theorem dX12_readBody_79 : decode cX12_readBody 79 = .ok (.if_icmp .ne 7, 3) := by decide +kernel
theorem dX12_readBody_82 : decode cX12_readBody 82 = .ok (.iconst 1, 1) := by decide +kernel
theorem dX12_readBody_83 : decode cX12_readBody 83 = .ok (.goto 4, 3) := by decide +kernel
theorem dX12_readBody_86 : decode cX12_readBody 86 = .ok (.iconst 0, 1) := by decide +kernel
theorem dX12_readBody_87 : decode cX12_readBody 87 = .ok (.iconst 4, 1) := by decide +kernel
theorem dX12_readBody_88 : decode cX12_readBody 88 = .ok (.invokevirtual 413, 3) := by decide +kernel
theorem dX12_readBody_91 : decode cX12_readBody 91 = .ok (.aload_n 0, 1) := by decide +kernel
theorem dX12_readBody_92 : decode cX12_readBody 92 = .ok (.getfield 386, 3) := by decide +kernel
theorem dX12_readBody_95 : decode cX12_readBody 95 = .ok (.ifCond .eq 4, 3) := by decide +kernel
theorem dX12_readBody_98 : decode cX12_readBody 98 = .ok (.return_, 1) := by decide +kernel
theorem dX12_readBody_99 : decode cX12_readBody 99 = .ok (.bipush 9, 2) := by decide +kernel
theorem dX12_readBody_101 : decode cX12_readBody 101 = .ok (.iconst 4, 1) := by decide +kernel
theorem dX12_readBody_102 : decode cX12_readBody 102 = .ok (.aload_n 0, 1) := by decide +kernel
theorem dX12_readBody_103 : decode cX12_readBody 103 = .ok (.getfield 13, 3) := by decide +kernel
theorem dX12_readBody_106 : decode cX12_readBody 106 = .ok (.iconst 0, 1) := by decide +kernel
theorem dX12_readBody_107 : decode cX12_readBody 107 = .ok (.laload, 1) := by decide +kernel
theorem dX12_readBody_108 : decode cX12_readBody 108 = .ok (.l2i, 1) := by decide +kernel
theorem dX12_readBody_109 : decode cX12_readBody 109 = .ok (.imul, 1) := by decide +kernel
theorem dX12_readBody_110 : decode cX12_readBody 110 = .ok (.iadd, 1) := by decide +kernel
theorem dX12_readBody_111 : decode cX12_readBody 111 = .ok (.istore_n 1, 1) := by decide +kernel
theorem dX12_readBody_112 : decode cX12_readBody 112 = .ok (.aload_n 0, 1) := by decide +kernel
theorem dX12_readBody_113 : decode cX12_readBody 113 = .ok (.getfield 13, 3) := by decide +kernel
theorem dX12_readBody_116 : decode cX12_readBody 116 = .ok (.iload_n 1, 1) := by decide +kernel
theorem dX12_readBody_117 : decode cX12_readBody 117 = .ok (.iconst 3, 1) := by decide +kernel
theorem dX12_readBody_118 : decode cX12_readBody 118 = .ok (.iadd, 1) := by decide +kernel
theorem dX12_readBody_119 : decode cX12_readBody 119 = .ok (.aload_n 0, 1) := by decide +kernel
theorem dX12_readBody_120 : decode cX12_readBody 120 = .ok (.invokevirtual 432, 3) := by decide +kernel
theorem dX12_readBody_123 : decode cX12_readBody 123 = .ok (.lastore, 1) := by decide +kernel
theorem dX12_readBody_124 : decode cX12_readBody 124 = .ok (.aload_n 0, 1) := by decide +kernel
theorem dX12_readBody_125 : decode cX12_readBody 125 = .ok (.getfield 13, 3) := by decide +kernel
theorem dX12_readBody_128 : decode cX12_readBody 128 = .ok (.iload_n 1, 1) := by decide +kernel
theorem dX12_readBody_129 : decode cX12_readBody 129 = .ok (.iconst 2, 1) := by decide +kernel
theorem dX12_readBody_130 : decode cX12_readBody 130 = .ok (.iadd, 1) := by decide +kernel
theorem dX12_readBody_131 : decode cX12_readBody 131 = .ok (.aload_n 0, 1) := by decide +kernel
theorem dX12_readBody_132 : decode cX12_readBody 132 = .ok (.getfield 371, 3) := by decide +kernel
theorem dX12_readBody_135 : decode cX12_readBody 135 = .ok (.aload_n 0, 1) := by decide +kernel
theorem dX12_readBody_136 : decode cX12_readBody 136 = .ok (.getfield 374, 3) := by decide +kernel
theorem dX12_readBody_139 : decode cX12_readBody 139 = .ok (.isub, 1) := by decide +kernel
theorem dX12_readBody_140 : decode cX12_readBody 140 = .ok (.i2l, 1) := by decide +kernel
theorem dX12_readBody_141 : decode cX12_readBody 141 = .ok (.lastore, 1) := by decide +kernel
theorem dX12_readBody_142 : decode cX12_readBody 142 = .ok (.aload_n 0, 1) := by decide +kernel
theorem dX12_readBody_143 : decode cX12_readBody 143 = .ok (.invokevirtual 417, 3) := by decide +kernel
theorem dX12_readBody_146 : decode cX12_readBody 146 = .ok (.aload_n 0, 1) := by decide +kernel
theorem dX12_readBody_147 : decode cX12_readBody 147 = .ok (.getfield 13, 3) := by decide +kernel
theorem dX12_readBody_150 : decode cX12_readBody 150 = .ok (.iload_n 1, 1) := by decide +kernel
theorem dX12_readBody_151 : decode cX12_readBody 151 = .ok (.iconst 0, 1) := by decide +kernel
theorem dX12_readBody_152 : decode cX12_readBody 152 = .ok (.iadd, 1) := by decide +kernel
theorem dX12_readBody_153 : decode cX12_readBody 153 = .ok (.aload_n 0, 1) := by decide +kernel
theorem dX12_readBody_154 : decode cX12_readBody 154 = .ok (.sipush 3600, 3) := by decide +kernel
theorem dX12_readBody_157 : decode cX12_readBody 157 = .ok (.invokevirtual 442, 3) := by decide +kernel
theorem dX12_readBody_160 : decode cX12_readBody 160 = .ok (.i2l, 1) := by decide +kernel
theorem dX12_readBody_161 : decode cX12_readBody 161 = .ok (.lastore, 1) := by decide +kernel
theorem dX12_readBody_162 : decode cX12_readBody 162 = .ok (.aload_n 0, 1) := by decide +kernel
theorem dX12_readBody_163 : decode cX12_readBody 163 = .ok (.getfield 13, 3) := by decide +kernel
theorem dX12_readBody_166 : decode cX12_readBody 166 = .ok (.iload_n 1, 1) := by decide +kernel
theorem dX12_readBody_167 : decode cX12_readBody 167 = .ok (.iconst 1, 1) := by decide +kernel
theorem dX12_readBody_168 : decode cX12_readBody 168 = .ok (.iadd, 1) := by decide +kernel
theorem dX12_readBody_169 : decode cX12_readBody 169 = .ok (.aload_n 0, 1) := by decide +kernel
theorem dX12_readBody_170 : decode cX12_readBody 170 = .ok (.iconst 0, 1) := by decide +kernel
theorem dX12_readBody_171 : decode cX12_readBody 171 = .ok (.sipush 21599, 3) := by decide +kernel
theorem dX12_readBody_174 : decode cX12_readBody 174 = .ok (.invokevirtual 435, 3) := by decide +kernel
theorem dX12_readBody_177 : decode cX12_readBody 177 = .ok (.i2l, 1) := by decide +kernel
theorem dX12_readBody_178 : decode cX12_readBody 178 = .ok (.lastore, 1) := by decide +kernel
theorem dX12_readBody_179 : decode cX12_readBody 179 = .ok (.aload_n 0, 1) := by decide +kernel
theorem dX12_readBody_180 : decode cX12_readBody 180 = .ok (.getfield 13, 3) := by decide +kernel
theorem dX12_readBody_183 : decode cX12_readBody 183 = .ok (.iconst 0, 1) := by decide +kernel
theorem dX12_readBody_184 : decode cX12_readBody 184 = .ok (.dup2, 1) := by decide +kernel
theorem dX12_readBody_185 : decode cX12_readBody 185 = .ok (.laload, 1) := by decide +kernel
theorem dX12_readBody_186 : decode cX12_readBody 186 = .ok (.lconst 1, 1) := by decide +kernel
theorem dX12_readBody_187 : decode cX12_readBody 187 = .ok (.ladd, 1) := by decide +kernel
theorem dX12_readBody_188 : decode cX12_readBody 188 = .ok (.lastore, 1) := by decide +kernel
theorem dX12_readBody_189 : decode cX12_readBody 189 = .ok (.return_, 1) := by decide +kernel
theorem dX12_readLeg_0 : decode cX12_readLeg 0 = .ok (.aload_n 0, 1) := by decide +kernel
theorem dX12_readLeg_1 : decode cX12_readLeg 1 = .ok (.aload_n 0, 1) := by decide +kernel
theorem dX12_readLeg_2 : decode cX12_readLeg 2 = .ok (.getfield 13, 3) := by decide +kernel
theorem dX12_readLeg_5 : decode cX12_readLeg 5 = .ok (.iconst 1, 1) := by decide +kernel
theorem dX12_readLeg_6 : decode cX12_readLeg 6 = .ok (.laload, 1) := by decide +kernel
theorem dX12_readLeg_7 : decode cX12_readLeg 7 = .ok (.ldc2_w 251, 3) := by decide +kernel
theorem dX12_readLeg_10 : decode cX12_readLeg 10 = .ok (.lcmp, 1) := by decide +kernel
theorem dX12_readLeg_11 : decode cX12_readLeg 11 = .ok (.ifCond .ge 7, 3) := by decide +kernel
theorem dX12_readLeg_14 : decode cX12_readLeg 14 = .ok (.iconst 1, 1) := by decide +kernel
theorem dX12_readLeg_15 : decode cX12_readLeg 15 = .ok (.goto 4, 3) := by decide +kernel
theorem dX12_readLeg_18 : decode cX12_readLeg 18 = .ok (.iconst 0, 1) := by decide +kernel
theorem dX12_readLeg_19 : decode cX12_readLeg 19 = .ok (.iconst 3, 1) := by decide +kernel
theorem dX12_readLeg_20 : decode cX12_readLeg 20 = .ok (.invokevirtual 413, 3) := by decide +kernel
theorem dX12_readLeg_23 : decode cX12_readLeg 23 = .ok (.aload_n 0, 1) := by decide +kernel
theorem dX12_readLeg_24 : decode cX12_readLeg 24 = .ok (.invokevirtual 417, 3) := by decide +kernel
theorem dX12_readLeg_27 : decode cX12_readLeg 27 = .ok (.aload_n 0, 1) := by decide +kernel
theorem dX12_readLeg_28 : decode cX12_readLeg 28 = .ok (.aload_n 0, 1) := by decide +kernel
theorem dX12_readLeg_29 : decode cX12_readLeg 29 = .ok (.getfield 386, 3) := by decide +kernel
theorem dX12_readLeg_32 : decode cX12_readLeg 32 = .ok (.ifCond .ne 11, 3) := by decide +kernel
theorem dX12_readLeg_35 : decode cX12_readLeg 35 = .ok (.aload_n 0, 1) := by decide +kernel
theorem dX12_readLeg_36 : decode cX12_readLeg 36 = .ok (.getfield 377, 3) := by decide +kernel
theorem dX12_readLeg_39 : decode cX12_readLeg 39 = .ok (.iconst 2, 1) := by decide +kernel
theorem dX12_readLeg_40 : decode cX12_readLeg 40 = .ok (.if_icmp .ne 7, 3) := by decide +kernel
theorem dX12_readLeg_43 : decode cX12_readLeg 43 = .ok (.iconst 1, 1) := by decide +kernel
theorem dX12_readLeg_44 : decode cX12_readLeg 44 = .ok (.goto 4, 3) := by decide +kernel
theorem dX12_readLeg_47 : decode cX12_readLeg 47 = .ok (.iconst 0, 1) := by decide +kernel
theorem dX12_readLeg_48 : decode cX12_readLeg 48 = .ok (.iconst 1, 1) := by decide +kernel
theorem dX12_readLeg_49 : decode cX12_readLeg 49 = .ok (.invokevirtual 413, 3) := by decide +kernel
theorem dX12_readLeg_52 : decode cX12_readLeg 52 = .ok (.aload_n 0, 1) := by decide +kernel
theorem dX12_readLeg_53 : decode cX12_readLeg 53 = .ok (.aload_n 0, 1) := by decide +kernel
theorem dX12_readLeg_54 : decode cX12_readLeg 54 = .ok (.getfield 386, 3) := by decide +kernel
theorem dX12_readLeg_57 : decode cX12_readLeg 57 = .ok (.ifCond .ne 18, 3) := by decide +kernel
theorem dX12_readLeg_60 : decode cX12_readLeg 60 = .ok (.aload_n 0, 1) := by decide +kernel
theorem dX12_readLeg_61 : decode cX12_readLeg 61 = .ok (.invokevirtual 427, 3) := by decide +kernel
theorem dX12_readLeg_64 : decode cX12_readLeg 64 = .ok (.i2l, 1) := by decide +kernel
theorem dX12_readLeg_65 : decode cX12_readLeg 65 = .ok (.lconst 0, 1) := by decide +kernel
theorem dX12_readLeg_66 : decode cX12_readLeg 66 = .ok (.ldc2_w 260, 3) := by decide +kernel
theorem dX12_readLeg_69 : decode cX12_readLeg 69 = .ok (.invokestatic 243, 3) := by decide +kernel
theorem dX12_readLeg_72 : decode cX12_readLeg 72 = .ok (.ifCond .eq 7, 3) := by decide +kernel
theorem dX12_readLeg_75 : decode cX12_readLeg 75 = .ok (.iconst 1, 1) := by decide +kernel
theorem dX12_readLeg_76 : decode cX12_readLeg 76 = .ok (.goto 4, 3) := by decide +kernel
theorem dX12_readLeg_79 : decode cX12_readLeg 79 = .ok (.iconst 0, 1) := by decide +kernel
theorem dX12_readLeg_80 : decode cX12_readLeg 80 = .ok (.iconst 2, 1) := by decide +kernel
theorem dX12_readLeg_81 : decode cX12_readLeg 81 = .ok (.invokevirtual 413, 3) := by decide +kernel
theorem dX12_readLeg_84 : decode cX12_readLeg 84 = .ok (.aload_n 0, 1) := by decide +kernel
theorem dX12_readLeg_85 : decode cX12_readLeg 85 = .ok (.aload_n 0, 1) := by decide +kernel
theorem dX12_readLeg_86 : decode cX12_readLeg 86 = .ok (.getfield 386, 3) := by decide +kernel
theorem dX12_readLeg_89 : decode cX12_readLeg 89 = .ok (.ifCond .ne 42, 3) := by decide +kernel
theorem dX12_readLeg_92 : decode cX12_readLeg 92 = .ok (.aload_n 0, 1) := by decide +kernel
theorem dX12_readLeg_93 : decode cX12_readLeg 93 = .ok (.getfield 13, 3) := by decide +kernel
theorem dX12_readLeg_96 : decode cX12_readLeg 96 = .ok (.iconst 1, 1) := by decide +kernel
theorem dX12_readLeg_97 : decode cX12_readLeg 97 = .ok (.laload, 1) := by decide +kernel
theorem dX12_readLeg_98 : decode cX12_readLeg 98 = .ok (.lconst 0, 1) := by decide +kernel
theorem dX12_readLeg_99 : decode cX12_readLeg 99 = .ok (.lcmp, 1) := by decide +kernel
theorem dX12_readLeg_100 : decode cX12_readLeg 100 = .ok (.ifCond .eq 31, 3) := by decide +kernel
theorem dX12_readLeg_103 : decode cX12_readLeg 103 = .ok (.aload_n 0, 1) := by decide +kernel
theorem dX12_readLeg_104 : decode cX12_readLeg 104 = .ok (.invokevirtual 427, 3) := by decide +kernel
theorem dX12_readLeg_107 : decode cX12_readLeg 107 = .ok (.i2l, 1) := by decide +kernel
theorem dX12_readLeg_108 : decode cX12_readLeg 108 = .ok (.aload_n 0, 1) := by decide +kernel
theorem dX12_readLeg_109 : decode cX12_readLeg 109 = .ok (.getfield 13, 3) := by decide +kernel
theorem dX12_readLeg_112 : decode cX12_readLeg 112 = .ok (.bipush 33, 2) := by decide +kernel
theorem dX12_readLeg_114 : decode cX12_readLeg 114 = .ok (.iconst 3, 1) := by decide +kernel
theorem dX12_readLeg_115 : decode cX12_readLeg 115 = .ok (.aload_n 0, 1) := by decide +kernel
theorem dX12_readLeg_116 : decode cX12_readLeg 116 = .ok (.getfield 13, 3) := by decide +kernel
theorem dX12_readLeg_119 : decode cX12_readLeg 119 = .ok (.iconst 1, 1) := by decide +kernel
theorem dX12_readLeg_120 : decode cX12_readLeg 120 = .ok (.laload, 1) := by decide +kernel
theorem dX12_readLeg_121 : decode cX12_readLeg 121 = .ok (.l2i, 1) := by decide +kernel
theorem dX12_readLeg_122 : decode cX12_readLeg 122 = .ok (.iconst 1, 1) := by decide +kernel
theorem dX12_readLeg_123 : decode cX12_readLeg 123 = .ok (.isub, 1) := by decide +kernel
theorem dX12_readLeg_124 : decode cX12_readLeg 124 = .ok (.imul, 1) := by decide +kernel
theorem dX12_readLeg_125 : decode cX12_readLeg 125 = .ok (.iadd, 1) := by decide +kernel
theorem dX12_readLeg_126 : decode cX12_readLeg 126 = .ok (.laload, 1) := by decide +kernel
theorem dX12_readLeg_127 : decode cX12_readLeg 127 = .ok (.lcmp, 1) := by decide +kernel
theorem dX12_readLeg_128 : decode cX12_readLeg 128 = .ok (.ifCond .le 7, 3) := by decide +kernel
theorem dX12_readLeg_131 : decode cX12_readLeg 131 = .ok (.iconst 1, 1) := by decide +kernel
theorem dX12_readLeg_132 : decode cX12_readLeg 132 = .ok (.goto 4, 3) := by decide +kernel
theorem dX12_readLeg_135 : decode cX12_readLeg 135 = .ok (.iconst 0, 1) := by decide +kernel
theorem dX12_readLeg_136 : decode cX12_readLeg 136 = .ok (.iconst 5, 1) := by decide +kernel
theorem dX12_readLeg_137 : decode cX12_readLeg 137 = .ok (.invokevirtual 413, 3) := by decide +kernel
theorem dX12_readLeg_140 : decode cX12_readLeg 140 = .ok (.aload_n 0, 1) := by decide +kernel
theorem dX12_readLeg_141 : decode cX12_readLeg 141 = .ok (.getfield 386, 3) := by decide +kernel
theorem dX12_readLeg_144 : decode cX12_readLeg 144 = .ok (.ifCond .ne 14, 3) := by decide +kernel
theorem dX12_readLeg_147 : decode cX12_readLeg 147 = .ok (.aload_n 0, 1) := by decide +kernel
theorem dX12_readLeg_148 : decode cX12_readLeg 148 = .ok (.iconst 0, 1) := by decide +kernel
theorem dX12_readLeg_149 : decode cX12_readLeg 149 = .ok (.sipush 5000, 3) := by decide +kernel
theorem dX12_readLeg_152 : decode cX12_readLeg 152 = .ok (.invokevirtual 435, 3) := by decide +kernel
theorem dX12_readLeg_155 : decode cX12_readLeg 155 = .ok (.goto 4, 3) := by decide +kernel
theorem dX12_readLeg_158 : decode cX12_readLeg 158 = .ok (.iconst 0, 1) := by decide +kernel
theorem dX12_readLeg_159 : decode cX12_readLeg 159 = .ok (.istore_n 1, 1) := by decide +kernel
theorem dX12_readLeg_160 : decode cX12_readLeg 160 = .ok (.aload_n 0, 1) := by decide +kernel
theorem dX12_readLeg_161 : decode cX12_readLeg 161 = .ok (.iconst 0, 1) := by decide +kernel
theorem dX12_readLeg_162 : decode cX12_readLeg 162 = .ok (.sipush 21599, 3) := by decide +kernel
theorem dX12_readLeg_165 : decode cX12_readLeg 165 = .ok (.invokevirtual 435, 3) := by decide +kernel
theorem dX12_readLeg_168 : decode cX12_readLeg 168 = .ok (.istore_n 2, 1) := by decide +kernel
theorem dX12_readLeg_169 : decode cX12_readLeg 169 = .ok (.aload_n 0, 1) := by decide +kernel
theorem dX12_readLeg_170 : decode cX12_readLeg 170 = .ok (.iconst 0, 1) := by decide +kernel
theorem dX12_readLeg_171 : decode cX12_readLeg 171 = .ok (.sipush 400, 3) := by decide +kernel
theorem dX12_readLeg_174 : decode cX12_readLeg 174 = .ok (.invokevirtual 435, 3) := by decide +kernel
theorem dX12_readLeg_177 : decode cX12_readLeg 177 = .ok (.istore_n 3, 1) := by decide +kernel
theorem dX12_readLeg_178 : decode cX12_readLeg 178 = .ok (.aload_n 0, 1) := by decide +kernel
theorem dX12_readLeg_179 : decode cX12_readLeg 179 = .ok (.getfield 386, 3) := by decide +kernel
theorem dX12_readLeg_182 : decode cX12_readLeg 182 = .ok (.ifCond .ne 16, 3) := by decide +kernel
theorem dX12_readLeg_185 : decode cX12_readLeg 185 = .ok (.aload_n 0, 1) := by decide +kernel
theorem dX12_readLeg_186 : decode cX12_readLeg 186 = .ok (.getfield 13, 3) := by decide +kernel
theorem dX12_readLeg_189 : decode cX12_readLeg 189 = .ok (.iload_n 1, 1) := by decide +kernel
theorem dX12_readLeg_190 : decode cX12_readLeg 190 = .ok (.i2l, 1) := by decide +kernel
theorem dX12_readLeg_191 : decode cX12_readLeg 191 = .ok (.iload_n 2, 1) := by decide +kernel
theorem dX12_readLeg_192 : decode cX12_readLeg 192 = .ok (.i2l, 1) := by decide +kernel
theorem dX12_readLeg_193 : decode cX12_readLeg 193 = .ok (.iload_n 3, 1) := by decide +kernel
theorem dX12_readLeg_194 : decode cX12_readLeg 194 = .ok (.i2l, 1) := by decide +kernel
theorem dX12_readLeg_195 : decode cX12_readLeg 195 = .ok (.invokestatic 322, 3) := by decide +kernel
theorem dX12_readLeg_198 : decode cX12_readLeg 198 = .ok (.return_, 1) := by decide +kernel
theorem dX12_readSight_0 : decode cX12_readSight 0 = .ok (.aload_n 0, 1) := by decide +kernel
theorem dX12_readSight_1 : decode cX12_readSight 1 = .ok (.aload_n 0, 1) := by decide +kernel
theorem dX12_readSight_2 : decode cX12_readSight 2 = .ok (.getfield 13, 3) := by decide +kernel
theorem dX12_readSight_5 : decode cX12_readSight 5 = .ok (.iconst 2, 1) := by decide +kernel
theorem dX12_readSight_6 : decode cX12_readSight 6 = .ok (.laload, 1) := by decide +kernel
theorem dX12_readSight_7 : decode cX12_readSight 7 = .ok (.ldc2_w 307, 3) := by decide +kernel
theorem dX12_readSight_10 : decode cX12_readSight 10 = .ok (.lcmp, 1) := by decide +kernel
theorem dX12_readSight_11 : decode cX12_readSight 11 = .ok (.ifCond .ge 7, 3) := by decide +kernel
theorem dX12_readSight_14 : decode cX12_readSight 14 = .ok (.iconst 1, 1) := by decide +kernel
theorem dX12_readSight_15 : decode cX12_readSight 15 = .ok (.goto 4, 3) := by decide +kernel
theorem dX12_readSight_18 : decode cX12_readSight 18 = .ok (.iconst 0, 1) := by decide +kernel
theorem dX12_readSight_19 : decode cX12_readSight 19 = .ok (.iconst 3, 1) := by decide +kernel
theorem dX12_readSight_20 : decode cX12_readSight 20 = .ok (.invokevirtual 413, 3) := by decide +kernel
theorem dX12_readSight_23 : decode cX12_readSight 23 = .ok (.aload_n 0, 1) := by decide +kernel
theorem dX12_readSight_24 : decode cX12_readSight 24 = .ok (.invokevirtual 417, 3) := by decide +kernel
theorem dX12_readSight_27 : decode cX12_readSight 27 = .ok (.aload_n 0, 1) := by decide +kernel
theorem dX12_readSight_28 : decode cX12_readSight 28 = .ok (.aload_n 0, 1) := by decide +kernel
theorem dX12_readSight_29 : decode cX12_readSight 29 = .ok (.getfield 386, 3) := by decide +kernel
theorem dX12_readSight_32 : decode cX12_readSight 32 = .ok (.ifCond .ne 11, 3) := by decide +kernel
theorem dX12_readSight_35 : decode cX12_readSight 35 = .ok (.aload_n 0, 1) := by decide +kernel
theorem dX12_readSight_36 : decode cX12_readSight 36 = .ok (.getfield 377, 3) := by decide +kernel
theorem dX12_readSight_39 : decode cX12_readSight 39 = .ok (.iconst 1, 1) := by decide +kernel
theorem dX12_readSight_40 : decode cX12_readSight 40 = .ok (.if_icmp .ne 7, 3) := by decide +kernel
theorem dX12_readSight_43 : decode cX12_readSight 43 = .ok (.iconst 1, 1) := by decide +kernel
theorem dX12_readSight_44 : decode cX12_readSight 44 = .ok (.goto 4, 3) := by decide +kernel
theorem dX12_readSight_47 : decode cX12_readSight 47 = .ok (.iconst 0, 1) := by decide +kernel
theorem dX12_readSight_48 : decode cX12_readSight 48 = .ok (.iconst 1, 1) := by decide +kernel
theorem dX12_readSight_49 : decode cX12_readSight 49 = .ok (.invokevirtual 413, 3) := by decide +kernel
theorem dX12_readSight_52 : decode cX12_readSight 52 = .ok (.aload_n 0, 1) := by decide +kernel
theorem dX12_readSight_53 : decode cX12_readSight 53 = .ok (.getfield 386, 3) := by decide +kernel
theorem dX12_readSight_56 : decode cX12_readSight 56 = .ok (.ifCond .ne 10, 3) := by decide +kernel
theorem dX12_readSight_59 : decode cX12_readSight 59 = .ok (.aload_n 0, 1) := by decide +kernel
theorem dX12_readSight_60 : decode cX12_readSight 60 = .ok (.invokevirtual 439, 3) := by decide +kernel
theorem dX12_readSight_63 : decode cX12_readSight 63 = .ok (.goto 4, 3) := by decide +kernel
theorem dX12_readSight_66 : decode cX12_readSight 66 = .ok (.iconst (-1), 1) := by decide +kernel
theorem dX12_readSight_67 : decode cX12_readSight 67 = .ok (.istore_n 1, 1) := by decide +kernel
theorem dX12_readSight_68 : decode cX12_readSight 68 = .ok (.aload_n 0, 1) := by decide +kernel
theorem dX12_readSight_69 : decode cX12_readSight 69 = .ok (.aload_n 0, 1) := by decide +kernel
theorem dX12_readSight_70 : decode cX12_readSight 70 = .ok (.getfield 386, 3) := by decide +kernel
theorem dX12_readSight_73 : decode cX12_readSight 73 = .ok (.ifCond .ne 8, 3) := by decide +kernel
theorem dX12_readSight_76 : decode cX12_readSight 76 = .ok (.iload_n 1, 1) := by decide +kernel
theorem dX12_readSight_77 : decode cX12_readSight 77 = .ok (.iconst (-1), 1) := by decide +kernel
theorem dX12_readSight_78 : decode cX12_readSight 78 = .ok (.if_icmp .eq 7, 3) := by decide +kernel
theorem dX12_readSight_81 : decode cX12_readSight 81 = .ok (.iconst 1, 1) := by decide +kernel
theorem dX12_readSight_82 : decode cX12_readSight 82 = .ok (.goto 4, 3) := by decide +kernel
theorem dX12_readSight_85 : decode cX12_readSight 85 = .ok (.iconst 0, 1) := by decide +kernel
theorem dX12_readSight_86 : decode cX12_readSight 86 = .ok (.iconst 4, 1) := by decide +kernel
theorem dX12_readSight_87 : decode cX12_readSight 87 = .ok (.invokevirtual 413, 3) := by decide +kernel
theorem dX12_readSight_90 : decode cX12_readSight 90 = .ok (.aload_n 0, 1) := by decide +kernel
theorem dX12_readSight_91 : decode cX12_readSight 91 = .ok (.invokevirtual 417, 3) := by decide +kernel
theorem dX12_readSight_94 : decode cX12_readSight 94 = .ok (.aload_n 0, 1) := by decide +kernel
theorem dX12_readSight_95 : decode cX12_readSight 95 = .ok (.iconst 0, 1) := by decide +kernel
theorem dX12_readSight_96 : decode cX12_readSight 96 = .ok (.sipush 5000, 3) := by decide +kernel
theorem dX12_readSight_99 : decode cX12_readSight 99 = .ok (.invokevirtual 435, 3) := by decide +kernel
theorem dX12_readSight_102 : decode cX12_readSight 102 = .ok (.istore_n 2, 1) := by decide +kernel
theorem dX12_readSight_103 : decode cX12_readSight 103 = .ok (.aload_n 0, 1) := by decide +kernel
theorem dX12_readSight_104 : decode cX12_readSight 104 = .ok (.sipush 300, 3) := by decide +kernel
theorem dX12_readSight_107 : decode cX12_readSight 107 = .ok (.sipush 5100, 3) := by decide +kernel
theorem dX12_readSight_110 : decode cX12_readSight 110 = .ok (.invokevirtual 435, 3) := by decide +kernel
theorem dX12_readSight_113 : decode cX12_readSight 113 = .ok (.istore_n 3, 1) := by decide +kernel
theorem dX12_readSight_114 : decode cX12_readSight 114 = .ok (.aload_n 0, 1) := by decide +kernel
theorem dX12_readSight_115 : decode cX12_readSight 115 = .ok (.getfield 386, 3) := by decide +kernel
theorem dX12_readSight_118 : decode cX12_readSight 118 = .ok (.ifCond .ne 16, 3) := by decide +kernel
theorem dX12_readSight_121 : decode cX12_readSight 121 = .ok (.aload_n 0, 1) := by decide +kernel
theorem dX12_readSight_122 : decode cX12_readSight 122 = .ok (.getfield 13, 3) := by decide +kernel
theorem dX12_readSight_125 : decode cX12_readSight 125 = .ok (.iload_n 1, 1) := by decide +kernel
theorem dX12_readSight_126 : decode cX12_readSight 126 = .ok (.i2l, 1) := by decide +kernel
theorem dX12_readSight_127 : decode cX12_readSight 127 = .ok (.iload_n 2, 1) := by decide +kernel
theorem dX12_readSight_128 : decode cX12_readSight 128 = .ok (.i2l, 1) := by decide +kernel
theorem dX12_readSight_129 : decode cX12_readSight 129 = .ok (.iload_n 3, 1) := by decide +kernel
theorem dX12_readSight_130 : decode cX12_readSight 130 = .ok (.i2l, 1) := by decide +kernel
theorem dX12_readSight_131 : decode cX12_readSight 131 = .ok (.invokestatic 312, 3) := by decide +kernel
theorem dX12_readSight_134 : decode cX12_readSight 134 = .ok (.return_, 1) := by decide +kernel
theorem dX12_readSetting_0 : decode cX12_readSetting 0 = .ok (.aload_n 0, 1) := by decide +kernel
theorem dX12_readSetting_1 : decode cX12_readSetting 1 = .ok (.ldc_w 445, 3) := by decide +kernel
theorem dX12_readSetting_4 : decode cX12_readSetting 4 = .ok (.invokevirtual 447, 3) := by decide +kernel
theorem dX12_readSetting_7 : decode cX12_readSetting 7 = .ok (.ifCond .eq 34, 3) := by decide +kernel
theorem dX12_readSetting_10 : decode cX12_readSetting 10 = .ok (.aload_n 0, 1) := by decide +kernel
theorem dX12_readSetting_11 : decode cX12_readSetting 11 = .ok (.getfield 13, 3) := by decide +kernel
theorem dX12_readSetting_14 : decode cX12_readSetting 14 = .ok (.iconst 3, 1) := by decide +kernel
theorem dX12_readSetting_15 : decode cX12_readSetting 15 = .ok (.aload_n 0, 1) := by decide +kernel
theorem dX12_readSetting_16 : decode cX12_readSetting 16 = .ok (.sipush 3600, 3) := by decide +kernel
theorem dX12_readSetting_19 : decode cX12_readSetting 19 = .ok (.invokevirtual 442, 3) := by decide +kernel
theorem dX12_readSetting_22 : decode cX12_readSetting 22 = .ok (.i2l, 1) := by decide +kernel
theorem dX12_readSetting_23 : decode cX12_readSetting 23 = .ok (.lastore, 1) := by decide +kernel
theorem dX12_readSetting_24 : decode cX12_readSetting 24 = .ok (.aload_n 0, 1) := by decide +kernel
theorem dX12_readSetting_25 : decode cX12_readSetting 25 = .ok (.getfield 13, 3) := by decide +kernel
theorem dX12_readSetting_28 : decode cX12_readSetting 28 = .ok (.iconst 4, 1) := by decide +kernel
theorem dX12_readSetting_29 : decode cX12_readSetting 29 = .ok (.aload_n 0, 1) := by decide +kernel
theorem dX12_readSetting_30 : decode cX12_readSetting 30 = .ok (.sipush 10799, 3) := by decide +kernel
theorem dX12_readSetting_33 : decode cX12_readSetting 33 = .ok (.invokevirtual 442, 3) := by decide +kernel
theorem dX12_readSetting_36 : decode cX12_readSetting 36 = .ok (.i2l, 1) := by decide +kernel
theorem dX12_readSetting_37 : decode cX12_readSetting 37 = .ok (.lastore, 1) := by decide +kernel
theorem dX12_readSetting_38 : decode cX12_readSetting 38 = .ok (.goto 103, 3) := by decide +kernel
theorem dX12_readSetting_41 : decode cX12_readSetting 41 = .ok (.aload_n 0, 1) := by decide +kernel
theorem dX12_readSetting_42 : decode cX12_readSetting 42 = .ok (.ldc_w 450, 3) := by decide +kernel
theorem dX12_readSetting_45 : decode cX12_readSetting 45 = .ok (.invokevirtual 447, 3) := by decide +kernel
theorem dX12_readSetting_48 : decode cX12_readSetting 48 = .ok (.ifCond .eq 20, 3) := by decide +kernel
theorem dX12_readSetting_51 : decode cX12_readSetting 51 = .ok (.aload_n 0, 1) := by decide +kernel
theorem dX12_readSetting_52 : decode cX12_readSetting 52 = .ok (.getfield 13, 3) := by decide +kernel
theorem dX12_readSetting_55 : decode cX12_readSetting 55 = .ok (.iconst 5, 1) := by decide +kernel
theorem dX12_readSetting_56 : decode cX12_readSetting 56 = .ok (.aload_n 0, 1) := by decide +kernel
theorem dX12_readSetting_57 : decode cX12_readSetting 57 = .ok (.iconst 0, 1) := by decide +kernel
theorem dX12_readSetting_58 : decode cX12_readSetting 58 = .ok (.bipush 50, 2) := by decide +kernel
theorem dX12_readSetting_60 : decode cX12_readSetting 60 = .ok (.invokevirtual 435, 3) := by decide +kernel
theorem dX12_readSetting_63 : decode cX12_readSetting 63 = .ok (.i2l, 1) := by decide +kernel
theorem dX12_readSetting_64 : decode cX12_readSetting 64 = .ok (.lastore, 1) := by decide +kernel
theorem dX12_readSetting_65 : decode cX12_readSetting 65 = .ok (.goto 76, 3) := by decide +kernel
theorem dX12_readSetting_68 : decode cX12_readSetting 68 = .ok (.aload_n 0, 1) := by decide +kernel
theorem dX12_readSetting_69 : decode cX12_readSetting 69 = .ok (.ldc_w 452, 3) := by decide +kernel
theorem dX12_readSetting_72 : decode cX12_readSetting 72 = .ok (.invokevirtual 447, 3) := by decide +kernel
theorem dX12_readSetting_75 : decode cX12_readSetting 75 = .ok (.ifCond .eq 20, 3) := by decide +kernel
theorem dX12_readSetting_78 : decode cX12_readSetting 78 = .ok (.aload_n 0, 1) := by decide +kernel
theorem dX12_readSetting_79 : decode cX12_readSetting 79 = .ok (.getfield 13, 3) := by decide +kernel
theorem dX12_readSetting_82 : decode cX12_readSetting 82 = .ok (.bipush 6, 2) := by decide +kernel
theorem dX12_readSetting_84 : decode cX12_readSetting 84 = .ok (.aload_n 0, 1) := by decide +kernel
theorem dX12_readSetting_85 : decode cX12_readSetting 85 = .ok (.bipush 60, 2) := by decide +kernel
theorem dX12_readSetting_87 : decode cX12_readSetting 87 = .ok (.invokevirtual 442, 3) := by decide +kernel
theorem dX12_readSetting_90 : decode cX12_readSetting 90 = .ok (.i2l, 1) := by decide +kernel
theorem dX12_readSetting_91 : decode cX12_readSetting 91 = .ok (.lastore, 1) := by decide +kernel
theorem dX12_readSetting_92 : decode cX12_readSetting 92 = .ok (.goto 49, 3) := by decide +kernel
theorem dX12_readSetting_95 : decode cX12_readSetting 95 = .ok (.aload_n 0, 1) := by decide +kernel
theorem dX12_readSetting_96 : decode cX12_readSetting 96 = .ok (.ldc_w 454, 3) := by decide +kernel
theorem dX12_readSetting_99 : decode cX12_readSetting 99 = .ok (.invokevirtual 447, 3) := by decide +kernel
theorem dX12_readSetting_102 : decode cX12_readSetting 102 = .ok (.ifCond .eq 37, 3) := by decide +kernel
theorem dX12_readSetting_105 : decode cX12_readSetting 105 = .ok (.aload_n 0, 1) := by decide +kernel
theorem dX12_readSetting_106 : decode cX12_readSetting 106 = .ok (.getfield 13, 3) := by decide +kernel
theorem dX12_readSetting_109 : decode cX12_readSetting 109 = .ok (.bipush 7, 2) := by decide +kernel
theorem dX12_readSetting_111 : decode cX12_readSetting 111 = .ok (.aload_n 0, 1) := by decide +kernel
theorem dX12_readSetting_112 : decode cX12_readSetting 112 = .ok (.iconst 0, 1) := by decide +kernel
theorem dX12_readSetting_113 : decode cX12_readSetting 113 = .ok (.sipush 21599, 3) := by decide +kernel
theorem dX12_readSetting_116 : decode cX12_readSetting 116 = .ok (.invokevirtual 435, 3) := by decide +kernel
theorem dX12_readSetting_119 : decode cX12_readSetting 119 = .ok (.i2l, 1) := by decide +kernel
theorem dX12_readSetting_120 : decode cX12_readSetting 120 = .ok (.lastore, 1) := by decide +kernel
theorem dX12_readSetting_121 : decode cX12_readSetting 121 = .ok (.aload_n 0, 1) := by decide +kernel
theorem dX12_readSetting_122 : decode cX12_readSetting 122 = .ok (.getfield 13, 3) := by decide +kernel
theorem dX12_readSetting_125 : decode cX12_readSetting 125 = .ok (.bipush 8, 2) := by decide +kernel
theorem dX12_readSetting_127 : decode cX12_readSetting 127 = .ok (.aload_n 0, 1) := by decide +kernel
theorem dX12_readSetting_128 : decode cX12_readSetting 128 = .ok (.iconst 0, 1) := by decide +kernel
theorem dX12_readSetting_129 : decode cX12_readSetting 129 = .ok (.bipush 100, 2) := by decide +kernel
theorem dX12_readSetting_131 : decode cX12_readSetting 131 = .ok (.invokevirtual 435, 3) := by decide +kernel
theorem dX12_readSetting_134 : decode cX12_readSetting 134 = .ok (.i2l, 1) := by decide +kernel
theorem dX12_readSetting_135 : decode cX12_readSetting 135 = .ok (.lastore, 1) := by decide +kernel
theorem dX12_readSetting_136 : decode cX12_readSetting 136 = .ok (.goto 5, 3) := by decide +kernel
theorem dX12_readSetting_139 : decode cX12_readSetting 139 = .ok (.iconst 0, 1) := by decide +kernel
theorem dX12_readSetting_140 : decode cX12_readSetting 140 = .ok (.ireturn, 1) := by decide +kernel
theorem dX12_readSetting_141 : decode cX12_readSetting 141 = .ok (.iconst 1, 1) := by decide +kernel
theorem dX12_readSetting_142 : decode cX12_readSetting 142 = .ok (.ireturn, 1) := by decide +kernel
theorem dX12_readClause_0 : decode cX12_readClause 0 = .ok (.aload_n 0, 1) := by decide +kernel
theorem dX12_readClause_1 : decode cX12_readClause 1 = .ok (.ldc 52, 2) := by decide +kernel
theorem dX12_readClause_3 : decode cX12_readClause 3 = .ok (.invokevirtual 409, 3) := by decide +kernel
theorem dX12_readClause_6 : decode cX12_readClause 6 = .ok (.ifCond .eq 10, 3) := by decide +kernel
theorem dX12_readClause_9 : decode cX12_readClause 9 = .ok (.aload_n 0, 1) := by decide +kernel
theorem dX12_readClause_10 : decode cX12_readClause 10 = .ok (.invokevirtual 456, 3) := by decide +kernel
theorem dX12_readClause_13 : decode cX12_readClause 13 = .ok (.goto 49, 3) := by decide +kernel
theorem dX12_readClause_16 : decode cX12_readClause 16 = .ok (.aload_n 0, 1) := by decide +kernel
theorem dX12_readClause_17 : decode cX12_readClause 17 = .ok (.ldc_w 459, 3) := by decide +kernel
theorem dX12_readClause_20 : decode cX12_readClause 20 = .ok (.invokevirtual 409, 3) := by decide +kernel
theorem dX12_readClause_23 : decode cX12_readClause 23 = .ok (.ifCond .eq 10, 3) := by decide +kernel
theorem dX12_readClause_26 : decode cX12_readClause 26 = .ok (.aload_n 0, 1) := by decide +kernel
theorem dX12_readClause_27 : decode cX12_readClause 27 = .ok (.invokevirtual 461, 3) := by decide +kernel
theorem dX12_readClause_30 : decode cX12_readClause 30 = .ok (.goto 32, 3) := by decide +kernel
theorem dX12_readClause_33 : decode cX12_readClause 33 = .ok (.aload_n 0, 1) := by decide +kernel
theorem dX12_readClause_34 : decode cX12_readClause 34 = .ok (.ldc 50, 2) := by decide +kernel
theorem dX12_readClause_36 : decode cX12_readClause 36 = .ok (.invokevirtual 409, 3) := by decide +kernel
theorem dX12_readClause_39 : decode cX12_readClause 39 = .ok (.ifCond .eq 10, 3) := by decide +kernel
theorem dX12_readClause_42 : decode cX12_readClause 42 = .ok (.aload_n 0, 1) := by decide +kernel
theorem dX12_readClause_43 : decode cX12_readClause 43 = .ok (.invokevirtual 464, 3) := by decide +kernel
theorem dX12_readClause_46 : decode cX12_readClause 46 = .ok (.goto 16, 3) := by decide +kernel
theorem dX12_readClause_49 : decode cX12_readClause 49 = .ok (.aload_n 0, 1) := by decide +kernel
theorem dX12_readClause_50 : decode cX12_readClause 50 = .ok (.invokevirtual 467, 3) := by decide +kernel
theorem dX12_readClause_53 : decode cX12_readClause 53 = .ok (.ifCond .ne 9, 3) := by decide +kernel
theorem dX12_readClause_56 : decode cX12_readClause 56 = .ok (.aload_n 0, 1) := by decide +kernel
theorem dX12_readClause_57 : decode cX12_readClause 57 = .ok (.iconst 0, 1) := by decide +kernel
theorem dX12_readClause_58 : decode cX12_readClause 58 = .ok (.iconst 1, 1) := by decide +kernel
theorem dX12_readClause_59 : decode cX12_readClause 59 = .ok (.invokevirtual 413, 3) := by decide +kernel
theorem dX12_readClause_62 : decode cX12_readClause 62 = .ok (.aload_n 0, 1) := by decide +kernel
theorem dX12_readClause_63 : decode cX12_readClause 63 = .ok (.bipush 59, 2) := by decide +kernel
theorem dX12_readClause_65 : decode cX12_readClause 65 = .ok (.invokevirtual 471, 3) := by decide +kernel
theorem dX12_readClause_68 : decode cX12_readClause 68 = .ok (.return_, 1) := by decide +kernel
theorem dX12_load_0 : decode cX12_load 0 = .ok (.aload_n 0, 1) := by decide +kernel
theorem dX12_load_1 : decode cX12_load 1 = .ok (.iconst 0, 1) := by decide +kernel
theorem dX12_load_2 : decode cX12_load 2 = .ok (.putfield 74, 3) := by decide +kernel
theorem dX12_load_5 : decode cX12_load 5 = .ok (.iload_n 1, 1) := by decide +kernel
theorem dX12_load_6 : decode cX12_load 6 = .ok (.i2l, 1) := by decide +kernel
theorem dX12_load_7 : decode cX12_load 7 = .ok (.lconst 0, 1) := by decide +kernel
theorem dX12_load_8 : decode cX12_load 8 = .ok (.aload_n 0, 1) := by decide +kernel
theorem dX12_load_9 : decode cX12_load 9 = .ok (.getfield 362, 3) := by decide +kernel
theorem dX12_load_12 : decode cX12_load 12 = .ok (.i2l, 1) := by decide +kernel
theorem dX12_load_13 : decode cX12_load 13 = .ok (.invokestatic 243, 3) := by decide +kernel
theorem dX12_load_16 : decode cX12_load 16 = .ok (.ifCond .ne 9, 3) := by decide +kernel
theorem dX12_load_19 : decode cX12_load 19 = .ok (.aload_n 0, 1) := by decide +kernel
theorem dX12_load_20 : decode cX12_load 20 = .ok (.iconst 1, 1) := by decide +kernel
theorem dX12_load_21 : decode cX12_load 21 = .ok (.invokevirtual 247, 3) := by decide +kernel
theorem dX12_load_24 : decode cX12_load 24 = .ok (.ireturn, 1) := by decide +kernel
theorem dX12_load_25 : decode cX12_load 25 = .ok (.iconst 0, 1) := by decide +kernel
theorem dX12_load_26 : decode cX12_load 26 = .ok (.istore_n 2, 1) := by decide +kernel
theorem dX12_load_27 : decode cX12_load 27 = .ok (.iload_n 2, 1) := by decide +kernel
theorem dX12_load_28 : decode cX12_load 28 = .ok (.bipush 93, 2) := by decide +kernel
theorem dX12_load_30 : decode cX12_load 30 = .ok (.if_icmp .ge 16, 3) := by decide +kernel
theorem dX12_load_33 : decode cX12_load 33 = .ok (.aload_n 0, 1) := by decide +kernel
theorem dX12_load_34 : decode cX12_load 34 = .ok (.getfield 13, 3) := by decide +kernel
theorem dX12_load_37 : decode cX12_load 37 = .ok (.iload_n 2, 1) := by decide +kernel
theorem dX12_load_38 : decode cX12_load 38 = .ok (.lconst 0, 1) := by decide +kernel
theorem dX12_load_39 : decode cX12_load 39 = .ok (.lastore, 1) := by decide +kernel
theorem dX12_load_40 : decode cX12_load 40 = .ok (.iinc 2 1, 3) := by decide +kernel
theorem dX12_load_43 : decode cX12_load 43 = .ok (.goto (-16), 3) := by decide +kernel
theorem dX12_load_46 : decode cX12_load 46 = .ok (.aload_n 0, 1) := by decide +kernel
theorem dX12_load_47 : decode cX12_load 47 = .ok (.iload_n 1, 1) := by decide +kernel
theorem dX12_load_48 : decode cX12_load 48 = .ok (.invokevirtual 474, 3) := by decide +kernel
theorem dX12_load_51 : decode cX12_load 51 = .ok (.aload_n 0, 1) := by decide +kernel
theorem dX12_load_52 : decode cX12_load 52 = .ok (.getfield 386, 3) := by decide +kernel
theorem dX12_load_55 : decode cX12_load 55 = .ok (.ifCond .ne 17, 3) := by decide +kernel
theorem dX12_load_58 : decode cX12_load 58 = .ok (.aload_n 0, 1) := by decide +kernel
theorem dX12_load_59 : decode cX12_load 59 = .ok (.getfield 377, 3) := by decide +kernel
theorem dX12_load_62 : decode cX12_load 62 = .ok (.ifCond .eq 10, 3) := by decide +kernel
theorem dX12_load_65 : decode cX12_load 65 = .ok (.aload_n 0, 1) := by decide +kernel
theorem dX12_load_66 : decode cX12_load 66 = .ok (.invokevirtual 477, 3) := by decide +kernel
theorem dX12_load_69 : decode cX12_load 69 = .ok (.goto (-18), 3) := by decide +kernel
theorem dX12_load_72 : decode cX12_load 72 = .ok (.aload_n 0, 1) := by decide +kernel
theorem dX12_load_73 : decode cX12_load 73 = .ok (.invokevirtual 480, 3) := by decide +kernel
theorem dX12_load_76 : decode cX12_load 76 = .ok (.ifCond .eq 11, 3) := by decide +kernel
theorem dX12_load_79 : decode cX12_load 79 = .ok (.bipush (-10), 2) := by decide +kernel
theorem dX12_load_81 : decode cX12_load 81 = .ok (.aload_n 0, 1) := by decide +kernel
theorem dX12_load_82 : decode cX12_load 82 = .ok (.getfield 386, 3) := by decide +kernel
theorem dX12_load_85 : decode cX12_load 85 = .ok (.isub, 1) := by decide +kernel
theorem dX12_load_86 : decode cX12_load 86 = .ok (.ireturn, 1) := by decide +kernel
theorem dX12_load_87 : decode cX12_load 87 = .ok (.aload_n 0, 1) := by decide +kernel
theorem dX12_load_88 : decode cX12_load 88 = .ok (.getfield 13, 3) := by decide +kernel
theorem dX12_load_91 : decode cX12_load 91 = .ok (.iconst 0, 1) := by decide +kernel
theorem dX12_load_92 : decode cX12_load 92 = .ok (.aload_n 0, 1) := by decide +kernel
theorem dX12_load_93 : decode cX12_load 93 = .ok (.getfield 9, 3) := by decide +kernel
theorem dX12_load_96 : decode cX12_load 96 = .ok (.iconst 0, 1) := by decide +kernel
theorem dX12_load_97 : decode cX12_load 97 = .ok (.invokestatic 354, 3) := by decide +kernel
theorem dX12_load_100 : decode cX12_load 100 = .ok (.aload_n 0, 1) := by decide +kernel
theorem dX12_load_101 : decode cX12_load 101 = .ok (.iconst 0, 1) := by decide +kernel
theorem dX12_load_102 : decode cX12_load 102 = .ok (.putfield 351, 3) := by decide +kernel
theorem dX12_load_105 : decode cX12_load 105 = .ok (.aload_n 0, 1) := by decide +kernel
theorem dX12_load_106 : decode cX12_load 106 = .ok (.iconst 0, 1) := by decide +kernel
theorem dX12_load_107 : decode cX12_load 107 = .ok (.putfield 358, 3) := by decide +kernel
theorem dX12_load_110 : decode cX12_load 110 = .ok (.aload_n 0, 1) := by decide +kernel
theorem dX12_load_111 : decode cX12_load 111 = .ok (.getfield 9, 3) := by decide +kernel
theorem dX12_load_114 : decode cX12_load 114 = .ok (.iconst 2, 1) := by decide +kernel
theorem dX12_load_115 : decode cX12_load 115 = .ok (.laload, 1) := by decide +kernel
theorem dX12_load_116 : decode cX12_load 116 = .ok (.l2i, 1) := by decide +kernel
theorem dX12_load_117 : decode cX12_load 117 = .ok (.ireturn, 1) := by decide +kernel
theorem dX12_emit_0 : decode cX12_emit 0 = .ok (.aload_n 0, 1) := by decide +kernel
theorem dX12_emit_1 : decode cX12_emit 1 = .ok (.getfield 386, 3) := by decide +kernel
theorem dX12_emit_4 : decode cX12_emit 4 = .ok (.ifCond .ne 23, 3) := by decide +kernel
theorem dX12_emit_7 : decode cX12_emit 7 = .ok (.aload_n 0, 1) := by decide +kernel
theorem dX12_emit_8 : decode cX12_emit 8 = .ok (.getfield 68, 3) := by decide +kernel
theorem dX12_emit_11 : decode cX12_emit 11 = .ok (.aload_n 0, 1) := by decide +kernel
theorem dX12_emit_12 : decode cX12_emit 12 = .ok (.getfield 483, 3) := by decide +kernel
theorem dX12_emit_15 : decode cX12_emit 15 = .ok (.iload_n 1, 1) := by decide +kernel
theorem dX12_emit_16 : decode cX12_emit 16 = .ok (.iastore, 1) := by decide +kernel
theorem dX12_emit_17 : decode cX12_emit 17 = .ok (.aload_n 0, 1) := by decide +kernel
theorem dX12_emit_18 : decode cX12_emit 18 = .ok (.dup, 1) := by decide +kernel
theorem dX12_emit_19 : decode cX12_emit 19 = .ok (.getfield 483, 3) := by decide +kernel
theorem dX12_emit_22 : decode cX12_emit 22 = .ok (.iconst 1, 1) := by decide +kernel
theorem dX12_emit_23 : decode cX12_emit 23 = .ok (.iadd, 1) := by decide +kernel
theorem dX12_emit_24 : decode cX12_emit 24 = .ok (.putfield 483, 3) := by decide +kernel
theorem dX12_emit_27 : decode cX12_emit 27 = .ok (.return_, 1) := by decide +kernel
theorem dX12_enter_0 : decode cX12_enter 0 = .ok (.aload_n 0, 1) := by decide +kernel
theorem dX12_enter_1 : decode cX12_enter 1 = .ok (.aload_n 0, 1) := by decide +kernel
theorem dX12_enter_2 : decode cX12_enter 2 = .ok (.getfield 389, 3) := by decide +kernel
theorem dX12_enter_5 : decode cX12_enter 5 = .ok (.bipush 6, 2) := by decide +kernel
theorem dX12_enter_7 : decode cX12_enter 7 = .ok (.if_icmp .ge 7, 3) := by decide +kernel
theorem dX12_enter_10 : decode cX12_enter 10 = .ok (.iconst 1, 1) := by decide +kernel
theorem dX12_enter_11 : decode cX12_enter 11 = .ok (.goto 4, 3) := by decide +kernel
theorem dX12_enter_14 : decode cX12_enter 14 = .ok (.iconst 0, 1) := by decide +kernel
theorem dX12_enter_15 : decode cX12_enter 15 = .ok (.iconst 3, 1) := by decide +kernel
theorem dX12_enter_16 : decode cX12_enter 16 = .ok (.invokevirtual 413, 3) := by decide +kernel
theorem dX12_enter_19 : decode cX12_enter 19 = .ok (.aload_n 0, 1) := by decide +kernel
theorem dX12_enter_20 : decode cX12_enter 20 = .ok (.dup, 1) := by decide +kernel
theorem dX12_enter_21 : decode cX12_enter 21 = .ok (.getfield 389, 3) := by decide +kernel
theorem dX12_enter_24 : decode cX12_enter 24 = .ok (.iconst 1, 1) := by decide +kernel
theorem dX12_enter_25 : decode cX12_enter 25 = .ok (.iadd, 1) := by decide +kernel
theorem dX12_enter_26 : decode cX12_enter 26 = .ok (.putfield 389, 3) := by decide +kernel
theorem dX12_enter_29 : decode cX12_enter 29 = .ok (.aload_n 0, 1) := by decide +kernel
theorem dX12_enter_30 : decode cX12_enter 30 = .ok (.invokevirtual 417, 3) := by decide +kernel
theorem dX12_enter_33 : decode cX12_enter 33 = .ok (.return_, 1) := by decide +kernel
theorem dX12_compileValue_0 : decode cX12_compileValue 0 = .ok (.aload_n 0, 1) := by decide +kernel
theorem dX12_compileValue_1 : decode cX12_compileValue 1 = .ok (.getfield 386, 3) := by decide +kernel
theorem dX12_compileValue_4 : decode cX12_compileValue 4 = .ok (.ifCond .ne 11, 3) := by decide +kernel
theorem dX12_compileValue_7 : decode cX12_compileValue 7 = .ok (.aload_n 0, 1) := by decide +kernel
theorem dX12_compileValue_8 : decode cX12_compileValue 8 = .ok (.getfield 377, 3) := by decide +kernel
theorem dX12_compileValue_11 : decode cX12_compileValue 11 = .ok (.iconst 2, 1) := by decide +kernel
theorem dX12_compileValue_12 : decode cX12_compileValue 12 = .ok (.if_icmp .ne 16, 3) := by decide +kernel
theorem dX12_compileValue_15 : decode cX12_compileValue 15 = .ok (.aload_n 0, 1) := by decide +kernel
theorem dX12_compileValue_16 : decode cX12_compileValue 16 = .ok (.aload_n 0, 1) := by decide +kernel
theorem dX12_compileValue_17 : decode cX12_compileValue 17 = .ok (.iconst 0, 1) := by decide +kernel
theorem dX12_compileValue_18 : decode cX12_compileValue 18 = .ok (.ldc_w 486, 3) := by decide +kernel
theorem dX12_compileValue_21 : decode cX12_compileValue 21 = .ok (.invokevirtual 435, 3) := by decide +kernel
theorem dX12_compileValue_24 : decode cX12_compileValue 24 = .ok (.invokevirtual 487, 3) := by decide +kernel
theorem dX12_compileValue_27 : decode cX12_compileValue 27 = .ok (.return_, 1) := by decide +kernel
theorem dX12_compileValue_28 : decode cX12_compileValue 28 = .ok (.iconst 0, 1) := by decide +kernel
theorem dX12_compileValue_29 : decode cX12_compileValue 29 = .ok (.istore_n 1, 1) := by decide +kernel
theorem dX12_compileValue_30 : decode cX12_compileValue 30 = .ok (.iload_n 1, 1) := by decide +kernel
theorem dX12_compileValue_31 : decode cX12_compileValue 31 = .ok (.aload_n 0, 1) := by decide +kernel
theorem dX12_compileValue_32 : decode cX12_compileValue 32 = .ok (.getfield 64, 3) := by decide +kernel
theorem dX12_compileValue_35 : decode cX12_compileValue 35 = .ok (.arraylength, 1) := by decide +kernel
theorem dX12_compileValue_36 : decode cX12_compileValue 36 = .ok (.if_icmp .ge 22, 3) := by decide +kernel
theorem dX12_compileValue_39 : decode cX12_compileValue 39 = .ok (.aload_n 0, 1) := by decide +kernel
theorem dX12_compileValue_40 : decode cX12_compileValue 40 = .ok (.aload_n 0, 1) := by decide +kernel
theorem dX12_compileValue_41 : decode cX12_compileValue 41 = .ok (.getfield 64, 3) := by decide +kernel
theorem dX12_compileValue_44 : decode cX12_compileValue 44 = .ok (.iload_n 1, 1) := by decide +kernel
theorem dX12_compileValue_45 : decode cX12_compileValue 45 = .ok (.aaload, 1) := by decide +kernel
theorem dX12_compileValue_46 : decode cX12_compileValue 46 = .ok (.invokevirtual 409, 3) := by decide +kernel
theorem dX12_compileValue_49 : decode cX12_compileValue 49 = .ok (.ifCond .ne 9, 3) := by decide +kernel
theorem dX12_compileValue_52 : decode cX12_compileValue 52 = .ok (.iinc 1 1, 3) := by decide +kernel
theorem dX12_compileValue_55 : decode cX12_compileValue 55 = .ok (.goto (-25), 3) := by decide +kernel
theorem dX12_compileValue_58 : decode cX12_compileValue 58 = .ok (.aload_n 0, 1) := by decide +kernel
theorem dX12_compileValue_59 : decode cX12_compileValue 59 = .ok (.iload_n 1, 1) := by decide +kernel
theorem dX12_compileValue_60 : decode cX12_compileValue 60 = .ok (.aload_n 0, 1) := by decide +kernel
theorem dX12_compileValue_61 : decode cX12_compileValue 61 = .ok (.getfield 64, 3) := by decide +kernel
theorem dX12_compileValue_64 : decode cX12_compileValue 64 = .ok (.arraylength, 1) := by decide +kernel
theorem dX12_compileValue_65 : decode cX12_compileValue 65 = .ok (.if_icmp .ge 7, 3) := by decide +kernel
theorem dX12_compileValue_68 : decode cX12_compileValue 68 = .ok (.iconst 1, 1) := by decide +kernel
theorem dX12_compileValue_69 : decode cX12_compileValue 69 = .ok (.goto 4, 3) := by decide +kernel
theorem dX12_compileValue_72 : decode cX12_compileValue 72 = .ok (.iconst 0, 1) := by decide +kernel
theorem dX12_compileValue_73 : decode cX12_compileValue 73 = .ok (.iconst 1, 1) := by decide +kernel
theorem dX12_compileValue_74 : decode cX12_compileValue 74 = .ok (.invokevirtual 413, 3) := by decide +kernel
theorem dX12_compileValue_77 : decode cX12_compileValue 77 = .ok (.aload_n 0, 1) := by decide +kernel
theorem dX12_compileValue_78 : decode cX12_compileValue 78 = .ok (.iconst (-1), 1) := by decide +kernel
theorem dX12_compileValue_79 : decode cX12_compileValue 79 = .ok (.iload_n 1, 1) := by decide +kernel
theorem dX12_compileValue_80 : decode cX12_compileValue 80 = .ok (.isub, 1) := by decide +kernel
theorem dX12_compileValue_81 : decode cX12_compileValue 81 = .ok (.invokevirtual 487, 3) := by decide +kernel
theorem dX12_compileValue_84 : decode cX12_compileValue 84 = .ok (.aload_n 0, 1) := by decide +kernel
theorem dX12_compileValue_85 : decode cX12_compileValue 85 = .ok (.invokevirtual 417, 3) := by decide +kernel
theorem dX12_compileValue_88 : decode cX12_compileValue 88 = .ok (.return_, 1) := by decide +kernel
theorem dX12_compileFactor_0 : decode cX12_compileFactor 0 = .ok (.aload_n 0, 1) := by decide +kernel
theorem dX12_compileFactor_1 : decode cX12_compileFactor 1 = .ok (.ldc_w 490, 3) := by decide +kernel
theorem dX12_compileFactor_4 : decode cX12_compileFactor 4 = .ok (.invokevirtual 409, 3) := by decide +kernel
theorem dX12_compileFactor_7 : decode cX12_compileFactor 7 = .ok (.ifCond .eq 37, 3) := by decide +kernel
theorem dX12_compileFactor_10 : decode cX12_compileFactor 10 = .ok (.aload_n 0, 1) := by decide +kernel
theorem dX12_compileFactor_11 : decode cX12_compileFactor 11 = .ok (.invokevirtual 492, 3) := by decide +kernel
theorem dX12_compileFactor_14 : decode cX12_compileFactor 14 = .ok (.aload_n 0, 1) := by decide +kernel
theorem dX12_compileFactor_15 : decode cX12_compileFactor 15 = .ok (.getfield 386, 3) := by decide +kernel
theorem dX12_compileFactor_18 : decode cX12_compileFactor 18 = .ok (.ifCond .ne 7, 3) := by decide +kernel
theorem dX12_compileFactor_21 : decode cX12_compileFactor 21 = .ok (.aload_n 0, 1) := by decide +kernel
theorem dX12_compileFactor_22 : decode cX12_compileFactor 22 = .ok (.invokevirtual 495, 3) := by decide +kernel
theorem dX12_compileFactor_25 : decode cX12_compileFactor 25 = .ok (.aload_n 0, 1) := by decide +kernel
theorem dX12_compileFactor_26 : decode cX12_compileFactor 26 = .ok (.bipush (-23), 2) := by decide +kernel
theorem dX12_compileFactor_28 : decode cX12_compileFactor 28 = .ok (.invokevirtual 487, 3) := by decide +kernel
theorem dX12_compileFactor_31 : decode cX12_compileFactor 31 = .ok (.aload_n 0, 1) := by decide +kernel
theorem dX12_compileFactor_32 : decode cX12_compileFactor 32 = .ok (.dup, 1) := by decide +kernel
theorem dX12_compileFactor_33 : decode cX12_compileFactor 33 = .ok (.getfield 389, 3) := by decide +kernel
theorem dX12_compileFactor_36 : decode cX12_compileFactor 36 = .ok (.iconst 1, 1) := by decide +kernel
theorem dX12_compileFactor_37 : decode cX12_compileFactor 37 = .ok (.isub, 1) := by decide +kernel
theorem dX12_compileFactor_38 : decode cX12_compileFactor 38 = .ok (.putfield 389, 3) := by decide +kernel
theorem dX12_compileFactor_41 : decode cX12_compileFactor 41 = .ok (.goto 119, 3) := by decide +kernel
theorem dX12_compileFactor_44 : decode cX12_compileFactor 44 = .ok (.aload_n 0, 1) := by decide +kernel
theorem dX12_compileFactor_45 : decode cX12_compileFactor 45 = .ok (.bipush 40, 2) := by decide +kernel
theorem dX12_compileFactor_47 : decode cX12_compileFactor 47 = .ok (.invokevirtual 420, 3) := by decide +kernel
theorem dX12_compileFactor_50 : decode cX12_compileFactor 50 = .ok (.ifCond .eq 37, 3) := by decide +kernel
theorem dX12_compileFactor_53 : decode cX12_compileFactor 53 = .ok (.aload_n 0, 1) := by decide +kernel
theorem dX12_compileFactor_54 : decode cX12_compileFactor 54 = .ok (.invokevirtual 492, 3) := by decide +kernel
theorem dX12_compileFactor_57 : decode cX12_compileFactor 57 = .ok (.aload_n 0, 1) := by decide +kernel
theorem dX12_compileFactor_58 : decode cX12_compileFactor 58 = .ok (.getfield 386, 3) := by decide +kernel
theorem dX12_compileFactor_61 : decode cX12_compileFactor 61 = .ok (.ifCond .ne 7, 3) := by decide +kernel
theorem dX12_compileFactor_64 : decode cX12_compileFactor 64 = .ok (.aload_n 0, 1) := by decide +kernel
theorem dX12_compileFactor_65 : decode cX12_compileFactor 65 = .ok (.invokevirtual 498, 3) := by decide +kernel
theorem dX12_compileFactor_68 : decode cX12_compileFactor 68 = .ok (.aload_n 0, 1) := by decide +kernel
theorem dX12_compileFactor_69 : decode cX12_compileFactor 69 = .ok (.bipush 41, 2) := by decide +kernel
theorem dX12_compileFactor_71 : decode cX12_compileFactor 71 = .ok (.invokevirtual 471, 3) := by decide +kernel
theorem dX12_compileFactor_74 : decode cX12_compileFactor 74 = .ok (.aload_n 0, 1) := by decide +kernel
theorem dX12_compileFactor_75 : decode cX12_compileFactor 75 = .ok (.dup, 1) := by decide +kernel
theorem dX12_compileFactor_76 : decode cX12_compileFactor 76 = .ok (.getfield 389, 3) := by decide +kernel
theorem dX12_compileFactor_79 : decode cX12_compileFactor 79 = .ok (.iconst 1, 1) := by decide +kernel
theorem dX12_compileFactor_80 : decode cX12_compileFactor 80 = .ok (.isub, 1) := by decide +kernel
theorem dX12_compileFactor_81 : decode cX12_compileFactor 81 = .ok (.putfield 389, 3) := by decide +kernel
theorem dX12_compileFactor_84 : decode cX12_compileFactor 84 = .ok (.goto 76, 3) := by decide +kernel
theorem dX12_compileFactor_87 : decode cX12_compileFactor 87 = .ok (.aload_n 0, 1) := by decide +kernel
theorem dX12_compileFactor_88 : decode cX12_compileFactor 88 = .ok (.invokevirtual 501, 3) := by decide +kernel
theorem dX12_compileFactor_91 : decode cX12_compileFactor 91 = .ok (.aload_n 0, 1) := by decide +kernel
theorem dX12_compileFactor_92 : decode cX12_compileFactor 92 = .ok (.bipush 60, 2) := by decide +kernel
theorem dX12_compileFactor_94 : decode cX12_compileFactor 94 = .ok (.invokevirtual 420, 3) := by decide +kernel
theorem dX12_compileFactor_97 : decode cX12_compileFactor 97 = .ok (.ifCond .eq 8, 3) := by decide +kernel
theorem dX12_compileFactor_100 : decode cX12_compileFactor 100 = .ok (.bipush (-20), 2) := by decide +kernel
theorem dX12_compileFactor_102 : decode cX12_compileFactor 102 = .ok (.goto 19, 3) := by decide +kernel
theorem dX12_compileFactor_105 : decode cX12_compileFactor 105 = .ok (.aload_n 0, 1) := by decide +kernel
theorem dX12_compileFactor_106 : decode cX12_compileFactor 106 = .ok (.bipush 61, 2) := by decide +kernel
theorem dX12_compileFactor_108 : decode cX12_compileFactor 108 = .ok (.invokevirtual 420, 3) := by decide +kernel
theorem dX12_compileFactor_111 : decode cX12_compileFactor 111 = .ok (.ifCond .eq 8, 3) := by decide +kernel
theorem dX12_compileFactor_114 : decode cX12_compileFactor 114 = .ok (.bipush (-21), 2) := by decide +kernel
theorem dX12_compileFactor_116 : decode cX12_compileFactor 116 = .ok (.goto 5, 3) := by decide +kernel
theorem dX12_compileFactor_119 : decode cX12_compileFactor 119 = .ok (.bipush (-22), 2) := by decide +kernel
theorem dX12_compileFactor_121 : decode cX12_compileFactor 121 = .ok (.istore_n 1, 1) := by decide +kernel
theorem dX12_compileFactor_122 : decode cX12_compileFactor 122 = .ok (.aload_n 0, 1) := by decide +kernel
theorem dX12_compileFactor_123 : decode cX12_compileFactor 123 = .ok (.iload_n 1, 1) := by decide +kernel
theorem dX12_compileFactor_124 : decode cX12_compileFactor 124 = .ok (.bipush (-22), 2) := by decide +kernel
theorem dX12_compileFactor_126 : decode cX12_compileFactor 126 = .ok (.if_icmp .ne 12, 3) := by decide +kernel
theorem dX12_compileFactor_129 : decode cX12_compileFactor 129 = .ok (.aload_n 0, 1) := by decide +kernel
theorem dX12_compileFactor_130 : decode cX12_compileFactor 130 = .ok (.bipush 62, 2) := by decide +kernel
theorem dX12_compileFactor_132 : decode cX12_compileFactor 132 = .ok (.invokevirtual 420, 3) := by decide +kernel
theorem dX12_compileFactor_135 : decode cX12_compileFactor 135 = .ok (.ifCond .eq 7, 3) := by decide +kernel
theorem dX12_compileFactor_138 : decode cX12_compileFactor 138 = .ok (.iconst 1, 1) := by decide +kernel
theorem dX12_compileFactor_139 : decode cX12_compileFactor 139 = .ok (.goto 4, 3) := by decide +kernel
theorem dX12_compileFactor_142 : decode cX12_compileFactor 142 = .ok (.iconst 0, 1) := by decide +kernel
theorem dX12_compileFactor_143 : decode cX12_compileFactor 143 = .ok (.iconst 1, 1) := by decide +kernel
theorem dX12_compileFactor_144 : decode cX12_compileFactor 144 = .ok (.invokevirtual 413, 3) := by decide +kernel
theorem dX12_compileFactor_147 : decode cX12_compileFactor 147 = .ok (.aload_n 0, 1) := by decide +kernel
theorem dX12_compileFactor_148 : decode cX12_compileFactor 148 = .ok (.invokevirtual 417, 3) := by decide +kernel
theorem dX12_compileFactor_151 : decode cX12_compileFactor 151 = .ok (.aload_n 0, 1) := by decide +kernel
theorem dX12_compileFactor_152 : decode cX12_compileFactor 152 = .ok (.invokevirtual 501, 3) := by decide +kernel
theorem dX12_compileFactor_155 : decode cX12_compileFactor 155 = .ok (.aload_n 0, 1) := by decide +kernel
theorem dX12_compileFactor_156 : decode cX12_compileFactor 156 = .ok (.iload_n 1, 1) := by decide +kernel
theorem dX12_compileFactor_157 : decode cX12_compileFactor 157 = .ok (.invokevirtual 487, 3) := by decide +kernel
theorem dX12_compileFactor_160 : decode cX12_compileFactor 160 = .ok (.return_, 1) := by decide +kernel
theorem dX12_compileConjunction_0 : decode cX12_compileConjunction 0 = .ok (.aload_n 0, 1) := by decide +kernel
theorem dX12_compileConjunction_1 : decode cX12_compileConjunction 1 = .ok (.invokevirtual 495, 3) := by decide +kernel
theorem dX12_compileConjunction_4 : decode cX12_compileConjunction 4 = .ok (.aload_n 0, 1) := by decide +kernel
theorem dX12_compileConjunction_5 : decode cX12_compileConjunction 5 = .ok (.ldc_w 504, 3) := by decide +kernel
theorem dX12_compileConjunction_8 : decode cX12_compileConjunction 8 = .ok (.invokevirtual 447, 3) := by decide +kernel
theorem dX12_compileConjunction_11 : decode cX12_compileConjunction 11 = .ok (.ifCond .eq 16, 3) := by decide +kernel
theorem dX12_compileConjunction_14 : decode cX12_compileConjunction 14 = .ok (.aload_n 0, 1) := by decide +kernel
theorem dX12_compileConjunction_15 : decode cX12_compileConjunction 15 = .ok (.invokevirtual 495, 3) := by decide +kernel
theorem dX12_compileConjunction_18 : decode cX12_compileConjunction 18 = .ok (.aload_n 0, 1) := by decide +kernel
theorem dX12_compileConjunction_19 : decode cX12_compileConjunction 19 = .ok (.bipush (-24), 2) := by decide +kernel
theorem dX12_compileConjunction_21 : decode cX12_compileConjunction 21 = .ok (.invokevirtual 487, 3) := by decide +kernel
theorem dX12_compileConjunction_24 : decode cX12_compileConjunction 24 = .ok (.goto (-20), 3) := by decide +kernel
theorem dX12_compileConjunction_27 : decode cX12_compileConjunction 27 = .ok (.return_, 1) := by decide +kernel
theorem dX12_compileTest_0 : decode cX12_compileTest 0 = .ok (.aload_n 0, 1) := by decide +kernel
theorem dX12_compileTest_1 : decode cX12_compileTest 1 = .ok (.invokevirtual 506, 3) := by decide +kernel
theorem dX12_compileTest_4 : decode cX12_compileTest 4 = .ok (.aload_n 0, 1) := by decide +kernel
theorem dX12_compileTest_5 : decode cX12_compileTest 5 = .ok (.ldc_w 509, 3) := by decide +kernel
theorem dX12_compileTest_8 : decode cX12_compileTest 8 = .ok (.invokevirtual 447, 3) := by decide +kernel
theorem dX12_compileTest_11 : decode cX12_compileTest 11 = .ok (.ifCond .eq 16, 3) := by decide +kernel
theorem dX12_compileTest_14 : decode cX12_compileTest 14 = .ok (.aload_n 0, 1) := by decide +kernel
theorem dX12_compileTest_15 : decode cX12_compileTest 15 = .ok (.invokevirtual 506, 3) := by decide +kernel
theorem dX12_compileTest_18 : decode cX12_compileTest 18 = .ok (.aload_n 0, 1) := by decide +kernel
theorem dX12_compileTest_19 : decode cX12_compileTest 19 = .ok (.bipush (-25), 2) := by decide +kernel
theorem dX12_compileTest_21 : decode cX12_compileTest 21 = .ok (.invokevirtual 487, 3) := by decide +kernel
theorem dX12_compileTest_24 : decode cX12_compileTest 24 = .ok (.goto (-20), 3) := by decide +kernel
theorem dX12_compileTest_27 : decode cX12_compileTest 27 = .ok (.return_, 1) := by decide +kernel
theorem dX12_operate_0 : decode cX12_operate 0 = .ok (.iload_n 0, 1) := by decide +kernel
theorem dX12_operate_1 : decode cX12_operate 1 = .ok (.tableswitch 75 (-24) (-20) #[71, 75, 59, 47, 35], 35) := by decide +kernel
theorem dX12_operate_36 : decode cX12_operate 36 = .ok (.lload_n 1, 1) := by decide +kernel
theorem dX12_operate_37 : decode cX12_operate 37 = .ok (.lload_n 3, 1) := by decide +kernel
theorem dX12_operate_38 : decode cX12_operate 38 = .ok (.lcmp, 1) := by decide +kernel
theorem dX12_operate_39 : decode cX12_operate 39 = .ok (.ifCond .ge 7, 3) := by decide +kernel
theorem dX12_operate_42 : decode cX12_operate 42 = .ok (.lconst 1, 1) := by decide +kernel
theorem dX12_operate_43 : decode cX12_operate 43 = .ok (.goto 4, 3) := by decide +kernel
theorem dX12_operate_46 : decode cX12_operate 46 = .ok (.lconst 0, 1) := by decide +kernel
theorem dX12_operate_47 : decode cX12_operate 47 = .ok (.lreturn, 1) := by decide +kernel
theorem dX12_operate_48 : decode cX12_operate 48 = .ok (.lload_n 1, 1) := by decide +kernel
theorem dX12_operate_49 : decode cX12_operate 49 = .ok (.lload_n 3, 1) := by decide +kernel
theorem dX12_operate_50 : decode cX12_operate 50 = .ok (.lcmp, 1) := by decide +kernel
theorem dX12_operate_51 : decode cX12_operate 51 = .ok (.ifCond .ne 7, 3) := by decide +kernel
theorem dX12_operate_54 : decode cX12_operate 54 = .ok (.lconst 1, 1) := by decide +kernel
theorem dX12_operate_55 : decode cX12_operate 55 = .ok (.goto 4, 3) := by decide +kernel
theorem dX12_operate_58 : decode cX12_operate 58 = .ok (.lconst 0, 1) := by decide +kernel
theorem dX12_operate_59 : decode cX12_operate 59 = .ok (.lreturn, 1) := by decide +kernel
theorem dX12_operate_60 : decode cX12_operate 60 = .ok (.lload_n 1, 1) := by decide +kernel
theorem dX12_operate_61 : decode cX12_operate 61 = .ok (.lload_n 3, 1) := by decide +kernel
theorem dX12_operate_62 : decode cX12_operate 62 = .ok (.lcmp, 1) := by decide +kernel
theorem dX12_operate_63 : decode cX12_operate 63 = .ok (.ifCond .le 7, 3) := by decide +kernel
theorem dX12_operate_66 : decode cX12_operate 66 = .ok (.lconst 1, 1) := by decide +kernel
theorem dX12_operate_67 : decode cX12_operate 67 = .ok (.goto 4, 3) := by decide +kernel
theorem dX12_operate_70 : decode cX12_operate 70 = .ok (.lconst 0, 1) := by decide +kernel
theorem dX12_operate_71 : decode cX12_operate 71 = .ok (.lreturn, 1) := by decide +kernel
theorem dX12_operate_72 : decode cX12_operate 72 = .ok (.lload_n 1, 1) := by decide +kernel
theorem dX12_operate_73 : decode cX12_operate 73 = .ok (.lload_n 3, 1) := by decide +kernel
theorem dX12_operate_74 : decode cX12_operate 74 = .ok (.land, 1) := by decide +kernel
theorem dX12_operate_75 : decode cX12_operate 75 = .ok (.lreturn, 1) := by decide +kernel
theorem dX12_operate_76 : decode cX12_operate 76 = .ok (.lload_n 1, 1) := by decide +kernel
theorem dX12_operate_77 : decode cX12_operate 77 = .ok (.lload_n 3, 1) := by decide +kernel
theorem dX12_operate_78 : decode cX12_operate 78 = .ok (.lor, 1) := by decide +kernel
theorem dX12_operate_79 : decode cX12_operate 79 = .ok (.lreturn, 1) := by decide +kernel
theorem dX12_property_0 : decode cX12_property 0 = .ok (.iload_n 2, 1) := by decide +kernel
theorem dX12_property_1 : decode cX12_property 1 = .ok (.tableswitch 74 0 5 #[39, 42, 49, 56, 62, 68], 39) := by decide +kernel
theorem dX12_property_40 : decode cX12_property 40 = .ok (.iload_n 1, 1) := by decide +kernel
theorem dX12_property_41 : decode cX12_property 41 = .ok (.i2l, 1) := by decide +kernel
theorem dX12_property_42 : decode cX12_property 42 = .ok (.lreturn, 1) := by decide +kernel
theorem dX12_property_43 : decode cX12_property 43 = .ok (.aload_n 0, 1) := by decide +kernel
theorem dX12_property_44 : decode cX12_property 44 = .ok (.iload_n 1, 1) := by decide +kernel
theorem dX12_property_45 : decode cX12_property 45 = .ok (.iconst 0, 1) := by decide +kernel
theorem dX12_property_46 : decode cX12_property 46 = .ok (.invokevirtual 147, 3) := by decide +kernel
theorem dX12_property_49 : decode cX12_property 49 = .ok (.lreturn, 1) := by decide +kernel
theorem dX12_property_50 : decode cX12_property 50 = .ok (.aload_n 0, 1) := by decide +kernel
theorem dX12_property_51 : decode cX12_property 51 = .ok (.iload_n 1, 1) := by decide +kernel
theorem dX12_property_52 : decode cX12_property 52 = .ok (.iconst 1, 1) := by decide +kernel
theorem dX12_property_53 : decode cX12_property 53 = .ok (.invokevirtual 147, 3) := by decide +kernel
theorem dX12_property_56 : decode cX12_property 56 = .ok (.lreturn, 1) := by decide +kernel
theorem dX12_property_57 : decode cX12_property 57 = .ok (.aload_n 0, 1) := by decide +kernel
theorem dX12_property_58 : decode cX12_property 58 = .ok (.iload_n 1, 1) := by decide +kernel
theorem dX12_property_59 : decode cX12_property 59 = .ok (.invokevirtual 181, 3) := by decide +kernel
theorem dX12_property_62 : decode cX12_property 62 = .ok (.lreturn, 1) := by decide +kernel
theorem dX12_property_63 : decode cX12_property 63 = .ok (.aload_n 0, 1) := by decide +kernel
theorem dX12_property_64 : decode cX12_property 64 = .ok (.iload_n 1, 1) := by decide +kernel
theorem dX12_property_65 : decode cX12_property 65 = .ok (.invokevirtual 179, 3) := by decide +kernel
theorem dX12_property_68 : decode cX12_property 68 = .ok (.lreturn, 1) := by decide +kernel
theorem dX12_property_69 : decode cX12_property 69 = .ok (.aload_n 0, 1) := by decide +kernel
theorem dX12_property_70 : decode cX12_property 70 = .ok (.iload_n 1, 1) := by decide +kernel
theorem dX12_property_71 : decode cX12_property 71 = .ok (.invokevirtual 184, 3) := by decide +kernel
theorem dX12_property_74 : decode cX12_property 74 = .ok (.lreturn, 1) := by decide +kernel
theorem dX12_property_75 : decode cX12_property 75 = .ok (.aload_n 0, 1) := by decide +kernel
theorem dX12_property_76 : decode cX12_property 76 = .ok (.iload_n 1, 1) := by decide +kernel
theorem dX12_property_77 : decode cX12_property 77 = .ok (.invokevirtual 190, 3) := by decide +kernel
theorem dX12_property_80 : decode cX12_property 80 = .ok (.invokestatic 204, 3) := by decide +kernel
theorem dX12_property_83 : decode cX12_property 83 = .ok (.lreturn, 1) := by decide +kernel
theorem dX12_holdsFor_0 : decode cX12_holdsFor 0 = .ok (.iconst 0, 1) := by decide +kernel
theorem dX12_holdsFor_1 : decode cX12_holdsFor 1 = .ok (.istore_n 2, 1) := by decide +kernel
theorem dX12_holdsFor_2 : decode cX12_holdsFor 2 = .ok (.iconst 0, 1) := by decide +kernel
theorem dX12_holdsFor_3 : decode cX12_holdsFor 3 = .ok (.istore_n 3, 1) := by decide +kernel
theorem dX12_holdsFor_4 : decode cX12_holdsFor 4 = .ok (.iload_n 3, 1) := by decide +kernel
theorem dX12_holdsFor_5 : decode cX12_holdsFor 5 = .ok (.aload_n 0, 1) := by decide +kernel
theorem dX12_holdsFor_6 : decode cX12_holdsFor 6 = .ok (.getfield 483, 3) := by decide +kernel
theorem dX12_holdsFor_9 : decode cX12_holdsFor 9 = .ok (.if_icmp .ge 114, 3) := by decide +kernel
theorem dX12_holdsFor_12 : decode cX12_holdsFor 12 = .ok (.aload_n 0, 1) := by decide +kernel
theorem dX12_holdsFor_13 : decode cX12_holdsFor 13 = .ok (.getfield 68, 3) := by decide +kernel
theorem dX12_holdsFor_16 : decode cX12_holdsFor 16 = .ok (.iload_n 3, 1) := by decide +kernel
theorem dX12_holdsFor_17 : decode cX12_holdsFor 17 = .ok (.iaload, 1) := by decide +kernel
theorem dX12_holdsFor_18 : decode cX12_holdsFor 18 = .ok (.istore 4, 2) := by decide +kernel
theorem dX12_holdsFor_20 : decode cX12_holdsFor 20 = .ok (.iload 4, 2) := by decide +kernel
theorem dX12_holdsFor_22 : decode cX12_holdsFor 22 = .ok (.bipush (-23), 2) := by decide +kernel
theorem dX12_holdsFor_24 : decode cX12_holdsFor 24 = .ok (.if_icmp .ne 24, 3) := by decide +kernel
theorem dX12_holdsFor_27 : decode cX12_holdsFor 27 = .ok (.aload_n 0, 1) := by decide +kernel
theorem dX12_holdsFor_28 : decode cX12_holdsFor 28 = .ok (.getfield 71, 3) := by decide +kernel
theorem dX12_holdsFor_31 : decode cX12_holdsFor 31 = .ok (.iload_n 2, 1) := by decide +kernel
theorem dX12_holdsFor_32 : decode cX12_holdsFor 32 = .ok (.iconst 1, 1) := by decide +kernel
theorem dX12_holdsFor_33 : decode cX12_holdsFor 33 = .ok (.isub, 1) := by decide +kernel
theorem dX12_holdsFor_34 : decode cX12_holdsFor 34 = .ok (.lconst 1, 1) := by decide +kernel
theorem dX12_holdsFor_35 : decode cX12_holdsFor 35 = .ok (.aload_n 0, 1) := by decide +kernel
theorem dX12_holdsFor_36 : decode cX12_holdsFor 36 = .ok (.getfield 71, 3) := by decide +kernel
theorem dX12_holdsFor_39 : decode cX12_holdsFor 39 = .ok (.iload_n 2, 1) := by decide +kernel
theorem dX12_holdsFor_40 : decode cX12_holdsFor 40 = .ok (.iconst 1, 1) := by decide +kernel
theorem dX12_holdsFor_41 : decode cX12_holdsFor 41 = .ok (.isub, 1) := by decide +kernel
theorem dX12_holdsFor_42 : decode cX12_holdsFor 42 = .ok (.laload, 1) := by decide +kernel
theorem dX12_holdsFor_43 : decode cX12_holdsFor 43 = .ok (.lsub, 1) := by decide +kernel
theorem dX12_holdsFor_44 : decode cX12_holdsFor 44 = .ok (.lastore, 1) := by decide +kernel
theorem dX12_holdsFor_45 : decode cX12_holdsFor 45 = .ok (.goto 72, 3) := by decide +kernel
theorem dX12_holdsFor_48 : decode cX12_holdsFor 48 = .ok (.iload 4, 2) := by decide +kernel
theorem dX12_holdsFor_50 : decode cX12_holdsFor 50 = .ok (.bipush (-20), 2) := by decide +kernel
theorem dX12_holdsFor_52 : decode cX12_holdsFor 52 = .ok (.if_icmp .le 35, 3) := by decide +kernel
theorem dX12_holdsFor_55 : decode cX12_holdsFor 55 = .ok (.aload_n 0, 1) := by decide +kernel
theorem dX12_holdsFor_56 : decode cX12_holdsFor 56 = .ok (.getfield 71, 3) := by decide +kernel
theorem dX12_holdsFor_59 : decode cX12_holdsFor 59 = .ok (.iload_n 2, 1) := by decide +kernel
theorem dX12_holdsFor_60 : decode cX12_holdsFor 60 = .ok (.iload 4, 2) := by decide +kernel
theorem dX12_holdsFor_62 : decode cX12_holdsFor 62 = .ok (.ifCond .lt 9, 3) := by decide +kernel
theorem dX12_holdsFor_65 : decode cX12_holdsFor 65 = .ok (.iload 4, 2) := by decide +kernel
theorem dX12_holdsFor_67 : decode cX12_holdsFor 67 = .ok (.i2l, 1) := by decide +kernel
theorem dX12_holdsFor_68 : decode cX12_holdsFor 68 = .ok (.goto 12, 3) := by decide +kernel
theorem dX12_holdsFor_71 : decode cX12_holdsFor 71 = .ok (.aload_n 0, 1) := by decide +kernel
theorem dX12_holdsFor_72 : decode cX12_holdsFor 72 = .ok (.iload_n 1, 1) := by decide +kernel
theorem dX12_holdsFor_73 : decode cX12_holdsFor 73 = .ok (.iconst (-1), 1) := by decide +kernel
theorem dX12_holdsFor_74 : decode cX12_holdsFor 74 = .ok (.iload 4, 2) := by decide +kernel
theorem dX12_holdsFor_76 : decode cX12_holdsFor 76 = .ok (.isub, 1) := by decide +kernel
theorem dX12_holdsFor_77 : decode cX12_holdsFor 77 = .ok (.invokevirtual 511, 3) := by decide +kernel
theorem dX12_holdsFor_80 : decode cX12_holdsFor 80 = .ok (.lastore, 1) := by decide +kernel
theorem dX12_holdsFor_81 : decode cX12_holdsFor 81 = .ok (.iinc 2 1, 3) := by decide +kernel
theorem dX12_holdsFor_84 : decode cX12_holdsFor 84 = .ok (.goto 33, 3) := by decide +kernel
theorem dX12_holdsFor_87 : decode cX12_holdsFor 87 = .ok (.iinc 2 (-1), 3) := by decide +kernel
theorem dX12_holdsFor_90 : decode cX12_holdsFor 90 = .ok (.aload_n 0, 1) := by decide +kernel
theorem dX12_holdsFor_91 : decode cX12_holdsFor 91 = .ok (.getfield 71, 3) := by decide +kernel
theorem dX12_holdsFor_94 : decode cX12_holdsFor 94 = .ok (.iload_n 2, 1) := by decide +kernel
theorem dX12_holdsFor_95 : decode cX12_holdsFor 95 = .ok (.iconst 1, 1) := by decide +kernel
theorem dX12_holdsFor_96 : decode cX12_holdsFor 96 = .ok (.isub, 1) := by decide +kernel
theorem dX12_holdsFor_97 : decode cX12_holdsFor 97 = .ok (.iload 4, 2) := by decide +kernel
theorem dX12_holdsFor_99 : decode cX12_holdsFor 99 = .ok (.aload_n 0, 1) := by decide +kernel
theorem dX12_holdsFor_100 : decode cX12_holdsFor 100 = .ok (.getfield 71, 3) := by decide +kernel
theorem dX12_holdsFor_103 : decode cX12_holdsFor 103 = .ok (.iload_n 2, 1) := by decide +kernel
theorem dX12_holdsFor_104 : decode cX12_holdsFor 104 = .ok (.iconst 1, 1) := by decide +kernel
theorem dX12_holdsFor_105 : decode cX12_holdsFor 105 = .ok (.isub, 1) := by decide +kernel
theorem dX12_holdsFor_106 : decode cX12_holdsFor 106 = .ok (.laload, 1) := by decide +kernel
theorem dX12_holdsFor_107 : decode cX12_holdsFor 107 = .ok (.aload_n 0, 1) := by decide +kernel
theorem dX12_holdsFor_108 : decode cX12_holdsFor 108 = .ok (.getfield 71, 3) := by decide +kernel
theorem dX12_holdsFor_111 : decode cX12_holdsFor 111 = .ok (.iload_n 2, 1) := by decide +kernel
theorem dX12_holdsFor_112 : decode cX12_holdsFor 112 = .ok (.laload, 1) := by decide +kernel
theorem dX12_holdsFor_113 : decode cX12_holdsFor 113 = .ok (.invokestatic 514, 3) := by decide +kernel
theorem dX12_holdsFor_116 : decode cX12_holdsFor 116 = .ok (.lastore, 1) := by decide +kernel
theorem dX12_holdsFor_117 : decode cX12_holdsFor 117 = .ok (.iinc 3 1, 3) := by decide +kernel
theorem dX12_holdsFor_120 : decode cX12_holdsFor 120 = .ok (.goto (-116), 3) := by decide +kernel
theorem dX12_holdsFor_123 : decode cX12_holdsFor 123 = .ok (.aload_n 0, 1) := by decide +kernel
theorem dX12_holdsFor_124 : decode cX12_holdsFor 124 = .ok (.getfield 71, 3) := by decide +kernel
theorem dX12_holdsFor_127 : decode cX12_holdsFor 127 = .ok (.iconst 0, 1) := by decide +kernel
theorem dX12_holdsFor_128 : decode cX12_holdsFor 128 = .ok (.laload, 1) := by decide +kernel
theorem dX12_holdsFor_129 : decode cX12_holdsFor 129 = .ok (.lconst 1, 1) := by decide +kernel
theorem dX12_holdsFor_130 : decode cX12_holdsFor 130 = .ok (.lcmp, 1) := by decide +kernel
theorem dX12_holdsFor_131 : decode cX12_holdsFor 131 = .ok (.ifCond .ne 7, 3) := by decide +kernel
theorem dX12_holdsFor_134 : decode cX12_holdsFor 134 = .ok (.iconst 1, 1) := by decide +kernel
theorem dX12_holdsFor_135 : decode cX12_holdsFor 135 = .ok (.goto 4, 3) := by decide +kernel
theorem dX12_holdsFor_138 : decode cX12_holdsFor 138 = .ok (.iconst 0, 1) := by decide +kernel
theorem dX12_holdsFor_139 : decode cX12_holdsFor 139 = .ok (.ireturn, 1) := by decide +kernel
theorem dX12_query_0 : decode cX12_query 0 = .ok (.aload_n 0, 1) := by decide +kernel
theorem dX12_query_1 : decode cX12_query 1 = .ok (.iconst 0, 1) := by decide +kernel
theorem dX12_query_2 : decode cX12_query 2 = .ok (.putfield 74, 3) := by decide +kernel
theorem dX12_query_5 : decode cX12_query 5 = .ok (.iload_n 1, 1) := by decide +kernel
theorem dX12_query_6 : decode cX12_query 6 = .ok (.i2l, 1) := by decide +kernel
theorem dX12_query_7 : decode cX12_query 7 = .ok (.lconst 0, 1) := by decide +kernel
theorem dX12_query_8 : decode cX12_query 8 = .ok (.aload_n 0, 1) := by decide +kernel
theorem dX12_query_9 : decode cX12_query 9 = .ok (.getfield 362, 3) := by decide +kernel
theorem dX12_query_12 : decode cX12_query 12 = .ok (.sipush 200, 3) := by decide +kernel
theorem dX12_query_15 : decode cX12_query 15 = .ok (.invokestatic 518, 3) := by decide +kernel
theorem dX12_query_18 : decode cX12_query 18 = .ok (.i2l, 1) := by decide +kernel
theorem dX12_query_19 : decode cX12_query 19 = .ok (.invokestatic 243, 3) := by decide +kernel
theorem dX12_query_22 : decode cX12_query 22 = .ok (.ifCond .ne 9, 3) := by decide +kernel
theorem dX12_query_25 : decode cX12_query 25 = .ok (.aload_n 0, 1) := by decide +kernel
theorem dX12_query_26 : decode cX12_query 26 = .ok (.iconst 1, 1) := by decide +kernel
theorem dX12_query_27 : decode cX12_query 27 = .ok (.invokevirtual 247, 3) := by decide +kernel
theorem dX12_query_30 : decode cX12_query 30 = .ok (.ireturn, 1) := by decide +kernel
theorem dX12_query_31 : decode cX12_query 31 = .ok (.aload_n 0, 1) := by decide +kernel
theorem dX12_query_32 : decode cX12_query 32 = .ok (.iconst 0, 1) := by decide +kernel
theorem dX12_query_33 : decode cX12_query 33 = .ok (.putfield 483, 3) := by decide +kernel
theorem dX12_query_36 : decode cX12_query 36 = .ok (.aload_n 0, 1) := by decide +kernel
theorem dX12_query_37 : decode cX12_query 37 = .ok (.iload_n 1, 1) := by decide +kernel
theorem dX12_query_38 : decode cX12_query 38 = .ok (.invokevirtual 474, 3) := by decide +kernel
theorem dX12_query_41 : decode cX12_query 41 = .ok (.aload_n 0, 1) := by decide +kernel
theorem dX12_query_42 : decode cX12_query 42 = .ok (.ldc_w 520, 3) := by decide +kernel
theorem dX12_query_45 : decode cX12_query 45 = .ok (.invokevirtual 409, 3) := by decide +kernel
theorem dX12_query_48 : decode cX12_query 48 = .ok (.istore_n 2, 1) := by decide +kernel
theorem dX12_query_49 : decode cX12_query 49 = .ok (.aload_n 0, 1) := by decide +kernel
theorem dX12_query_50 : decode cX12_query 50 = .ok (.iload_n 2, 1) := by decide +kernel
theorem dX12_query_51 : decode cX12_query 51 = .ok (.ifCond .ne 13, 3) := by decide +kernel
theorem dX12_query_54 : decode cX12_query 54 = .ok (.aload_n 0, 1) := by decide +kernel
theorem dX12_query_55 : decode cX12_query 55 = .ok (.ldc_w 522, 3) := by decide +kernel
theorem dX12_query_58 : decode cX12_query 58 = .ok (.invokevirtual 409, 3) := by decide +kernel
theorem dX12_query_61 : decode cX12_query 61 = .ok (.ifCond .eq 7, 3) := by decide +kernel
theorem dX12_query_64 : decode cX12_query 64 = .ok (.iconst 1, 1) := by decide +kernel
theorem dX12_query_65 : decode cX12_query 65 = .ok (.goto 4, 3) := by decide +kernel
theorem dX12_query_68 : decode cX12_query 68 = .ok (.iconst 0, 1) := by decide +kernel
theorem dX12_query_69 : decode cX12_query 69 = .ok (.iconst 1, 1) := by decide +kernel
theorem dX12_query_70 : decode cX12_query 70 = .ok (.invokevirtual 413, 3) := by decide +kernel
theorem dX12_query_73 : decode cX12_query 73 = .ok (.aload_n 0, 1) := by decide +kernel
theorem dX12_query_74 : decode cX12_query 74 = .ok (.invokevirtual 417, 3) := by decide +kernel
theorem dX12_query_77 : decode cX12_query 77 = .ok (.aload_n 0, 1) := by decide +kernel
theorem dX12_query_78 : decode cX12_query 78 = .ok (.invokevirtual 498, 3) := by decide +kernel
theorem dX12_query_81 : decode cX12_query 81 = .ok (.aload_n 0, 1) := by decide +kernel
theorem dX12_query_82 : decode cX12_query 82 = .ok (.aload_n 0, 1) := by decide +kernel
theorem dX12_query_83 : decode cX12_query 83 = .ok (.getfield 386, 3) := by decide +kernel
theorem dX12_query_86 : decode cX12_query 86 = .ok (.ifCond .ne 10, 3) := by decide +kernel
theorem dX12_query_89 : decode cX12_query 89 = .ok (.aload_n 0, 1) := by decide +kernel
theorem dX12_query_90 : decode cX12_query 90 = .ok (.getfield 377, 3) := by decide +kernel
theorem dX12_query_93 : decode cX12_query 93 = .ok (.ifCond .ne 7, 3) := by decide +kernel
theorem dX12_query_96 : decode cX12_query 96 = .ok (.iconst 1, 1) := by decide +kernel
theorem dX12_query_97 : decode cX12_query 97 = .ok (.goto 4, 3) := by decide +kernel
theorem dX12_query_100 : decode cX12_query 100 = .ok (.iconst 0, 1) := by decide +kernel
theorem dX12_query_101 : decode cX12_query 101 = .ok (.iconst 1, 1) := by decide +kernel
theorem dX12_query_102 : decode cX12_query 102 = .ok (.invokevirtual 413, 3) := by decide +kernel
theorem dX12_query_105 : decode cX12_query 105 = .ok (.aload_n 0, 1) := by decide +kernel
theorem dX12_query_106 : decode cX12_query 106 = .ok (.invokevirtual 480, 3) := by decide +kernel
theorem dX12_query_109 : decode cX12_query 109 = .ok (.ifCond .eq 12, 3) := by decide +kernel
theorem dX12_query_112 : decode cX12_query 112 = .ok (.ldc_w 268, 3) := by decide +kernel
theorem dX12_query_115 : decode cX12_query 115 = .ok (.aload_n 0, 1) := by decide +kernel
theorem dX12_query_116 : decode cX12_query 116 = .ok (.getfield 386, 3) := by decide +kernel
theorem dX12_query_119 : decode cX12_query 119 = .ok (.isub, 1) := by decide +kernel
theorem dX12_query_120 : decode cX12_query 120 = .ok (.ireturn, 1) := by decide +kernel
theorem dX12_query_121 : decode cX12_query 121 = .ok (.iconst 0, 1) := by decide +kernel
theorem dX12_query_122 : decode cX12_query 122 = .ok (.istore_n 3, 1) := by decide +kernel
theorem dX12_query_123 : decode cX12_query 123 = .ok (.iconst 0, 1) := by decide +kernel
theorem dX12_query_124 : decode cX12_query 124 = .ok (.istore 4, 2) := by decide +kernel
theorem dX12_query_126 : decode cX12_query 126 = .ok (.iload 4, 2) := by decide +kernel
theorem dX12_query_128 : decode cX12_query 128 = .ok (.i2l, 1) := by decide +kernel
theorem dX12_query_129 : decode cX12_query 129 = .ok (.aload_n 0, 1) := by decide +kernel
theorem dX12_query_130 : decode cX12_query 130 = .ok (.getfield 9, 3) := by decide +kernel
theorem dX12_query_133 : decode cX12_query 133 = .ok (.iconst 2, 1) := by decide +kernel
theorem dX12_query_134 : decode cX12_query 134 = .ok (.laload, 1) := by decide +kernel
theorem dX12_query_135 : decode cX12_query 135 = .ok (.lcmp, 1) := by decide +kernel
theorem dX12_query_136 : decode cX12_query 136 = .ok (.ifCond .ge 31, 3) := by decide +kernel
theorem dX12_query_139 : decode cX12_query 139 = .ok (.aload_n 0, 1) := by decide +kernel
theorem dX12_query_140 : decode cX12_query 140 = .ok (.iload 4, 2) := by decide +kernel
theorem dX12_query_142 : decode cX12_query 142 = .ok (.invokevirtual 524, 3) := by decide +kernel
theorem dX12_query_145 : decode cX12_query 145 = .ok (.ifCond .ne 6, 3) := by decide +kernel
theorem dX12_query_148 : decode cX12_query 148 = .ok (.goto 13, 3) := by decide +kernel
theorem dX12_query_151 : decode cX12_query 151 = .ok (.iload_n 2, 1) := by decide +kernel
theorem dX12_query_152 : decode cX12_query 152 = .ok (.ifCond .eq 6, 3) := by decide +kernel
theorem dX12_query_155 : decode cX12_query 155 = .ok (.iload 4, 2) := by decide +kernel
theorem dX12_query_157 : decode cX12_query 157 = .ok (.ireturn, 1) := by decide +kernel
theorem dX12_query_158 : decode cX12_query 158 = .ok (.iinc 3 1, 3) := by decide +kernel
theorem dX12_query_161 : decode cX12_query 161 = .ok (.iinc 4 1, 3) := by decide +kernel
theorem dX12_query_164 : decode cX12_query 164 = .ok (.goto (-38), 3) := by decide +kernel
theorem dX12_query_167 : decode cX12_query 167 = .ok (.iload_n 2, 1) := by decide +kernel
theorem dX12_query_168 : decode cX12_query 168 = .ok (.ifCond .eq 7, 3) := by decide +kernel
theorem dX12_query_171 : decode cX12_query 171 = .ok (.iconst (-1), 1) := by decide +kernel
theorem dX12_query_172 : decode cX12_query 172 = .ok (.goto 4, 3) := by decide +kernel
theorem dX12_query_175 : decode cX12_query 175 = .ok (.iload_n 3, 1) := by decide +kernel
theorem dX12_query_176 : decode cX12_query 176 = .ok (.ireturn, 1) := by decide +kernel
theorem dJ5_init_d00df_0 : decode cJ5_init_d00df 0 = .ok (.aload_n 0, 1) := by decide +kernel
theorem dJ5_init_d00df_1 : decode cJ5_init_d00df 1 = .ok (.invokespecial 3, 3) := by decide +kernel
theorem dJ5_init_d00df_4 : decode cJ5_init_d00df 4 = .ok (.getstatic 18, 3) := by decide +kernel
theorem dJ5_init_d00df_7 : decode cJ5_init_d00df 7 = .ok (.ifCond .eq 18, 3) := by decide +kernel
theorem dJ5_init_d00df_10 : decode cJ5_init_d00df 10 = .ok (.aload_n 0, 1) := by decide +kernel
theorem dJ5_init_d00df_11 : decode cJ5_init_d00df 11 = .ok (.iload_n 1, 1) := by decide +kernel
theorem dJ5_init_d00df_12 : decode cJ5_init_d00df 12 = .ok (.newarray .byte, 2) := by decide +kernel
theorem dJ5_init_d00df_14 : decode cJ5_init_d00df 14 = .ok (.putfield 15, 3) := by decide +kernel
theorem dJ5_init_d00df_17 : decode cJ5_init_d00df 17 = .ok (.aload_n 0, 1) := by decide +kernel
theorem dJ5_init_d00df_18 : decode cJ5_init_d00df 18 = .ok (.iconst 0, 1) := by decide +kernel
theorem dJ5_init_d00df_19 : decode cJ5_init_d00df 19 = .ok (.putfield 22, 3) := by decide +kernel
theorem dJ5_init_d00df_22 : decode cJ5_init_d00df 22 = .ok (.goto 16, 3) := by decide +kernel
theorem dJ5_init_d00df_25 : decode cJ5_init_d00df 25 = .ok (.aload_n 0, 1) := by decide +kernel
theorem dJ5_init_d00df_26 : decode cJ5_init_d00df 26 = .ok (.iload_n 1, 1) := by decide +kernel
theorem dJ5_init_d00df_27 : decode cJ5_init_d00df 27 = .ok (.invokestatic 26, 3) := by decide +kernel
theorem dJ5_init_d00df_30 : decode cJ5_init_d00df 30 = .ok (.putfield 15, 3) := by decide +kernel
theorem dJ5_init_d00df_33 : decode cJ5_init_d00df 33 = .ok (.aload_n 0, 1) := by decide +kernel
theorem dJ5_init_d00df_34 : decode cJ5_init_d00df 34 = .ok (.iconst 1, 1) := by decide +kernel
theorem dJ5_init_d00df_35 : decode cJ5_init_d00df 35 = .ok (.putfield 22, 3) := by decide +kernel
theorem dJ5_init_d00df_38 : decode cJ5_init_d00df 38 = .ok (.return_, 1) := by decide +kernel
theorem dJ5_length_8abf5_0 : decode cJ5_length_8abf5 0 = .ok (.aload_n 0, 1) := by decide +kernel
theorem dJ5_length_8abf5_1 : decode cJ5_length_8abf5 1 = .ok (.getfield 79, 3) := by decide +kernel
theorem dJ5_length_8abf5_4 : decode cJ5_length_8abf5 4 = .ok (.ireturn, 1) := by decide +kernel
theorem dJ5_ensureCapacityInternal_d00df_0 : decode cJ5_ensureCapacityInternal_d00df 0 = .ok (.aload_n 0, 1) := by decide +kernel
theorem dJ5_ensureCapacityInternal_d00df_1 : decode cJ5_ensureCapacityInternal_d00df 1 = .ok (.getfield 15, 3) := by decide +kernel
theorem dJ5_ensureCapacityInternal_d00df_4 : decode cJ5_ensureCapacityInternal_d00df 4 = .ok (.arraylength, 1) := by decide +kernel
theorem dJ5_ensureCapacityInternal_d00df_5 : decode cJ5_ensureCapacityInternal_d00df 5 = .ok (.aload_n 0, 1) := by decide +kernel
theorem dJ5_ensureCapacityInternal_d00df_6 : decode cJ5_ensureCapacityInternal_d00df 6 = .ok (.getfield 22, 3) := by decide +kernel
theorem dJ5_ensureCapacityInternal_d00df_9 : decode cJ5_ensureCapacityInternal_d00df 9 = .ok (.ishr, 1) := by decide +kernel
theorem dJ5_ensureCapacityInternal_d00df_10 : decode cJ5_ensureCapacityInternal_d00df 10 = .ok (.istore_n 2, 1) := by decide +kernel
theorem dJ5_ensureCapacityInternal_d00df_11 : decode cJ5_ensureCapacityInternal_d00df 11 = .ok (.iload_n 1, 1) := by decide +kernel
theorem dJ5_ensureCapacityInternal_d00df_12 : decode cJ5_ensureCapacityInternal_d00df 12 = .ok (.iload_n 2, 1) := by decide +kernel
theorem dJ5_ensureCapacityInternal_d00df_13 : decode cJ5_ensureCapacityInternal_d00df 13 = .ok (.isub, 1) := by decide +kernel
theorem dJ5_ensureCapacityInternal_d00df_14 : decode cJ5_ensureCapacityInternal_d00df 14 = .ok (.ifCond .le 24, 3) := by decide +kernel
theorem dJ5_ensureCapacityInternal_d00df_17 : decode cJ5_ensureCapacityInternal_d00df 17 = .ok (.aload_n 0, 1) := by decide +kernel
theorem dJ5_ensureCapacityInternal_d00df_18 : decode cJ5_ensureCapacityInternal_d00df 18 = .ok (.aload_n 0, 1) := by decide +kernel
theorem dJ5_ensureCapacityInternal_d00df_19 : decode cJ5_ensureCapacityInternal_d00df 19 = .ok (.getfield 15, 3) := by decide +kernel
theorem dJ5_ensureCapacityInternal_d00df_22 : decode cJ5_ensureCapacityInternal_d00df 22 = .ok (.aload_n 0, 1) := by decide +kernel
theorem dJ5_ensureCapacityInternal_d00df_23 : decode cJ5_ensureCapacityInternal_d00df 23 = .ok (.iload_n 1, 1) := by decide +kernel
theorem dJ5_ensureCapacityInternal_d00df_24 : decode cJ5_ensureCapacityInternal_d00df 24 = .ok (.invokevirtual 104, 3) := by decide +kernel
theorem dJ5_ensureCapacityInternal_d00df_27 : decode cJ5_ensureCapacityInternal_d00df 27 = .ok (.aload_n 0, 1) := by decide +kernel
theorem dJ5_ensureCapacityInternal_d00df_28 : decode cJ5_ensureCapacityInternal_d00df 28 = .ok (.getfield 22, 3) := by decide +kernel
theorem dJ5_ensureCapacityInternal_d00df_31 : decode cJ5_ensureCapacityInternal_d00df 31 = .ok (.ishl, 1) := by decide +kernel
theorem dJ5_ensureCapacityInternal_d00df_32 : decode cJ5_ensureCapacityInternal_d00df 32 = .ok (.invokestatic 108, 3) := by decide +kernel
theorem dJ5_ensureCapacityInternal_d00df_35 : decode cJ5_ensureCapacityInternal_d00df 35 = .ok (.putfield 15, 3) := by decide +kernel
theorem dJ5_ensureCapacityInternal_d00df_38 : decode cJ5_ensureCapacityInternal_d00df 38 = .ok (.return_, 1) := by decide +kernel
theorem dJ5_newCapacity_0f7a4_0 : decode cJ5_newCapacity_0f7a4 0 = .ok (.aload_n 0, 1) := by decide +kernel
theorem dJ5_newCapacity_0f7a4_1 : decode cJ5_newCapacity_0f7a4 1 = .ok (.getfield 15, 3) := by decide +kernel
theorem dJ5_newCapacity_0f7a4_4 : decode cJ5_newCapacity_0f7a4 4 = .ok (.arraylength, 1) := by decide +kernel
theorem dJ5_newCapacity_0f7a4_5 : decode cJ5_newCapacity_0f7a4 5 = .ok (.istore_n 2, 1) := by decide +kernel
theorem dJ5_newCapacity_0f7a4_6 : decode cJ5_newCapacity_0f7a4 6 = .ok (.iload_n 1, 1) := by decide +kernel
theorem dJ5_newCapacity_0f7a4_7 : decode cJ5_newCapacity_0f7a4 7 = .ok (.aload_n 0, 1) := by decide +kernel
theorem dJ5_newCapacity_0f7a4_8 : decode cJ5_newCapacity_0f7a4 8 = .ok (.getfield 22, 3) := by decide +kernel
theorem dJ5_newCapacity_0f7a4_11 : decode cJ5_newCapacity_0f7a4 11 = .ok (.ishl, 1) := by decide +kernel
theorem dJ5_newCapacity_0f7a4_12 : decode cJ5_newCapacity_0f7a4 12 = .ok (.istore_n 3, 1) := by decide +kernel
theorem dJ5_newCapacity_0f7a4_13 : decode cJ5_newCapacity_0f7a4 13 = .ok (.iload_n 3, 1) := by decide +kernel
theorem dJ5_newCapacity_0f7a4_14 : decode cJ5_newCapacity_0f7a4 14 = .ok (.iload_n 2, 1) := by decide +kernel
theorem dJ5_newCapacity_0f7a4_15 : decode cJ5_newCapacity_0f7a4 15 = .ok (.isub, 1) := by decide +kernel
theorem dJ5_newCapacity_0f7a4_16 : decode cJ5_newCapacity_0f7a4 16 = .ok (.istore 4, 2) := by decide +kernel
theorem dJ5_newCapacity_0f7a4_18 : decode cJ5_newCapacity_0f7a4 18 = .ok (.iload_n 2, 1) := by decide +kernel
theorem dJ5_newCapacity_0f7a4_19 : decode cJ5_newCapacity_0f7a4 19 = .ok (.iload 4, 2) := by decide +kernel
theorem dJ5_newCapacity_0f7a4_21 : decode cJ5_newCapacity_0f7a4 21 = .ok (.iload_n 2, 1) := by decide +kernel
theorem dJ5_newCapacity_0f7a4_22 : decode cJ5_newCapacity_0f7a4 22 = .ok (.iconst 2, 1) := by decide +kernel
theorem dJ5_newCapacity_0f7a4_23 : decode cJ5_newCapacity_0f7a4 23 = .ok (.aload_n 0, 1) := by decide +kernel
theorem dJ5_newCapacity_0f7a4_24 : decode cJ5_newCapacity_0f7a4 24 = .ok (.getfield 22, 3) := by decide +kernel
theorem dJ5_newCapacity_0f7a4_27 : decode cJ5_newCapacity_0f7a4 27 = .ok (.ishl, 1) := by decide +kernel
theorem dJ5_newCapacity_0f7a4_28 : decode cJ5_newCapacity_0f7a4 28 = .ok (.iadd, 1) := by decide +kernel
theorem dJ5_newCapacity_0f7a4_29 : decode cJ5_newCapacity_0f7a4 29 = .ok (.invokestatic 114, 3) := by decide +kernel
theorem dJ5_newCapacity_0f7a4_32 : decode cJ5_newCapacity_0f7a4 32 = .ok (.istore 5, 2) := by decide +kernel
theorem dJ5_newCapacity_0f7a4_34 : decode cJ5_newCapacity_0f7a4 34 = .ok (.iload 5, 2) := by decide +kernel
theorem dJ5_newCapacity_0f7a4_36 : decode cJ5_newCapacity_0f7a4 36 = .ok (.ldc 39, 2) := by decide +kernel
theorem dJ5_newCapacity_0f7a4_38 : decode cJ5_newCapacity_0f7a4 38 = .ok (.if_icmp .ne 13, 3) := by decide +kernel
theorem dJ5_newCapacity_0f7a4_41 : decode cJ5_newCapacity_0f7a4 41 = .ok (.new 120, 3) := by decide +kernel
theorem dJ5_newCapacity_0f7a4_44 : decode cJ5_newCapacity_0f7a4 44 = .ok (.dup, 1) := by decide +kernel
theorem dJ5_newCapacity_0f7a4_45 : decode cJ5_newCapacity_0f7a4 45 = .ok (.ldc 122, 2) := by decide +kernel
theorem dJ5_newCapacity_0f7a4_47 : decode cJ5_newCapacity_0f7a4 47 = .ok (.invokespecial 124, 3) := by decide +kernel
theorem dJ5_newCapacity_0f7a4_50 : decode cJ5_newCapacity_0f7a4 50 = .ok (.athrow, 1) := by decide +kernel
theorem dJ5_newCapacity_0f7a4_51 : decode cJ5_newCapacity_0f7a4 51 = .ok (.iload 5, 2) := by decide +kernel
theorem dJ5_newCapacity_0f7a4_53 : decode cJ5_newCapacity_0f7a4 53 = .ok (.aload_n 0, 1) := by decide +kernel
theorem dJ5_newCapacity_0f7a4_54 : decode cJ5_newCapacity_0f7a4 54 = .ok (.getfield 22, 3) := by decide +kernel
theorem dJ5_newCapacity_0f7a4_57 : decode cJ5_newCapacity_0f7a4 57 = .ok (.ishr, 1) := by decide +kernel
theorem dJ5_newCapacity_0f7a4_58 : decode cJ5_newCapacity_0f7a4 58 = .ok (.ireturn, 1) := by decide +kernel
theorem dJ5_inflate_da8c8_0 : decode cJ5_inflate_da8c8 0 = .ok (.aload_n 0, 1) := by decide +kernel
theorem dJ5_inflate_da8c8_1 : decode cJ5_inflate_da8c8 1 = .ok (.invokevirtual 83, 3) := by decide +kernel
theorem dJ5_inflate_da8c8_4 : decode cJ5_inflate_da8c8 4 = .ok (.ifCond .ne 4, 3) := by decide +kernel
theorem dJ5_inflate_da8c8_7 : decode cJ5_inflate_da8c8 7 = .ok (.return_, 1) := by decide +kernel
theorem dJ5_inflate_da8c8_8 : decode cJ5_inflate_da8c8 8 = .ok (.aload_n 0, 1) := by decide +kernel
theorem dJ5_inflate_da8c8_9 : decode cJ5_inflate_da8c8 9 = .ok (.getfield 15, 3) := by decide +kernel
theorem dJ5_inflate_da8c8_12 : decode cJ5_inflate_da8c8 12 = .ok (.arraylength, 1) := by decide +kernel
theorem dJ5_inflate_da8c8_13 : decode cJ5_inflate_da8c8 13 = .ok (.invokestatic 26, 3) := by decide +kernel
theorem dJ5_inflate_da8c8_16 : decode cJ5_inflate_da8c8 16 = .ok (.astore_n 1, 1) := by decide +kernel
theorem dJ5_inflate_da8c8_17 : decode cJ5_inflate_da8c8 17 = .ok (.aload_n 0, 1) := by decide +kernel
theorem dJ5_inflate_da8c8_18 : decode cJ5_inflate_da8c8 18 = .ok (.getfield 15, 3) := by decide +kernel
theorem dJ5_inflate_da8c8_21 : decode cJ5_inflate_da8c8 21 = .ok (.iconst 0, 1) := by decide +kernel
theorem dJ5_inflate_da8c8_22 : decode cJ5_inflate_da8c8 22 = .ok (.aload_n 1, 1) := by decide +kernel
theorem dJ5_inflate_da8c8_23 : decode cJ5_inflate_da8c8 23 = .ok (.iconst 0, 1) := by decide +kernel
theorem dJ5_inflate_da8c8_24 : decode cJ5_inflate_da8c8 24 = .ok (.aload_n 0, 1) := by decide +kernel
theorem dJ5_inflate_da8c8_25 : decode cJ5_inflate_da8c8 25 = .ok (.getfield 79, 3) := by decide +kernel
theorem dJ5_inflate_da8c8_28 : decode cJ5_inflate_da8c8 28 = .ok (.invokestatic 125, 3) := by decide +kernel
theorem dJ5_inflate_da8c8_31 : decode cJ5_inflate_da8c8 31 = .ok (.aload_n 0, 1) := by decide +kernel
theorem dJ5_inflate_da8c8_32 : decode cJ5_inflate_da8c8 32 = .ok (.aload_n 1, 1) := by decide +kernel
theorem dJ5_inflate_da8c8_33 : decode cJ5_inflate_da8c8 33 = .ok (.putfield 15, 3) := by decide +kernel
theorem dJ5_inflate_da8c8_36 : decode cJ5_inflate_da8c8 36 = .ok (.aload_n 0, 1) := by decide +kernel
theorem dJ5_inflate_da8c8_37 : decode cJ5_inflate_da8c8 37 = .ok (.iconst 1, 1) := by decide +kernel
theorem dJ5_inflate_da8c8_38 : decode cJ5_inflate_da8c8 38 = .ok (.putfield 22, 3) := by decide +kernel
theorem dJ5_inflate_da8c8_41 : decode cJ5_inflate_da8c8 41 = .ok (.return_, 1) := by decide +kernel
theorem dJ5_setLength_d00df_0 : decode cJ5_setLength_d00df 0 = .ok (.iload_n 1, 1) := by decide +kernel
theorem dJ5_setLength_d00df_1 : decode cJ5_setLength_d00df 1 = .ok (.ifCond .ge 12, 3) := by decide +kernel
theorem dJ5_setLength_d00df_4 : decode cJ5_setLength_d00df 4 = .ok (.new 129, 3) := by decide +kernel
theorem dJ5_setLength_d00df_7 : decode cJ5_setLength_d00df 7 = .ok (.dup, 1) := by decide +kernel
theorem dJ5_setLength_d00df_8 : decode cJ5_setLength_d00df 8 = .ok (.iload_n 1, 1) := by decide +kernel
theorem dJ5_setLength_d00df_9 : decode cJ5_setLength_d00df 9 = .ok (.invokespecial 131, 3) := by decide +kernel
theorem dJ5_setLength_d00df_12 : decode cJ5_setLength_d00df 12 = .ok (.athrow, 1) := by decide +kernel
theorem dJ5_setLength_d00df_13 : decode cJ5_setLength_d00df 13 = .ok (.aload_n 0, 1) := by decide +kernel
theorem dJ5_setLength_d00df_14 : decode cJ5_setLength_d00df 14 = .ok (.iload_n 1, 1) := by decide +kernel
theorem dJ5_setLength_d00df_15 : decode cJ5_setLength_d00df 15 = .ok (.invokevirtual 100, 3) := by decide +kernel
theorem dJ5_setLength_d00df_18 : decode cJ5_setLength_d00df 18 = .ok (.aload_n 0, 1) := by decide +kernel
theorem dJ5_setLength_d00df_19 : decode cJ5_setLength_d00df 19 = .ok (.getfield 79, 3) := by decide +kernel
theorem dJ5_setLength_d00df_22 : decode cJ5_setLength_d00df 22 = .ok (.iload_n 1, 1) := by decide +kernel
theorem dJ5_setLength_d00df_23 : decode cJ5_setLength_d00df 23 = .ok (.if_icmp .ge 40, 3) := by decide +kernel
theorem dJ5_setLength_d00df_26 : decode cJ5_setLength_d00df 26 = .ok (.aload_n 0, 1) := by decide +kernel
theorem dJ5_setLength_d00df_27 : decode cJ5_setLength_d00df 27 = .ok (.invokevirtual 83, 3) := by decide +kernel
theorem dJ5_setLength_d00df_30 : decode cJ5_setLength_d00df 30 = .ok (.ifCond .eq 18, 3) := by decide +kernel
theorem dJ5_setLength_d00df_33 : decode cJ5_setLength_d00df 33 = .ok (.aload_n 0, 1) := by decide +kernel
theorem dJ5_setLength_d00df_34 : decode cJ5_setLength_d00df 34 = .ok (.getfield 15, 3) := by decide +kernel
theorem dJ5_setLength_d00df_37 : decode cJ5_setLength_d00df 37 = .ok (.aload_n 0, 1) := by decide +kernel
theorem dJ5_setLength_d00df_38 : decode cJ5_setLength_d00df 38 = .ok (.getfield 79, 3) := by decide +kernel
theorem dJ5_setLength_d00df_41 : decode cJ5_setLength_d00df 41 = .ok (.iload_n 1, 1) := by decide +kernel
theorem dJ5_setLength_d00df_42 : decode cJ5_setLength_d00df 42 = .ok (.invokestatic 133, 3) := by decide +kernel
theorem dJ5_setLength_d00df_45 : decode cJ5_setLength_d00df 45 = .ok (.goto 31, 3) := by decide +kernel
theorem dJ5_setLength_d00df_48 : decode cJ5_setLength_d00df 48 = .ok (.aload_n 0, 1) := by decide +kernel
theorem dJ5_setLength_d00df_49 : decode cJ5_setLength_d00df 49 = .ok (.getfield 15, 3) := by decide +kernel
theorem dJ5_setLength_d00df_52 : decode cJ5_setLength_d00df 52 = .ok (.aload_n 0, 1) := by decide +kernel
theorem dJ5_setLength_d00df_53 : decode cJ5_setLength_d00df 53 = .ok (.getfield 79, 3) := by decide +kernel
theorem dJ5_setLength_d00df_56 : decode cJ5_setLength_d00df 56 = .ok (.iload_n 1, 1) := by decide +kernel
theorem dJ5_setLength_d00df_57 : decode cJ5_setLength_d00df 57 = .ok (.invokestatic 137, 3) := by decide +kernel
theorem dJ5_setLength_d00df_60 : decode cJ5_setLength_d00df 60 = .ok (.goto 16, 3) := by decide +kernel
theorem dJ5_setLength_d00df_63 : decode cJ5_setLength_d00df 63 = .ok (.aload_n 0, 1) := by decide +kernel
theorem dJ5_setLength_d00df_64 : decode cJ5_setLength_d00df 64 = .ok (.getfield 79, 3) := by decide +kernel
theorem dJ5_setLength_d00df_67 : decode cJ5_setLength_d00df 67 = .ok (.iload_n 1, 1) := by decide +kernel
theorem dJ5_setLength_d00df_68 : decode cJ5_setLength_d00df 68 = .ok (.if_icmp .le 8, 3) := by decide +kernel
theorem dJ5_setLength_d00df_71 : decode cJ5_setLength_d00df 71 = .ok (.aload_n 0, 1) := by decide +kernel
theorem dJ5_setLength_d00df_72 : decode cJ5_setLength_d00df 72 = .ok (.iconst 1, 1) := by decide +kernel
theorem dJ5_setLength_d00df_73 : decode cJ5_setLength_d00df 73 = .ok (.putfield 73, 3) := by decide +kernel
theorem dJ5_setLength_d00df_76 : decode cJ5_setLength_d00df 76 = .ok (.aload_n 0, 1) := by decide +kernel
theorem dJ5_setLength_d00df_77 : decode cJ5_setLength_d00df 77 = .ok (.iload_n 1, 1) := by decide +kernel
theorem dJ5_setLength_d00df_78 : decode cJ5_setLength_d00df 78 = .ok (.putfield 79, 3) := by decide +kernel
theorem dJ5_setLength_d00df_81 : decode cJ5_setLength_d00df 81 = .ok (.return_, 1) := by decide +kernel
theorem dJ5_charAt_5068e_0 : decode cJ5_charAt_5068e 0 = .ok (.aload_n 0, 1) := by decide +kernel
theorem dJ5_charAt_5068e_1 : decode cJ5_charAt_5068e 1 = .ok (.getfield 22, 3) := by decide +kernel
theorem dJ5_charAt_5068e_4 : decode cJ5_charAt_5068e 4 = .ok (.istore_n 2, 1) := by decide +kernel
theorem dJ5_charAt_5068e_5 : decode cJ5_charAt_5068e 5 = .ok (.aload_n 0, 1) := by decide +kernel
theorem dJ5_charAt_5068e_6 : decode cJ5_charAt_5068e 6 = .ok (.getfield 15, 3) := by decide +kernel
theorem dJ5_charAt_5068e_9 : decode cJ5_charAt_5068e 9 = .ok (.astore_n 3, 1) := by decide +kernel
theorem dJ5_charAt_5068e_10 : decode cJ5_charAt_5068e 10 = .ok (.aload_n 0, 1) := by decide +kernel
theorem dJ5_charAt_5068e_11 : decode cJ5_charAt_5068e 11 = .ok (.getfield 79, 3) := by decide +kernel
theorem dJ5_charAt_5068e_14 : decode cJ5_charAt_5068e 14 = .ok (.aload_n 3, 1) := by decide +kernel
theorem dJ5_charAt_5068e_15 : decode cJ5_charAt_5068e 15 = .ok (.arraylength, 1) := by decide +kernel
theorem dJ5_charAt_5068e_16 : decode cJ5_charAt_5068e 16 = .ok (.iload_n 2, 1) := by decide +kernel
theorem dJ5_charAt_5068e_17 : decode cJ5_charAt_5068e 17 = .ok (.ishr, 1) := by decide +kernel
theorem dJ5_charAt_5068e_18 : decode cJ5_charAt_5068e 18 = .ok (.invokestatic 138, 3) := by decide +kernel
theorem dJ5_charAt_5068e_21 : decode cJ5_charAt_5068e 21 = .ok (.istore 4, 2) := by decide +kernel
theorem dJ5_charAt_5068e_23 : decode cJ5_charAt_5068e 23 = .ok (.iload_n 1, 1) := by decide +kernel
theorem dJ5_charAt_5068e_24 : decode cJ5_charAt_5068e 24 = .ok (.iload 4, 2) := by decide +kernel
theorem dJ5_charAt_5068e_26 : decode cJ5_charAt_5068e 26 = .ok (.invokestatic 144, 3) := by decide +kernel
theorem dJ5_charAt_5068e_29 : decode cJ5_charAt_5068e 29 = .ok (.iload_n 2, 1) := by decide +kernel
theorem dJ5_charAt_5068e_30 : decode cJ5_charAt_5068e 30 = .ok (.ifCond .ne 12, 3) := by decide +kernel
theorem dJ5_charAt_5068e_33 : decode cJ5_charAt_5068e 33 = .ok (.aload_n 3, 1) := by decide +kernel
theorem dJ5_charAt_5068e_34 : decode cJ5_charAt_5068e 34 = .ok (.iload_n 1, 1) := by decide +kernel
theorem dJ5_charAt_5068e_35 : decode cJ5_charAt_5068e 35 = .ok (.baload, 1) := by decide +kernel
theorem dJ5_charAt_5068e_36 : decode cJ5_charAt_5068e 36 = .ok (.sipush 255, 3) := by decide +kernel
theorem dJ5_charAt_5068e_39 : decode cJ5_charAt_5068e 39 = .ok (.iand, 1) := by decide +kernel
theorem dJ5_charAt_5068e_40 : decode cJ5_charAt_5068e 40 = .ok (.i2c, 1) := by decide +kernel
theorem dJ5_charAt_5068e_41 : decode cJ5_charAt_5068e 41 = .ok (.ireturn, 1) := by decide +kernel
theorem dJ5_charAt_5068e_42 : decode cJ5_charAt_5068e 42 = .ok (.aload_n 3, 1) := by decide +kernel
theorem dJ5_charAt_5068e_43 : decode cJ5_charAt_5068e 43 = .ok (.iload_n 1, 1) := by decide +kernel
theorem dJ5_charAt_5068e_44 : decode cJ5_charAt_5068e 44 = .ok (.invokestatic 148, 3) := by decide +kernel
theorem dJ5_charAt_5068e_47 : decode cJ5_charAt_5068e 47 = .ok (.ireturn, 1) := by decide +kernel
theorem dJ5_append_cf1ce_0 : decode cJ5_append_cf1ce 0 = .ok (.aload_n 1, 1) := by decide +kernel
theorem dJ5_append_cf1ce_1 : decode cJ5_append_cf1ce 1 = .ok (.ifnonnull 8, 3) := by decide +kernel
theorem dJ5_append_cf1ce_4 : decode cJ5_append_cf1ce 4 = .ok (.aload_n 0, 1) := by decide +kernel
theorem dJ5_append_cf1ce_5 : decode cJ5_append_cf1ce 5 = .ok (.invokevirtual 204, 3) := by decide +kernel
theorem dJ5_append_cf1ce_8 : decode cJ5_append_cf1ce 8 = .ok (.areturn, 1) := by decide +kernel
theorem dJ5_append_cf1ce_9 : decode cJ5_append_cf1ce 9 = .ok (.aload_n 1, 1) := by decide +kernel
theorem dJ5_append_cf1ce_10 : decode cJ5_append_cf1ce 10 = .ok (.invokevirtual 32, 3) := by decide +kernel
theorem dJ5_append_cf1ce_13 : decode cJ5_append_cf1ce 13 = .ok (.istore_n 2, 1) := by decide +kernel
theorem dJ5_append_cf1ce_14 : decode cJ5_append_cf1ce 14 = .ok (.aload_n 0, 1) := by decide +kernel
theorem dJ5_append_cf1ce_15 : decode cJ5_append_cf1ce 15 = .ok (.aload_n 0, 1) := by decide +kernel
theorem dJ5_append_cf1ce_16 : decode cJ5_append_cf1ce 16 = .ok (.getfield 79, 3) := by decide +kernel
theorem dJ5_append_cf1ce_19 : decode cJ5_append_cf1ce 19 = .ok (.iload_n 2, 1) := by decide +kernel
theorem dJ5_append_cf1ce_20 : decode cJ5_append_cf1ce 20 = .ok (.iadd, 1) := by decide +kernel
theorem dJ5_append_cf1ce_21 : decode cJ5_append_cf1ce 21 = .ok (.invokevirtual 100, 3) := by decide +kernel
theorem dJ5_append_cf1ce_24 : decode cJ5_append_cf1ce 24 = .ok (.aload_n 0, 1) := by decide +kernel
theorem dJ5_append_cf1ce_25 : decode cJ5_append_cf1ce 25 = .ok (.aload_n 0, 1) := by decide +kernel
theorem dJ5_append_cf1ce_26 : decode cJ5_append_cf1ce 26 = .ok (.getfield 79, 3) := by decide +kernel
theorem dJ5_append_cf1ce_29 : decode cJ5_append_cf1ce 29 = .ok (.aload_n 1, 1) := by decide +kernel
theorem dJ5_append_cf1ce_30 : decode cJ5_append_cf1ce 30 = .ok (.invokevirtual 208, 3) := by decide +kernel
theorem dJ5_append_cf1ce_33 : decode cJ5_append_cf1ce 33 = .ok (.aload_n 0, 1) := by decide +kernel
theorem dJ5_append_cf1ce_34 : decode cJ5_append_cf1ce 34 = .ok (.dup, 1) := by decide +kernel
theorem dJ5_append_cf1ce_35 : decode cJ5_append_cf1ce 35 = .ok (.getfield 79, 3) := by decide +kernel
theorem dJ5_append_cf1ce_38 : decode cJ5_append_cf1ce 38 = .ok (.iload_n 2, 1) := by decide +kernel
theorem dJ5_append_cf1ce_39 : decode cJ5_append_cf1ce 39 = .ok (.iadd, 1) := by decide +kernel
theorem dJ5_append_cf1ce_40 : decode cJ5_append_cf1ce 40 = .ok (.putfield 79, 3) := by decide +kernel
theorem dJ5_append_cf1ce_43 : decode cJ5_append_cf1ce 43 = .ok (.aload_n 0, 1) := by decide +kernel
theorem dJ5_append_cf1ce_44 : decode cJ5_append_cf1ce 44 = .ok (.areturn, 1) := by decide +kernel
theorem dJ5_appendNull_278bc_0 : decode cJ5_appendNull_278bc 0 = .ok (.aload_n 0, 1) := by decide +kernel
theorem dJ5_appendNull_278bc_1 : decode cJ5_appendNull_278bc 1 = .ok (.aload_n 0, 1) := by decide +kernel
theorem dJ5_appendNull_278bc_2 : decode cJ5_appendNull_278bc 2 = .ok (.getfield 79, 3) := by decide +kernel
theorem dJ5_appendNull_278bc_5 : decode cJ5_appendNull_278bc 5 = .ok (.iconst 4, 1) := by decide +kernel
theorem dJ5_appendNull_278bc_6 : decode cJ5_appendNull_278bc 6 = .ok (.iadd, 1) := by decide +kernel
theorem dJ5_appendNull_278bc_7 : decode cJ5_appendNull_278bc 7 = .ok (.invokevirtual 100, 3) := by decide +kernel
theorem dJ5_appendNull_278bc_10 : decode cJ5_appendNull_278bc 10 = .ok (.aload_n 0, 1) := by decide +kernel
theorem dJ5_appendNull_278bc_11 : decode cJ5_appendNull_278bc 11 = .ok (.getfield 79, 3) := by decide +kernel
theorem dJ5_appendNull_278bc_14 : decode cJ5_appendNull_278bc 14 = .ok (.istore_n 1, 1) := by decide +kernel
theorem dJ5_appendNull_278bc_15 : decode cJ5_appendNull_278bc 15 = .ok (.aload_n 0, 1) := by decide +kernel
theorem dJ5_appendNull_278bc_16 : decode cJ5_appendNull_278bc 16 = .ok (.getfield 15, 3) := by decide +kernel
theorem dJ5_appendNull_278bc_19 : decode cJ5_appendNull_278bc 19 = .ok (.astore_n 2, 1) := by decide +kernel
theorem dJ5_appendNull_278bc_20 : decode cJ5_appendNull_278bc 20 = .ok (.aload_n 0, 1) := by decide +kernel
theorem dJ5_appendNull_278bc_21 : decode cJ5_appendNull_278bc 21 = .ok (.invokevirtual 83, 3) := by decide +kernel
theorem dJ5_appendNull_278bc_24 : decode cJ5_appendNull_278bc 24 = .ok (.ifCond .eq 38, 3) := by decide +kernel
theorem dJ5_appendNull_278bc_27 : decode cJ5_appendNull_278bc 27 = .ok (.aload_n 2, 1) := by decide +kernel
theorem dJ5_appendNull_278bc_28 : decode cJ5_appendNull_278bc 28 = .ok (.iload_n 1, 1) := by decide +kernel
theorem dJ5_appendNull_278bc_29 : decode cJ5_appendNull_278bc 29 = .ok (.iinc 1 1, 3) := by decide +kernel
theorem dJ5_appendNull_278bc_32 : decode cJ5_appendNull_278bc 32 = .ok (.bipush 110, 2) := by decide +kernel
theorem dJ5_appendNull_278bc_34 : decode cJ5_appendNull_278bc 34 = .ok (.bastore, 1) := by decide +kernel
theorem dJ5_appendNull_278bc_35 : decode cJ5_appendNull_278bc 35 = .ok (.aload_n 2, 1) := by decide +kernel
theorem dJ5_appendNull_278bc_36 : decode cJ5_appendNull_278bc 36 = .ok (.iload_n 1, 1) := by decide +kernel
theorem dJ5_appendNull_278bc_37 : decode cJ5_appendNull_278bc 37 = .ok (.iinc 1 1, 3) := by decide +kernel
theorem dJ5_appendNull_278bc_40 : decode cJ5_appendNull_278bc 40 = .ok (.bipush 117, 2) := by decide +kernel
theorem dJ5_appendNull_278bc_42 : decode cJ5_appendNull_278bc 42 = .ok (.bastore, 1) := by decide +kernel
theorem dJ5_appendNull_278bc_43 : decode cJ5_appendNull_278bc 43 = .ok (.aload_n 2, 1) := by decide +kernel
theorem dJ5_appendNull_278bc_44 : decode cJ5_appendNull_278bc 44 = .ok (.iload_n 1, 1) := by decide +kernel
theorem dJ5_appendNull_278bc_45 : decode cJ5_appendNull_278bc 45 = .ok (.iinc 1 1, 3) := by decide +kernel
theorem dJ5_appendNull_278bc_48 : decode cJ5_appendNull_278bc 48 = .ok (.bipush 108, 2) := by decide +kernel
theorem dJ5_appendNull_278bc_50 : decode cJ5_appendNull_278bc 50 = .ok (.bastore, 1) := by decide +kernel
theorem dJ5_appendNull_278bc_51 : decode cJ5_appendNull_278bc 51 = .ok (.aload_n 2, 1) := by decide +kernel
theorem dJ5_appendNull_278bc_52 : decode cJ5_appendNull_278bc 52 = .ok (.iload_n 1, 1) := by decide +kernel
theorem dJ5_appendNull_278bc_53 : decode cJ5_appendNull_278bc 53 = .ok (.iinc 1 1, 3) := by decide +kernel
theorem dJ5_appendNull_278bc_56 : decode cJ5_appendNull_278bc 56 = .ok (.bipush 108, 2) := by decide +kernel
theorem dJ5_appendNull_278bc_58 : decode cJ5_appendNull_278bc 58 = .ok (.bastore, 1) := by decide +kernel
theorem dJ5_appendNull_278bc_59 : decode cJ5_appendNull_278bc 59 = .ok (.goto 17, 3) := by decide +kernel
theorem dJ5_appendNull_278bc_62 : decode cJ5_appendNull_278bc 62 = .ok (.aload_n 2, 1) := by decide +kernel
theorem dJ5_appendNull_278bc_63 : decode cJ5_appendNull_278bc 63 = .ok (.iload_n 1, 1) := by decide +kernel
theorem dJ5_appendNull_278bc_64 : decode cJ5_appendNull_278bc 64 = .ok (.bipush 110, 2) := by decide +kernel
theorem dJ5_appendNull_278bc_66 : decode cJ5_appendNull_278bc 66 = .ok (.bipush 117, 2) := by decide +kernel
theorem dJ5_appendNull_278bc_68 : decode cJ5_appendNull_278bc 68 = .ok (.bipush 108, 2) := by decide +kernel
theorem dJ5_appendNull_278bc_70 : decode cJ5_appendNull_278bc 70 = .ok (.bipush 108, 2) := by decide +kernel
theorem dJ5_appendNull_278bc_72 : decode cJ5_appendNull_278bc 72 = .ok (.invokestatic 226, 3) := by decide +kernel
theorem dJ5_appendNull_278bc_75 : decode cJ5_appendNull_278bc 75 = .ok (.istore_n 1, 1) := by decide +kernel
theorem dJ5_appendNull_278bc_76 : decode cJ5_appendNull_278bc 76 = .ok (.aload_n 0, 1) := by decide +kernel
theorem dJ5_appendNull_278bc_77 : decode cJ5_appendNull_278bc 77 = .ok (.iload_n 1, 1) := by decide +kernel
theorem dJ5_appendNull_278bc_78 : decode cJ5_appendNull_278bc 78 = .ok (.putfield 79, 3) := by decide +kernel
theorem dJ5_appendNull_278bc_81 : decode cJ5_appendNull_278bc 81 = .ok (.aload_n 0, 1) := by decide +kernel
theorem dJ5_appendNull_278bc_82 : decode cJ5_appendNull_278bc 82 = .ok (.areturn, 1) := by decide +kernel
theorem dJ5_append_3fe6f_0 : decode cJ5_append_3fe6f 0 = .ok (.aload_n 0, 1) := by decide +kernel
theorem dJ5_append_3fe6f_1 : decode cJ5_append_3fe6f 1 = .ok (.aload_n 0, 1) := by decide +kernel
theorem dJ5_append_3fe6f_2 : decode cJ5_append_3fe6f 2 = .ok (.getfield 79, 3) := by decide +kernel
theorem dJ5_append_3fe6f_5 : decode cJ5_append_3fe6f 5 = .ok (.iconst 1, 1) := by decide +kernel
theorem dJ5_append_3fe6f_6 : decode cJ5_append_3fe6f 6 = .ok (.iadd, 1) := by decide +kernel
theorem dJ5_append_3fe6f_7 : decode cJ5_append_3fe6f 7 = .ok (.invokevirtual 100, 3) := by decide +kernel
theorem dJ5_append_3fe6f_10 : decode cJ5_append_3fe6f 10 = .ok (.aload_n 0, 1) := by decide +kernel
theorem dJ5_append_3fe6f_11 : decode cJ5_append_3fe6f 11 = .ok (.invokevirtual 83, 3) := by decide +kernel
theorem dJ5_append_3fe6f_14 : decode cJ5_append_3fe6f 14 = .ok (.ifCond .eq 31, 3) := by decide +kernel
theorem dJ5_append_3fe6f_17 : decode cJ5_append_3fe6f 17 = .ok (.iload_n 1, 1) := by decide +kernel
theorem dJ5_append_3fe6f_18 : decode cJ5_append_3fe6f 18 = .ok (.invokestatic 191, 3) := by decide +kernel
theorem dJ5_append_3fe6f_21 : decode cJ5_append_3fe6f 21 = .ok (.ifCond .eq 24, 3) := by decide +kernel
theorem dJ5_append_3fe6f_24 : decode cJ5_append_3fe6f 24 = .ok (.aload_n 0, 1) := by decide +kernel
theorem dJ5_append_3fe6f_25 : decode cJ5_append_3fe6f 25 = .ok (.getfield 15, 3) := by decide +kernel
theorem dJ5_append_3fe6f_28 : decode cJ5_append_3fe6f 28 = .ok (.aload_n 0, 1) := by decide +kernel
theorem dJ5_append_3fe6f_29 : decode cJ5_append_3fe6f 29 = .ok (.dup, 1) := by decide +kernel
theorem dJ5_append_3fe6f_30 : decode cJ5_append_3fe6f 30 = .ok (.getfield 79, 3) := by decide +kernel
theorem dJ5_append_3fe6f_33 : decode cJ5_append_3fe6f 33 = .ok (.dup_x1, 1) := by decide +kernel
theorem dJ5_append_3fe6f_34 : decode cJ5_append_3fe6f 34 = .ok (.iconst 1, 1) := by decide +kernel
theorem dJ5_append_3fe6f_35 : decode cJ5_append_3fe6f 35 = .ok (.iadd, 1) := by decide +kernel
theorem dJ5_append_3fe6f_36 : decode cJ5_append_3fe6f 36 = .ok (.putfield 79, 3) := by decide +kernel
theorem dJ5_append_3fe6f_39 : decode cJ5_append_3fe6f 39 = .ok (.iload_n 1, 1) := by decide +kernel
theorem dJ5_append_3fe6f_40 : decode cJ5_append_3fe6f 40 = .ok (.i2b, 1) := by decide +kernel
theorem dJ5_append_3fe6f_41 : decode cJ5_append_3fe6f 41 = .ok (.bastore, 1) := by decide +kernel
theorem dJ5_append_3fe6f_42 : decode cJ5_append_3fe6f 42 = .ok (.goto 33, 3) := by decide +kernel
theorem dJ5_append_3fe6f_45 : decode cJ5_append_3fe6f 45 = .ok (.aload_n 0, 1) := by decide +kernel
theorem dJ5_append_3fe6f_46 : decode cJ5_append_3fe6f 46 = .ok (.invokevirtual 83, 3) := by decide +kernel
theorem dJ5_append_3fe6f_49 : decode cJ5_append_3fe6f 49 = .ok (.ifCond .eq 7, 3) := by decide +kernel
theorem dJ5_append_3fe6f_52 : decode cJ5_append_3fe6f 52 = .ok (.aload_n 0, 1) := by decide +kernel
theorem dJ5_append_3fe6f_53 : decode cJ5_append_3fe6f 53 = .ok (.invokevirtual 195, 3) := by decide +kernel
theorem dJ5_append_3fe6f_56 : decode cJ5_append_3fe6f 56 = .ok (.aload_n 0, 1) := by decide +kernel
theorem dJ5_append_3fe6f_57 : decode cJ5_append_3fe6f 57 = .ok (.getfield 15, 3) := by decide +kernel
theorem dJ5_append_3fe6f_60 : decode cJ5_append_3fe6f 60 = .ok (.aload_n 0, 1) := by decide +kernel
theorem dJ5_append_3fe6f_61 : decode cJ5_append_3fe6f 61 = .ok (.dup, 1) := by decide +kernel
theorem dJ5_append_3fe6f_62 : decode cJ5_append_3fe6f 62 = .ok (.getfield 79, 3) := by decide +kernel
theorem dJ5_append_3fe6f_65 : decode cJ5_append_3fe6f 65 = .ok (.dup_x1, 1) := by decide +kernel
theorem dJ5_append_3fe6f_66 : decode cJ5_append_3fe6f 66 = .ok (.iconst 1, 1) := by decide +kernel
theorem dJ5_append_3fe6f_67 : decode cJ5_append_3fe6f 67 = .ok (.iadd, 1) := by decide +kernel
theorem dJ5_append_3fe6f_68 : decode cJ5_append_3fe6f 68 = .ok (.putfield 79, 3) := by decide +kernel
theorem dJ5_append_3fe6f_71 : decode cJ5_append_3fe6f 71 = .ok (.iload_n 1, 1) := by decide +kernel
theorem dJ5_append_3fe6f_72 : decode cJ5_append_3fe6f 72 = .ok (.invokestatic 197, 3) := by decide +kernel
theorem dJ5_append_3fe6f_75 : decode cJ5_append_3fe6f 75 = .ok (.aload_n 0, 1) := by decide +kernel
theorem dJ5_append_3fe6f_76 : decode cJ5_append_3fe6f 76 = .ok (.areturn, 1) := by decide +kernel
theorem dJ5_append_c97b9_0 : decode cJ5_append_c97b9 0 = .ok (.aload_n 0, 1) := by decide +kernel
theorem dJ5_append_c97b9_1 : decode cJ5_append_c97b9 1 = .ok (.getfield 79, 3) := by decide +kernel
theorem dJ5_append_c97b9_4 : decode cJ5_append_c97b9 4 = .ok (.istore_n 2, 1) := by decide +kernel
theorem dJ5_append_c97b9_5 : decode cJ5_append_c97b9 5 = .ok (.iload_n 2, 1) := by decide +kernel
theorem dJ5_append_c97b9_6 : decode cJ5_append_c97b9 6 = .ok (.iload_n 1, 1) := by decide +kernel
theorem dJ5_append_c97b9_7 : decode cJ5_append_c97b9 7 = .ok (.invokestatic 245, 3) := by decide +kernel
theorem dJ5_append_c97b9_10 : decode cJ5_append_c97b9 10 = .ok (.iadd, 1) := by decide +kernel
theorem dJ5_append_c97b9_11 : decode cJ5_append_c97b9 11 = .ok (.istore_n 3, 1) := by decide +kernel
theorem dJ5_append_c97b9_12 : decode cJ5_append_c97b9 12 = .ok (.aload_n 0, 1) := by decide +kernel
theorem dJ5_append_c97b9_13 : decode cJ5_append_c97b9 13 = .ok (.iload_n 3, 1) := by decide +kernel
theorem dJ5_append_c97b9_14 : decode cJ5_append_c97b9 14 = .ok (.invokevirtual 100, 3) := by decide +kernel
theorem dJ5_append_c97b9_17 : decode cJ5_append_c97b9 17 = .ok (.aload_n 0, 1) := by decide +kernel
theorem dJ5_append_c97b9_18 : decode cJ5_append_c97b9 18 = .ok (.invokevirtual 83, 3) := by decide +kernel
theorem dJ5_append_c97b9_21 : decode cJ5_append_c97b9 21 = .ok (.ifCond .eq 16, 3) := by decide +kernel
theorem dJ5_append_c97b9_24 : decode cJ5_append_c97b9 24 = .ok (.iload_n 1, 1) := by decide +kernel
theorem dJ5_append_c97b9_25 : decode cJ5_append_c97b9 25 = .ok (.iload_n 3, 1) := by decide +kernel
theorem dJ5_append_c97b9_26 : decode cJ5_append_c97b9 26 = .ok (.aload_n 0, 1) := by decide +kernel
theorem dJ5_append_c97b9_27 : decode cJ5_append_c97b9 27 = .ok (.getfield 15, 3) := by decide +kernel
theorem dJ5_append_c97b9_30 : decode cJ5_append_c97b9 30 = .ok (.invokestatic 248, 3) := by decide +kernel
theorem dJ5_append_c97b9_33 : decode cJ5_append_c97b9 33 = .ok (.pop, 1) := by decide +kernel
theorem dJ5_append_c97b9_34 : decode cJ5_append_c97b9 34 = .ok (.goto 14, 3) := by decide +kernel
theorem dJ5_append_c97b9_37 : decode cJ5_append_c97b9 37 = .ok (.iload_n 1, 1) := by decide +kernel
theorem dJ5_append_c97b9_38 : decode cJ5_append_c97b9 38 = .ok (.iload_n 2, 1) := by decide +kernel
theorem dJ5_append_c97b9_39 : decode cJ5_append_c97b9 39 = .ok (.iload_n 3, 1) := by decide +kernel
theorem dJ5_append_c97b9_40 : decode cJ5_append_c97b9 40 = .ok (.aload_n 0, 1) := by decide +kernel
theorem dJ5_append_c97b9_41 : decode cJ5_append_c97b9 41 = .ok (.getfield 15, 3) := by decide +kernel
theorem dJ5_append_c97b9_44 : decode cJ5_append_c97b9 44 = .ok (.invokestatic 251, 3) := by decide +kernel
theorem dJ5_append_c97b9_47 : decode cJ5_append_c97b9 47 = .ok (.pop, 1) := by decide +kernel
theorem dJ5_append_c97b9_48 : decode cJ5_append_c97b9 48 = .ok (.aload_n 0, 1) := by decide +kernel
theorem dJ5_append_c97b9_49 : decode cJ5_append_c97b9 49 = .ok (.iload_n 3, 1) := by decide +kernel
theorem dJ5_append_c97b9_50 : decode cJ5_append_c97b9 50 = .ok (.putfield 79, 3) := by decide +kernel
theorem dJ5_append_c97b9_53 : decode cJ5_append_c97b9 53 = .ok (.aload_n 0, 1) := by decide +kernel
theorem dJ5_append_c97b9_54 : decode cJ5_append_c97b9 54 = .ok (.areturn, 1) := by decide +kernel
theorem dJ5_getValue_6d5f1_0 : decode cJ5_getValue_6d5f1 0 = .ok (.aload_n 0, 1) := by decide +kernel
theorem dJ5_getValue_6d5f1_1 : decode cJ5_getValue_6d5f1 1 = .ok (.getfield 15, 3) := by decide +kernel
theorem dJ5_getValue_6d5f1_4 : decode cJ5_getValue_6d5f1 4 = .ok (.areturn, 1) := by decide +kernel
theorem dJ5_isLatin1_aae02_0 : decode cJ5_isLatin1_aae02 0 = .ok (.getstatic 18, 3) := by decide +kernel
theorem dJ5_isLatin1_aae02_3 : decode cJ5_isLatin1_aae02 3 = .ok (.ifCond .eq 14, 3) := by decide +kernel
theorem dJ5_isLatin1_aae02_6 : decode cJ5_isLatin1_aae02 6 = .ok (.aload_n 0, 1) := by decide +kernel
theorem dJ5_isLatin1_aae02_7 : decode cJ5_isLatin1_aae02 7 = .ok (.getfield 22, 3) := by decide +kernel
theorem dJ5_isLatin1_aae02_10 : decode cJ5_isLatin1_aae02 10 = .ok (.ifCond .ne 7, 3) := by decide +kernel
theorem dJ5_isLatin1_aae02_13 : decode cJ5_isLatin1_aae02 13 = .ok (.iconst 1, 1) := by decide +kernel
theorem dJ5_isLatin1_aae02_14 : decode cJ5_isLatin1_aae02 14 = .ok (.goto 4, 3) := by decide +kernel
theorem dJ5_isLatin1_aae02_17 : decode cJ5_isLatin1_aae02 17 = .ok (.iconst 0, 1) := by decide +kernel
theorem dJ5_isLatin1_aae02_18 : decode cJ5_isLatin1_aae02 18 = .ok (.ireturn, 1) := by decide +kernel
theorem dJ5_inflateIfNeededFor_a7421_0 : decode cJ5_inflateIfNeededFor_a7421 0 = .ok (.getstatic 18, 3) := by decide +kernel
theorem dJ5_inflateIfNeededFor_a7421_3 : decode cJ5_inflateIfNeededFor_a7421 3 = .ok (.ifCond .eq 18, 3) := by decide +kernel
theorem dJ5_inflateIfNeededFor_a7421_6 : decode cJ5_inflateIfNeededFor_a7421 6 = .ok (.aload_n 0, 1) := by decide +kernel
theorem dJ5_inflateIfNeededFor_a7421_7 : decode cJ5_inflateIfNeededFor_a7421 7 = .ok (.getfield 22, 3) := by decide +kernel
theorem dJ5_inflateIfNeededFor_a7421_10 : decode cJ5_inflateIfNeededFor_a7421 10 = .ok (.aload_n 1, 1) := by decide +kernel
theorem dJ5_inflateIfNeededFor_a7421_11 : decode cJ5_inflateIfNeededFor_a7421 11 = .ok (.invokevirtual 40, 3) := by decide +kernel
theorem dJ5_inflateIfNeededFor_a7421_14 : decode cJ5_inflateIfNeededFor_a7421 14 = .ok (.if_icmp .eq 7, 3) := by decide +kernel
theorem dJ5_inflateIfNeededFor_a7421_17 : decode cJ5_inflateIfNeededFor_a7421 17 = .ok (.aload_n 0, 1) := by decide +kernel
theorem dJ5_inflateIfNeededFor_a7421_18 : decode cJ5_inflateIfNeededFor_a7421 18 = .ok (.invokevirtual 195, 3) := by decide +kernel
theorem dJ5_inflateIfNeededFor_a7421_21 : decode cJ5_inflateIfNeededFor_a7421 21 = .ok (.return_, 1) := by decide +kernel
theorem dJ5_putStringAt_47b60_0 : decode cJ5_putStringAt_47b60 0 = .ok (.aload_n 0, 1) := by decide +kernel
theorem dJ5_putStringAt_47b60_1 : decode cJ5_putStringAt_47b60 1 = .ok (.aload_n 2, 1) := by decide +kernel
theorem dJ5_putStringAt_47b60_2 : decode cJ5_putStringAt_47b60 2 = .ok (.invokevirtual 397, 3) := by decide +kernel
theorem dJ5_putStringAt_47b60_5 : decode cJ5_putStringAt_47b60 5 = .ok (.aload_n 2, 1) := by decide +kernel
theorem dJ5_putStringAt_47b60_6 : decode cJ5_putStringAt_47b60 6 = .ok (.aload_n 0, 1) := by decide +kernel
theorem dJ5_putStringAt_47b60_7 : decode cJ5_putStringAt_47b60 7 = .ok (.getfield 15, 3) := by decide +kernel
theorem dJ5_putStringAt_47b60_10 : decode cJ5_putStringAt_47b60 10 = .ok (.iload_n 1, 1) := by decide +kernel
theorem dJ5_putStringAt_47b60_11 : decode cJ5_putStringAt_47b60 11 = .ok (.aload_n 0, 1) := by decide +kernel
theorem dJ5_putStringAt_47b60_12 : decode cJ5_putStringAt_47b60 12 = .ok (.getfield 22, 3) := by decide +kernel
theorem dJ5_putStringAt_47b60_15 : decode cJ5_putStringAt_47b60 15 = .ok (.invokevirtual 399, 3) := by decide +kernel
theorem dJ5_putStringAt_47b60_18 : decode cJ5_putStringAt_47b60 18 = .ok (.return_, 1) := by decide +kernel
theorem dJ6_getChars_ba4f3_0 : decode cJ6_getChars_ba4f3 0 = .ok (.iload_n 1, 1) := by decide +kernel
theorem dJ6_getChars_ba4f3_1 : decode cJ6_getChars_ba4f3 1 = .ok (.istore 5, 2) := by decide +kernel
theorem dJ6_getChars_ba4f3_3 : decode cJ6_getChars_ba4f3 3 = .ok (.iload_n 0, 1) := by decide +kernel
theorem dJ6_getChars_ba4f3_4 : decode cJ6_getChars_ba4f3 4 = .ok (.ifCond .ge 7, 3) := by decide +kernel
theorem dJ6_getChars_ba4f3_7 : decode cJ6_getChars_ba4f3 7 = .ok (.iconst 1, 1) := by decide +kernel
theorem dJ6_getChars_ba4f3_8 : decode cJ6_getChars_ba4f3 8 = .ok (.goto 4, 3) := by decide +kernel
theorem dJ6_getChars_ba4f3_11 : decode cJ6_getChars_ba4f3 11 = .ok (.iconst 0, 1) := by decide +kernel
theorem dJ6_getChars_ba4f3_12 : decode cJ6_getChars_ba4f3 12 = .ok (.istore 6, 2) := by decide +kernel
theorem dJ6_getChars_ba4f3_14 : decode cJ6_getChars_ba4f3 14 = .ok (.iload 6, 2) := by decide +kernel
theorem dJ6_getChars_ba4f3_16 : decode cJ6_getChars_ba4f3 16 = .ok (.ifCond .ne 6, 3) := by decide +kernel
theorem dJ6_getChars_ba4f3_19 : decode cJ6_getChars_ba4f3 19 = .ok (.iload_n 0, 1) := by decide +kernel
theorem dJ6_getChars_ba4f3_20 : decode cJ6_getChars_ba4f3 20 = .ok (.ineg, 1) := by decide +kernel
theorem dJ6_getChars_ba4f3_21 : decode cJ6_getChars_ba4f3 21 = .ok (.istore_n 0, 1) := by decide +kernel
theorem dJ6_getChars_ba4f3_22 : decode cJ6_getChars_ba4f3 22 = .ok (.iload_n 0, 1) := by decide +kernel
theorem dJ6_getChars_ba4f3_23 : decode cJ6_getChars_ba4f3 23 = .ok (.bipush (-100), 2) := by decide +kernel
theorem dJ6_getChars_ba4f3_25 : decode cJ6_getChars_ba4f3 25 = .ok (.if_icmp .gt 47, 3) := by decide +kernel
theorem dJ6_getChars_ba4f3_28 : decode cJ6_getChars_ba4f3 28 = .ok (.iload_n 0, 1) := by decide +kernel
theorem dJ6_getChars_ba4f3_29 : decode cJ6_getChars_ba4f3 29 = .ok (.bipush 100, 2) := by decide +kernel
theorem dJ6_getChars_ba4f3_31 : decode cJ6_getChars_ba4f3 31 = .ok (.idiv, 1) := by decide +kernel
