theorem dX7_readFactor_72 : decode cX7_readFactor 72 = .ok (.iload_n 1, 1) := by decide +kernel
theorem dX7_readFactor_73 : decode cX7_readFactor 73 = .ok (.iconst 1, 1) := by decide +kernel
theorem dX7_readFactor_74 : decode cX7_readFactor 74 = .ok (.iadd, 1) := by decide +kernel
theorem dX7_readFactor_75 : decode cX7_readFactor 75 = .ok (.invokevirtual 45, 3) := by decide +kernel
theorem dX7_readFactor_78 : decode cX7_readFactor 78 = .ok (.iconst (-1), 1) := by decide +kernel
theorem dX7_readFactor_79 : decode cX7_readFactor 79 = .ok (.ixor, 1) := by decide +kernel
theorem dX7_readFactor_80 : decode cX7_readFactor 80 = .ok (.iand, 1) := by decide +kernel
theorem dX7_readFactor_81 : decode cX7_readFactor 81 = .ok (.ireturn, 1) := by decide +kernel
theorem dX7_readFactor_82 : decode cX7_readFactor 82 = .ok (.aload_n 0, 1) := by decide +kernel
theorem dX7_readFactor_83 : decode cX7_readFactor 83 = .ok (.iload_n 1, 1) := by decide +kernel
theorem dX7_readFactor_84 : decode cX7_readFactor 84 = .ok (.iconst 1, 1) := by decide +kernel
theorem dX7_readFactor_85 : decode cX7_readFactor 85 = .ok (.iadd, 1) := by decide +kernel
theorem dX7_readFactor_86 : decode cX7_readFactor 86 = .ok (.invokevirtual 70, 3) := by decide +kernel
theorem dX7_readFactor_89 : decode cX7_readFactor 89 = .ok (.istore_n 3, 1) := by decide +kernel
theorem dX7_readFactor_90 : decode cX7_readFactor 90 = .ok (.aload_n 0, 1) := by decide +kernel
theorem dX7_readFactor_91 : decode cX7_readFactor 91 = .ok (.getfield 18, 3) := by decide +kernel
theorem dX7_readFactor_94 : decode cX7_readFactor 94 = .ok (.bipush 41, 2) := by decide +kernel
theorem dX7_readFactor_96 : decode cX7_readFactor 96 = .ok (.invokevirtual 73, 3) := by decide +kernel
theorem dX7_readFactor_99 : decode cX7_readFactor 99 = .ok (.iload_n 3, 1) := by decide +kernel
theorem dX7_readFactor_100 : decode cX7_readFactor 100 = .ok (.ireturn, 1) := by decide +kernel
theorem dX7_readComparison_0 : decode cX7_readComparison 0 = .ok (.aload_n 0, 1) := by decide +kernel
theorem dX7_readComparison_1 : decode cX7_readComparison 1 = .ok (.aload_n 0, 1) := by decide +kernel
theorem dX7_readComparison_2 : decode cX7_readComparison 2 = .ok (.getfield 9, 3) := by decide +kernel
theorem dX7_readComparison_5 : decode cX7_readComparison 5 = .ok (.aload_n 0, 1) := by decide +kernel
theorem dX7_readComparison_6 : decode cX7_readComparison 6 = .ok (.invokevirtual 77, 3) := by decide +kernel
theorem dX7_readComparison_9 : decode cX7_readComparison 9 = .ok (.invokevirtual 80, 3) := by decide +kernel
theorem dX7_readComparison_12 : decode cX7_readComparison 12 = .ok (.aload_n 0, 1) := by decide +kernel
theorem dX7_readComparison_13 : decode cX7_readComparison 13 = .ok (.getfield 18, 3) := by decide +kernel
theorem dX7_readComparison_16 : decode cX7_readComparison 16 = .ok (.bipush 60, 2) := by decide +kernel
theorem dX7_readComparison_18 : decode cX7_readComparison 18 = .ok (.invokevirtual 52, 3) := by decide +kernel
theorem dX7_readComparison_21 : decode cX7_readComparison 21 = .ok (.istore_n 1, 1) := by decide +kernel
theorem dX7_readComparison_22 : decode cX7_readComparison 22 = .ok (.aload_n 0, 1) := by decide +kernel
theorem dX7_readComparison_23 : decode cX7_readComparison 23 = .ok (.getfield 18, 3) := by decide +kernel
theorem dX7_readComparison_26 : decode cX7_readComparison 26 = .ok (.bipush 62, 2) := by decide +kernel
theorem dX7_readComparison_28 : decode cX7_readComparison 28 = .ok (.invokevirtual 52, 3) := by decide +kernel
theorem dX7_readComparison_31 : decode cX7_readComparison 31 = .ok (.istore_n 2, 1) := by decide +kernel
theorem dX7_readComparison_32 : decode cX7_readComparison 32 = .ok (.iload_n 1, 1) := by decide +kernel
theorem dX7_readComparison_33 : decode cX7_readComparison 33 = .ok (.ifCond .ne 27, 3) := by decide +kernel
theorem dX7_readComparison_36 : decode cX7_readComparison 36 = .ok (.iload_n 2, 1) := by decide +kernel
theorem dX7_readComparison_37 : decode cX7_readComparison 37 = .ok (.ifCond .ne 23, 3) := by decide +kernel
theorem dX7_readComparison_40 : decode cX7_readComparison 40 = .ok (.aload_n 0, 1) := by decide +kernel
theorem dX7_readComparison_41 : decode cX7_readComparison 41 = .ok (.getfield 18, 3) := by decide +kernel
theorem dX7_readComparison_44 : decode cX7_readComparison 44 = .ok (.bipush 61, 2) := by decide +kernel
theorem dX7_readComparison_46 : decode cX7_readComparison 46 = .ok (.invokevirtual 52, 3) := by decide +kernel
theorem dX7_readComparison_49 : decode cX7_readComparison 49 = .ok (.ifCond .ne 11, 3) := by decide +kernel
theorem dX7_readComparison_52 : decode cX7_readComparison 52 = .ok (.aload_n 0, 1) := by decide +kernel
theorem dX7_readComparison_53 : decode cX7_readComparison 53 = .ok (.getfield 18, 3) := by decide +kernel
theorem dX7_readComparison_56 : decode cX7_readComparison 56 = .ok (.iconst 1, 1) := by decide +kernel
theorem dX7_readComparison_57 : decode cX7_readComparison 57 = .ok (.invokevirtual 60, 3) := by decide +kernel
theorem dX7_readComparison_60 : decode cX7_readComparison 60 = .ok (.aload_n 0, 1) := by decide +kernel
theorem dX7_readComparison_61 : decode cX7_readComparison 61 = .ok (.getfield 18, 3) := by decide +kernel
theorem dX7_readComparison_64 : decode cX7_readComparison 64 = .ok (.invokevirtual 42, 3) := by decide +kernel
theorem dX7_readComparison_67 : decode cX7_readComparison 67 = .ok (.aload_n 0, 1) := by decide +kernel
theorem dX7_readComparison_68 : decode cX7_readComparison 68 = .ok (.aload_n 0, 1) := by decide +kernel
theorem dX7_readComparison_69 : decode cX7_readComparison 69 = .ok (.getfield 15, 3) := by decide +kernel
theorem dX7_readComparison_72 : decode cX7_readComparison 72 = .ok (.aload_n 0, 1) := by decide +kernel
theorem dX7_readComparison_73 : decode cX7_readComparison 73 = .ok (.invokevirtual 77, 3) := by decide +kernel
theorem dX7_readComparison_76 : decode cX7_readComparison 76 = .ok (.invokevirtual 80, 3) := by decide +kernel
theorem dX7_readComparison_79 : decode cX7_readComparison 79 = .ok (.iconst 0, 1) := by decide +kernel
theorem dX7_readComparison_80 : decode cX7_readComparison 80 = .ok (.istore_n 3, 1) := by decide +kernel
theorem dX7_readComparison_81 : decode cX7_readComparison 81 = .ok (.iconst 0, 1) := by decide +kernel
theorem dX7_readComparison_82 : decode cX7_readComparison 82 = .ok (.istore 4, 2) := by decide +kernel
theorem dX7_readComparison_84 : decode cX7_readComparison 84 = .ok (.iload 4, 2) := by decide +kernel
theorem dX7_readComparison_86 : decode cX7_readComparison 86 = .ok (.aload_n 0, 1) := by decide +kernel
theorem dX7_readComparison_87 : decode cX7_readComparison 87 = .ok (.getfield 22, 3) := by decide +kernel
theorem dX7_readComparison_90 : decode cX7_readComparison 90 = .ok (.getfield 64, 3) := by decide +kernel
theorem dX7_readComparison_93 : decode cX7_readComparison 93 = .ok (.if_icmp .ge 68, 3) := by decide +kernel
theorem dX7_readComparison_96 : decode cX7_readComparison 96 = .ok (.aload_n 0, 1) := by decide +kernel
theorem dX7_readComparison_97 : decode cX7_readComparison 97 = .ok (.getfield 9, 3) := by decide +kernel
theorem dX7_readComparison_100 : decode cX7_readComparison 100 = .ok (.iload 4, 2) := by decide +kernel
theorem dX7_readComparison_102 : decode cX7_readComparison 102 = .ok (.invokestatic 84, 3) := by decide +kernel
theorem dX7_readComparison_105 : decode cX7_readComparison 105 = .ok (.aload_n 0, 1) := by decide +kernel
theorem dX7_readComparison_106 : decode cX7_readComparison 106 = .ok (.getfield 15, 3) := by decide +kernel
theorem dX7_readComparison_109 : decode cX7_readComparison 109 = .ok (.iload 4, 2) := by decide +kernel
theorem dX7_readComparison_111 : decode cX7_readComparison 111 = .ok (.invokestatic 84, 3) := by decide +kernel
theorem dX7_readComparison_114 : decode cX7_readComparison 114 = .ok (.invokestatic 88, 3) := by decide +kernel
theorem dX7_readComparison_117 : decode cX7_readComparison 117 = .ok (.istore 5, 2) := by decide +kernel
theorem dX7_readComparison_119 : decode cX7_readComparison 119 = .ok (.iload_n 1, 1) := by decide +kernel
theorem dX7_readComparison_120 : decode cX7_readComparison 120 = .ok (.ifCond .eq 11, 3) := by decide +kernel
theorem dX7_readComparison_123 : decode cX7_readComparison 123 = .ok (.iload 5, 2) := by decide +kernel
theorem dX7_readComparison_125 : decode cX7_readComparison 125 = .ok (.ifCond .ge 30, 3) := by decide +kernel
theorem dX7_readComparison_128 : decode cX7_readComparison 128 = .ok (.goto 20, 3) := by decide +kernel
theorem dX7_readComparison_131 : decode cX7_readComparison 131 = .ok (.iload_n 2, 1) := by decide +kernel
theorem dX7_readComparison_132 : decode cX7_readComparison 132 = .ok (.ifCond .eq 11, 3) := by decide +kernel
theorem dX7_readComparison_135 : decode cX7_readComparison 135 = .ok (.iload 5, 2) := by decide +kernel
theorem dX7_readComparison_137 : decode cX7_readComparison 137 = .ok (.ifCond .le 18, 3) := by decide +kernel
theorem dX7_readComparison_140 : decode cX7_readComparison 140 = .ok (.goto 8, 3) := by decide +kernel
theorem dX7_readComparison_143 : decode cX7_readComparison 143 = .ok (.iload 5, 2) := by decide +kernel
theorem dX7_readComparison_145 : decode cX7_readComparison 145 = .ok (.ifCond .ne 10, 3) := by decide +kernel
theorem dX7_readComparison_148 : decode cX7_readComparison 148 = .ok (.iload_n 3, 1) := by decide +kernel
theorem dX7_readComparison_149 : decode cX7_readComparison 149 = .ok (.iconst 1, 1) := by decide +kernel
theorem dX7_readComparison_150 : decode cX7_readComparison 150 = .ok (.iload 4, 2) := by decide +kernel
theorem dX7_readComparison_152 : decode cX7_readComparison 152 = .ok (.ishl, 1) := by decide +kernel
theorem dX7_readComparison_153 : decode cX7_readComparison 153 = .ok (.ior, 1) := by decide +kernel
theorem dX7_readComparison_154 : decode cX7_readComparison 154 = .ok (.istore_n 3, 1) := by decide +kernel
theorem dX7_readComparison_155 : decode cX7_readComparison 155 = .ok (.iinc 4 1, 3) := by decide +kernel
theorem dX7_readComparison_158 : decode cX7_readComparison 158 = .ok (.goto (-74), 3) := by decide +kernel
theorem dX7_readComparison_161 : decode cX7_readComparison 161 = .ok (.iload_n 3, 1) := by decide +kernel
theorem dX7_readComparison_162 : decode cX7_readComparison 162 = .ok (.ireturn, 1) := by decide +kernel
theorem dX7_readValue_0 : decode cX7_readValue 0 = .ok (.iload_n 2, 1) := by decide +kernel
theorem dX7_readValue_1 : decode cX7_readValue 1 = .ok (.iconst (-1), 1) := by decide +kernel
theorem dX7_readValue_2 : decode cX7_readValue 2 = .ok (.if_icmp .ne 16, 3) := by decide +kernel
theorem dX7_readValue_5 : decode cX7_readValue 5 = .ok (.aload_n 0, 1) := by decide +kernel
theorem dX7_readValue_6 : decode cX7_readValue 6 = .ok (.getfield 18, 3) := by decide +kernel
theorem dX7_readValue_9 : decode cX7_readValue 9 = .ok (.iconst 0, 1) := by decide +kernel
theorem dX7_readValue_10 : decode cX7_readValue 10 = .ok (.ldc 94, 2) := by decide +kernel
theorem dX7_readValue_12 : decode cX7_readValue 12 = .ok (.invokevirtual 95, 3) := by decide +kernel
theorem dX7_readValue_15 : decode cX7_readValue 15 = .ok (.goto 4, 3) := by decide +kernel
theorem dX7_readValue_18 : decode cX7_readValue 18 = .ok (.iconst 0, 1) := by decide +kernel
theorem dX7_readValue_19 : decode cX7_readValue 19 = .ok (.istore_n 3, 1) := by decide +kernel
theorem dX7_readValue_20 : decode cX7_readValue 20 = .ok (.iconst 0, 1) := by decide +kernel
theorem dX7_readValue_21 : decode cX7_readValue 21 = .ok (.istore 4, 2) := by decide +kernel
theorem dX7_readValue_23 : decode cX7_readValue 23 = .ok (.iload 4, 2) := by decide +kernel
theorem dX7_readValue_25 : decode cX7_readValue 25 = .ok (.aload_n 0, 1) := by decide +kernel
theorem dX7_readValue_26 : decode cX7_readValue 26 = .ok (.getfield 22, 3) := by decide +kernel
theorem dX7_readValue_29 : decode cX7_readValue 29 = .ok (.getfield 64, 3) := by decide +kernel
theorem dX7_readValue_32 : decode cX7_readValue 32 = .ok (.if_icmp .ge 31, 3) := by decide +kernel
theorem dX7_readValue_35 : decode cX7_readValue 35 = .ok (.aload_n 1, 1) := by decide +kernel
theorem dX7_readValue_36 : decode cX7_readValue 36 = .ok (.iload 4, 2) := by decide +kernel
theorem dX7_readValue_38 : decode cX7_readValue 38 = .ok (.iload_n 2, 1) := by decide +kernel
theorem dX7_readValue_39 : decode cX7_readValue 39 = .ok (.iconst (-1), 1) := by decide +kernel
theorem dX7_readValue_40 : decode cX7_readValue 40 = .ok (.if_icmp .ne 7, 3) := by decide +kernel
theorem dX7_readValue_43 : decode cX7_readValue 43 = .ok (.iload_n 3, 1) := by decide +kernel
theorem dX7_readValue_44 : decode cX7_readValue 44 = .ok (.goto 10, 3) := by decide +kernel
theorem dX7_readValue_47 : decode cX7_readValue 47 = .ok (.aload_n 0, 1) := by decide +kernel
theorem dX7_readValue_48 : decode cX7_readValue 48 = .ok (.iload 4, 2) := by decide +kernel
theorem dX7_readValue_50 : decode cX7_readValue 50 = .ok (.iload_n 2, 1) := by decide +kernel
theorem dX7_readValue_51 : decode cX7_readValue 51 = .ok (.invokevirtual 98, 3) := by decide +kernel
theorem dX7_readValue_54 : decode cX7_readValue 54 = .ok (.invokestatic 101, 3) := by decide +kernel
theorem dX7_readValue_57 : decode cX7_readValue 57 = .ok (.iinc 4 1, 3) := by decide +kernel
theorem dX7_readValue_60 : decode cX7_readValue 60 = .ok (.goto (-37), 3) := by decide +kernel
theorem dX7_readValue_63 : decode cX7_readValue 63 = .ok (.aload_n 0, 1) := by decide +kernel
theorem dX7_readValue_64 : decode cX7_readValue 64 = .ok (.getfield 18, 3) := by decide +kernel
theorem dX7_readValue_67 : decode cX7_readValue 67 = .ok (.invokevirtual 42, 3) := by decide +kernel
theorem dX7_readValue_70 : decode cX7_readValue 70 = .ok (.return_, 1) := by decide +kernel
theorem dX7_propertyHere_0 : decode cX7_propertyHere 0 = .ok (.aload_n 0, 1) := by decide +kernel
theorem dX7_propertyHere_1 : decode cX7_propertyHere 1 = .ok (.getfield 18, 3) := by decide +kernel
theorem dX7_propertyHere_4 : decode cX7_propertyHere 4 = .ok (.ldc 105, 2) := by decide +kernel
theorem dX7_propertyHere_6 : decode cX7_propertyHere 6 = .ok (.invokevirtual 36, 3) := by decide +kernel
theorem dX7_propertyHere_9 : decode cX7_propertyHere 9 = .ok (.ifCond .eq 5, 3) := by decide +kernel
theorem dX7_propertyHere_12 : decode cX7_propertyHere 12 = .ok (.iconst 0, 1) := by decide +kernel
theorem dX7_propertyHere_13 : decode cX7_propertyHere 13 = .ok (.ireturn, 1) := by decide +kernel
theorem dX7_propertyHere_14 : decode cX7_propertyHere 14 = .ok (.aload_n 0, 1) := by decide +kernel
theorem dX7_propertyHere_15 : decode cX7_propertyHere 15 = .ok (.getfield 18, 3) := by decide +kernel
theorem dX7_propertyHere_18 : decode cX7_propertyHere 18 = .ok (.ldc 107, 2) := by decide +kernel
theorem dX7_propertyHere_20 : decode cX7_propertyHere 20 = .ok (.invokevirtual 36, 3) := by decide +kernel
theorem dX7_propertyHere_23 : decode cX7_propertyHere 23 = .ok (.ifCond .eq 5, 3) := by decide +kernel
theorem dX7_propertyHere_26 : decode cX7_propertyHere 26 = .ok (.iconst 1, 1) := by decide +kernel
theorem dX7_propertyHere_27 : decode cX7_propertyHere 27 = .ok (.ireturn, 1) := by decide +kernel
theorem dX7_propertyHere_28 : decode cX7_propertyHere 28 = .ok (.aload_n 0, 1) := by decide +kernel
theorem dX7_propertyHere_29 : decode cX7_propertyHere 29 = .ok (.getfield 18, 3) := by decide +kernel
theorem dX7_propertyHere_32 : decode cX7_propertyHere 32 = .ok (.ldc 109, 2) := by decide +kernel
theorem dX7_propertyHere_34 : decode cX7_propertyHere 34 = .ok (.invokevirtual 36, 3) := by decide +kernel
theorem dX7_propertyHere_37 : decode cX7_propertyHere 37 = .ok (.ifCond .eq 5, 3) := by decide +kernel
theorem dX7_propertyHere_40 : decode cX7_propertyHere 40 = .ok (.iconst 2, 1) := by decide +kernel
theorem dX7_propertyHere_41 : decode cX7_propertyHere 41 = .ok (.ireturn, 1) := by decide +kernel
theorem dX7_propertyHere_42 : decode cX7_propertyHere 42 = .ok (.aload_n 0, 1) := by decide +kernel
theorem dX7_propertyHere_43 : decode cX7_propertyHere 43 = .ok (.getfield 18, 3) := by decide +kernel
theorem dX7_propertyHere_46 : decode cX7_propertyHere 46 = .ok (.ldc 111, 2) := by decide +kernel
theorem dX7_propertyHere_48 : decode cX7_propertyHere 48 = .ok (.invokevirtual 36, 3) := by decide +kernel
theorem dX7_propertyHere_51 : decode cX7_propertyHere 51 = .ok (.ifCond .eq 5, 3) := by decide +kernel
theorem dX7_propertyHere_54 : decode cX7_propertyHere 54 = .ok (.iconst 3, 1) := by decide +kernel
theorem dX7_propertyHere_55 : decode cX7_propertyHere 55 = .ok (.ireturn, 1) := by decide +kernel
theorem dX7_propertyHere_56 : decode cX7_propertyHere 56 = .ok (.aload_n 0, 1) := by decide +kernel
theorem dX7_propertyHere_57 : decode cX7_propertyHere 57 = .ok (.getfield 18, 3) := by decide +kernel
theorem dX7_propertyHere_60 : decode cX7_propertyHere 60 = .ok (.ldc 113, 2) := by decide +kernel
theorem dX7_propertyHere_62 : decode cX7_propertyHere 62 = .ok (.invokevirtual 36, 3) := by decide +kernel
theorem dX7_propertyHere_65 : decode cX7_propertyHere 65 = .ok (.ifCond .eq 5, 3) := by decide +kernel
theorem dX7_propertyHere_68 : decode cX7_propertyHere 68 = .ok (.iconst 4, 1) := by decide +kernel
theorem dX7_propertyHere_69 : decode cX7_propertyHere 69 = .ok (.ireturn, 1) := by decide +kernel
theorem dX7_propertyHere_70 : decode cX7_propertyHere 70 = .ok (.aload_n 0, 1) := by decide +kernel
theorem dX7_propertyHere_71 : decode cX7_propertyHere 71 = .ok (.getfield 18, 3) := by decide +kernel
theorem dX7_propertyHere_74 : decode cX7_propertyHere 74 = .ok (.ldc 115, 2) := by decide +kernel
theorem dX7_propertyHere_76 : decode cX7_propertyHere 76 = .ok (.invokevirtual 36, 3) := by decide +kernel
theorem dX7_propertyHere_79 : decode cX7_propertyHere 79 = .ok (.ifCond .eq 5, 3) := by decide +kernel
theorem dX7_propertyHere_82 : decode cX7_propertyHere 82 = .ok (.iconst 5, 1) := by decide +kernel
theorem dX7_propertyHere_83 : decode cX7_propertyHere 83 = .ok (.ireturn, 1) := by decide +kernel
theorem dX7_propertyHere_84 : decode cX7_propertyHere 84 = .ok (.aload_n 0, 1) := by decide +kernel
theorem dX7_propertyHere_85 : decode cX7_propertyHere 85 = .ok (.getfield 18, 3) := by decide +kernel
theorem dX7_propertyHere_88 : decode cX7_propertyHere 88 = .ok (.ldc 117, 2) := by decide +kernel
theorem dX7_propertyHere_90 : decode cX7_propertyHere 90 = .ok (.invokevirtual 36, 3) := by decide +kernel
theorem dX7_propertyHere_93 : decode cX7_propertyHere 93 = .ok (.ifCond .eq 8, 3) := by decide +kernel
theorem dX7_propertyHere_96 : decode cX7_propertyHere 96 = .ok (.bipush 6, 2) := by decide +kernel
theorem dX7_propertyHere_98 : decode cX7_propertyHere 98 = .ok (.goto 4, 3) := by decide +kernel
theorem dX7_propertyHere_101 : decode cX7_propertyHere 101 = .ok (.iconst (-1), 1) := by decide +kernel
theorem dX7_propertyHere_102 : decode cX7_propertyHere 102 = .ok (.ireturn, 1) := by decide +kernel
theorem dX7_propertyOf_0 : decode cX7_propertyOf 0 = .ok (.aload_n 0, 1) := by decide +kernel
theorem dX7_propertyOf_1 : decode cX7_propertyOf 1 = .ok (.getfield 26, 3) := by decide +kernel
theorem dX7_propertyOf_4 : decode cX7_propertyOf 4 = .ok (.iload_n 1, 1) := by decide +kernel
theorem dX7_propertyOf_5 : decode cX7_propertyOf 5 = .ok (.invokevirtual 119, 3) := by decide +kernel
theorem dX7_propertyOf_8 : decode cX7_propertyOf 8 = .ok (.astore_n 3, 1) := by decide +kernel
theorem dX7_propertyOf_9 : decode cX7_propertyOf 9 = .ok (.iload_n 2, 1) := by decide +kernel
theorem dX7_propertyOf_10 : decode cX7_propertyOf 10 = .ok (.tableswitch 79 0 5 #[38, 40, 52, 64, 69, 74], 38) := by decide +kernel
theorem dX7_propertyOf_48 : decode cX7_propertyOf 48 = .ok (.iload_n 1, 1) := by decide +kernel
theorem dX7_propertyOf_49 : decode cX7_propertyOf 49 = .ok (.ireturn, 1) := by decide +kernel
theorem dX7_propertyOf_50 : decode cX7_propertyOf 50 = .ok (.aload_n 0, 1) := by decide +kernel
theorem dX7_propertyOf_51 : decode cX7_propertyOf 51 = .ok (.getfield 22, 3) := by decide +kernel
theorem dX7_propertyOf_54 : decode cX7_propertyOf 54 = .ok (.getfield 125, 3) := by decide +kernel
theorem dX7_propertyOf_57 : decode cX7_propertyOf 57 = .ok (.iload_n 1, 1) := by decide +kernel
theorem dX7_propertyOf_58 : decode cX7_propertyOf 58 = .ok (.invokestatic 84, 3) := by decide +kernel
theorem dX7_propertyOf_61 : decode cX7_propertyOf 61 = .ok (.ireturn, 1) := by decide +kernel
theorem dX7_propertyOf_62 : decode cX7_propertyOf 62 = .ok (.aload_n 0, 1) := by decide +kernel
theorem dX7_propertyOf_63 : decode cX7_propertyOf 63 = .ok (.getfield 22, 3) := by decide +kernel
theorem dX7_propertyOf_66 : decode cX7_propertyOf 66 = .ok (.getfield 128, 3) := by decide +kernel
theorem dX7_propertyOf_69 : decode cX7_propertyOf 69 = .ok (.iload_n 1, 1) := by decide +kernel
theorem dX7_propertyOf_70 : decode cX7_propertyOf 70 = .ok (.invokestatic 84, 3) := by decide +kernel
theorem dX7_propertyOf_73 : decode cX7_propertyOf 73 = .ok (.ireturn, 1) := by decide +kernel
theorem dX7_propertyOf_74 : decode cX7_propertyOf 74 = .ok (.aload_n 3, 1) := by decide +kernel
theorem dX7_propertyOf_75 : decode cX7_propertyOf 75 = .ok (.getfield 131, 3) := by decide +kernel
theorem dX7_propertyOf_78 : decode cX7_propertyOf 78 = .ok (.ireturn, 1) := by decide +kernel
theorem dX7_propertyOf_79 : decode cX7_propertyOf 79 = .ok (.aload_n 3, 1) := by decide +kernel
theorem dX7_propertyOf_80 : decode cX7_propertyOf 80 = .ok (.getfield 136, 3) := by decide +kernel
theorem dX7_propertyOf_83 : decode cX7_propertyOf 83 = .ok (.ireturn, 1) := by decide +kernel
theorem dX7_propertyOf_84 : decode cX7_propertyOf 84 = .ok (.aload_n 3, 1) := by decide +kernel
theorem dX7_propertyOf_85 : decode cX7_propertyOf 85 = .ok (.getfield 138, 3) := by decide +kernel
theorem dX7_propertyOf_88 : decode cX7_propertyOf 88 = .ok (.ireturn, 1) := by decide +kernel
theorem dX7_propertyOf_89 : decode cX7_propertyOf 89 = .ok (.aload_n 3, 1) := by decide +kernel
theorem dX7_propertyOf_90 : decode cX7_propertyOf 90 = .ok (.getfield 140, 3) := by decide +kernel
theorem dX7_propertyOf_93 : decode cX7_propertyOf 93 = .ok (.invokestatic 143, 3) := by decide +kernel
theorem dX7_propertyOf_96 : decode cX7_propertyOf 96 = .ok (.ireturn, 1) := by decide +kernel
theorem dX8_init_0 : decode cX8_init 0 = .ok (.aload_n 0, 1) := by decide +kernel
theorem dX8_init_1 : decode cX8_init 1 = .ok (.invokespecial 1, 3) := by decide +kernel
theorem dX8_init_4 : decode cX8_init 4 = .ok (.return_, 1) := by decide +kernel
theorem dX8_sailTo_0 : decode cX8_sailTo 0 = .ok (.aload_n 0, 1) := by decide +kernel
theorem dX8_sailTo_1 : decode cX8_sailTo 1 = .ok (.iconst 0, 1) := by decide +kernel
theorem dX8_sailTo_2 : decode cX8_sailTo 2 = .ok (.putfield 7, 3) := by decide +kernel
theorem dX8_sailTo_5 : decode cX8_sailTo 5 = .ok (.aload_n 0, 1) := by decide +kernel
theorem dX8_sailTo_6 : decode cX8_sailTo 6 = .ok (.iconst 0, 1) := by decide +kernel
theorem dX8_sailTo_7 : decode cX8_sailTo 7 = .ok (.putfield 13, 3) := by decide +kernel
theorem dX8_sailTo_10 : decode cX8_sailTo 10 = .ok (.iconst 0, 1) := by decide +kernel
theorem dX8_sailTo_11 : decode cX8_sailTo 11 = .ok (.istore_n 3, 1) := by decide +kernel
theorem dX8_sailTo_12 : decode cX8_sailTo 12 = .ok (.iload_n 3, 1) := by decide +kernel
theorem dX8_sailTo_13 : decode cX8_sailTo 13 = .ok (.aload_n 1, 1) := by decide +kernel
theorem dX8_sailTo_14 : decode cX8_sailTo 14 = .ok (.getfield 16, 3) := by decide +kernel
theorem dX8_sailTo_17 : decode cX8_sailTo 17 = .ok (.if_icmp .ge 80, 3) := by decide +kernel
theorem dX8_sailTo_20 : decode cX8_sailTo 20 = .ok (.aload_n 1, 1) := by decide +kernel
theorem dX8_sailTo_21 : decode cX8_sailTo 21 = .ok (.getfield 21, 3) := by decide +kernel
theorem dX8_sailTo_24 : decode cX8_sailTo 24 = .ok (.iload_n 3, 1) := by decide +kernel
theorem dX8_sailTo_25 : decode cX8_sailTo 25 = .ok (.invokestatic 25, 3) := by decide +kernel
theorem dX8_sailTo_28 : decode cX8_sailTo 28 = .ok (.istore 4, 2) := by decide +kernel
theorem dX8_sailTo_30 : decode cX8_sailTo 30 = .ok (.iload_n 2, 1) := by decide +kernel
theorem dX8_sailTo_31 : decode cX8_sailTo 31 = .ok (.istore 5, 2) := by decide +kernel
theorem dX8_sailTo_33 : decode cX8_sailTo 33 = .ok (.iload_n 3, 1) := by decide +kernel
theorem dX8_sailTo_34 : decode cX8_sailTo 34 = .ok (.iconst 1, 1) := by decide +kernel
theorem dX8_sailTo_35 : decode cX8_sailTo 35 = .ok (.iadd, 1) := by decide +kernel
theorem dX8_sailTo_36 : decode cX8_sailTo 36 = .ok (.aload_n 1, 1) := by decide +kernel
theorem dX8_sailTo_37 : decode cX8_sailTo 37 = .ok (.getfield 16, 3) := by decide +kernel
theorem dX8_sailTo_40 : decode cX8_sailTo 40 = .ok (.if_icmp .ge 19, 3) := by decide +kernel
theorem dX8_sailTo_43 : decode cX8_sailTo 43 = .ok (.iload_n 2, 1) := by decide +kernel
theorem dX8_sailTo_44 : decode cX8_sailTo 44 = .ok (.aload_n 1, 1) := by decide +kernel
theorem dX8_sailTo_45 : decode cX8_sailTo 45 = .ok (.getfield 21, 3) := by decide +kernel
theorem dX8_sailTo_48 : decode cX8_sailTo 48 = .ok (.iload_n 3, 1) := by decide +kernel
theorem dX8_sailTo_49 : decode cX8_sailTo 49 = .ok (.iconst 1, 1) := by decide +kernel
theorem dX8_sailTo_50 : decode cX8_sailTo 50 = .ok (.iadd, 1) := by decide +kernel
theorem dX8_sailTo_51 : decode cX8_sailTo 51 = .ok (.invokestatic 25, 3) := by decide +kernel
theorem dX8_sailTo_54 : decode cX8_sailTo 54 = .ok (.invokestatic 31, 3) := by decide +kernel
theorem dX8_sailTo_57 : decode cX8_sailTo 57 = .ok (.istore 5, 2) := by decide +kernel
theorem dX8_sailTo_59 : decode cX8_sailTo 59 = .ok (.iload 5, 2) := by decide +kernel
theorem dX8_sailTo_61 : decode cX8_sailTo 61 = .ok (.iload 4, 2) := by decide +kernel
theorem dX8_sailTo_63 : decode cX8_sailTo 63 = .ok (.if_icmp .le 28, 3) := by decide +kernel
theorem dX8_sailTo_66 : decode cX8_sailTo 66 = .ok (.aload_n 0, 1) := by decide +kernel
theorem dX8_sailTo_67 : decode cX8_sailTo 67 = .ok (.aload_n 1, 1) := by decide +kernel
theorem dX8_sailTo_68 : decode cX8_sailTo 68 = .ok (.getfield 37, 3) := by decide +kernel
theorem dX8_sailTo_71 : decode cX8_sailTo 71 = .ok (.iload_n 3, 1) := by decide +kernel
theorem dX8_sailTo_72 : decode cX8_sailTo 72 = .ok (.invokestatic 25, 3) := by decide +kernel
theorem dX8_sailTo_75 : decode cX8_sailTo 75 = .ok (.aload_n 1, 1) := by decide +kernel
theorem dX8_sailTo_76 : decode cX8_sailTo 76 = .ok (.getfield 40, 3) := by decide +kernel
theorem dX8_sailTo_79 : decode cX8_sailTo 79 = .ok (.iload_n 3, 1) := by decide +kernel
theorem dX8_sailTo_80 : decode cX8_sailTo 80 = .ok (.invokestatic 25, 3) := by decide +kernel
theorem dX8_sailTo_83 : decode cX8_sailTo 83 = .ok (.iload 5, 2) := by decide +kernel
theorem dX8_sailTo_85 : decode cX8_sailTo 85 = .ok (.iload 4, 2) := by decide +kernel
theorem dX8_sailTo_87 : decode cX8_sailTo 87 = .ok (.isub, 1) := by decide +kernel
theorem dX8_sailTo_88 : decode cX8_sailTo 88 = .ok (.invokevirtual 43, 3) := by decide +kernel
theorem dX8_sailTo_91 : decode cX8_sailTo 91 = .ok (.iinc 3 1, 3) := by decide +kernel
theorem dX8_sailTo_94 : decode cX8_sailTo 94 = .ok (.goto (-82), 3) := by decide +kernel
theorem dX8_sailTo_97 : decode cX8_sailTo 97 = .ok (.aload_n 0, 1) := by decide +kernel
theorem dX8_sailTo_98 : decode cX8_sailTo 98 = .ok (.aload_n 1, 1) := by decide +kernel
theorem dX8_sailTo_99 : decode cX8_sailTo 99 = .ok (.getfield 47, 3) := by decide +kernel
theorem dX8_sailTo_102 : decode cX8_sailTo 102 = .ok (.aload_n 1, 1) := by decide +kernel
theorem dX8_sailTo_103 : decode cX8_sailTo 103 = .ok (.getfield 50, 3) := by decide +kernel
theorem dX8_sailTo_106 : decode cX8_sailTo 106 = .ok (.iload_n 2, 1) := by decide +kernel
theorem dX8_sailTo_107 : decode cX8_sailTo 107 = .ok (.invokevirtual 43, 3) := by decide +kernel
theorem dX8_sailTo_110 : decode cX8_sailTo 110 = .ok (.return_, 1) := by decide +kernel
theorem dX8_move_0 : decode cX8_move 0 = .ok (.iload_n 2, 1) := by decide +kernel
theorem dX8_move_1 : decode cX8_move 1 = .ok (.i2l, 1) := by decide +kernel
theorem dX8_move_2 : decode cX8_move 2 = .ok (.iload_n 3, 1) := by decide +kernel
theorem dX8_move_3 : decode cX8_move 3 = .ok (.i2l, 1) := by decide +kernel
theorem dX8_move_4 : decode cX8_move 4 = .ok (.lmul, 1) := by decide +kernel
theorem dX8_move_5 : decode cX8_move 5 = .ok (.ldc2_w 53, 3) := by decide +kernel
theorem dX8_move_8 : decode cX8_move 8 = .ok (.invokestatic 55, 3) := by decide +kernel
theorem dX8_move_11 : decode cX8_move 11 = .ok (.lstore 4, 2) := by decide +kernel
theorem dX8_move_13 : decode cX8_move 13 = .ok (.aload_n 0, 1) := by decide +kernel
theorem dX8_move_14 : decode cX8_move 14 = .ok (.dup, 1) := by decide +kernel
theorem dX8_move_15 : decode cX8_move 15 = .ok (.getfield 7, 3) := by decide +kernel
theorem dX8_move_18 : decode cX8_move 18 = .ok (.lload 4, 2) := by decide +kernel
theorem dX8_move_20 : decode cX8_move 20 = .ok (.iload_n 1, 1) := by decide +kernel
theorem dX8_move_21 : decode cX8_move 21 = .ok (.invokestatic 59, 3) := by decide +kernel
theorem dX8_move_24 : decode cX8_move 24 = .ok (.i2l, 1) := by decide +kernel
theorem dX8_move_25 : decode cX8_move 25 = .ok (.invokestatic 63, 3) := by decide +kernel
theorem dX8_move_28 : decode cX8_move 28 = .ok (.l2i, 1) := by decide +kernel
theorem dX8_move_29 : decode cX8_move 29 = .ok (.iadd, 1) := by decide +kernel
theorem dX8_move_30 : decode cX8_move 30 = .ok (.putfield 7, 3) := by decide +kernel
theorem dX8_move_33 : decode cX8_move 33 = .ok (.aload_n 0, 1) := by decide +kernel
theorem dX8_move_34 : decode cX8_move 34 = .ok (.dup, 1) := by decide +kernel
theorem dX8_move_35 : decode cX8_move 35 = .ok (.getfield 13, 3) := by decide +kernel
theorem dX8_move_38 : decode cX8_move 38 = .ok (.lload 4, 2) := by decide +kernel
theorem dX8_move_40 : decode cX8_move 40 = .ok (.iload_n 1, 1) := by decide +kernel
theorem dX8_move_41 : decode cX8_move 41 = .ok (.invokestatic 66, 3) := by decide +kernel
theorem dX8_move_44 : decode cX8_move 44 = .ok (.i2l, 1) := by decide +kernel
theorem dX8_move_45 : decode cX8_move 45 = .ok (.invokestatic 63, 3) := by decide +kernel
theorem dX8_move_48 : decode cX8_move 48 = .ok (.l2i, 1) := by decide +kernel
theorem dX8_move_49 : decode cX8_move 49 = .ok (.iadd, 1) := by decide +kernel
theorem dX8_move_50 : decode cX8_move 50 = .ok (.putfield 13, 3) := by decide +kernel
theorem dX8_move_53 : decode cX8_move 53 = .ok (.return_, 1) := by decide +kernel
theorem dX8_reckonFrom_0 : decode cX8_reckonFrom 0 = .ok (.aload_n 0, 1) := by decide +kernel
theorem dX8_reckonFrom_1 : decode cX8_reckonFrom 1 = .ok (.aload_n 1, 1) := by decide +kernel
theorem dX8_reckonFrom_2 : decode cX8_reckonFrom 2 = .ok (.getfield 69, 3) := by decide +kernel
theorem dX8_reckonFrom_5 : decode cX8_reckonFrom 5 = .ok (.aload_n 0, 1) := by decide +kernel
theorem dX8_reckonFrom_6 : decode cX8_reckonFrom 6 = .ok (.getfield 13, 3) := by decide +kernel
theorem dX8_reckonFrom_9 : decode cX8_reckonFrom 9 = .ok (.i2l, 1) := by decide +kernel
theorem dX8_reckonFrom_10 : decode cX8_reckonFrom 10 = .ok (.ldc2_w 74, 3) := by decide +kernel
theorem dX8_reckonFrom_13 : decode cX8_reckonFrom 13 = .ok (.invokestatic 55, 3) := by decide +kernel
theorem dX8_reckonFrom_16 : decode cX8_reckonFrom 16 = .ok (.l2i, 1) := by decide +kernel
theorem dX8_reckonFrom_17 : decode cX8_reckonFrom 17 = .ok (.iadd, 1) := by decide +kernel
theorem dX8_reckonFrom_18 : decode cX8_reckonFrom 18 = .ok (.putfield 76, 3) := by decide +kernel
theorem dX8_reckonFrom_21 : decode cX8_reckonFrom 21 = .ok (.aload_n 0, 1) := by decide +kernel
theorem dX8_reckonFrom_22 : decode cX8_reckonFrom 22 = .ok (.aload_n 1, 1) := by decide +kernel
theorem dX8_reckonFrom_23 : decode cX8_reckonFrom 23 = .ok (.getfield 77, 3) := by decide +kernel
theorem dX8_reckonFrom_26 : decode cX8_reckonFrom 26 = .ok (.i2l, 1) := by decide +kernel
theorem dX8_reckonFrom_27 : decode cX8_reckonFrom 27 = .ok (.ldc2_w 80, 3) := by decide +kernel
theorem dX8_reckonFrom_30 : decode cX8_reckonFrom 30 = .ok (.aload_n 0, 1) := by decide +kernel
theorem dX8_reckonFrom_31 : decode cX8_reckonFrom 31 = .ok (.getfield 7, 3) := by decide +kernel
theorem dX8_reckonFrom_34 : decode cX8_reckonFrom 34 = .ok (.i2l, 1) := by decide +kernel
theorem dX8_reckonFrom_35 : decode cX8_reckonFrom 35 = .ok (.lmul, 1) := by decide +kernel
theorem dX8_reckonFrom_36 : decode cX8_reckonFrom 36 = .ok (.aload_n 1, 1) := by decide +kernel
theorem dX8_reckonFrom_37 : decode cX8_reckonFrom 37 = .ok (.getfield 69, 3) := by decide +kernel
theorem dX8_reckonFrom_40 : decode cX8_reckonFrom 40 = .ok (.invokestatic 66, 3) := by decide +kernel
theorem dX8_reckonFrom_43 : decode cX8_reckonFrom 43 = .ok (.i2l, 1) := by decide +kernel
theorem dX8_reckonFrom_44 : decode cX8_reckonFrom 44 = .ok (.invokestatic 55, 3) := by decide +kernel
theorem dX8_reckonFrom_47 : decode cX8_reckonFrom 47 = .ok (.ladd, 1) := by decide +kernel
theorem dX8_reckonFrom_48 : decode cX8_reckonFrom 48 = .ok (.invokestatic 82, 3) := by decide +kernel
theorem dX8_reckonFrom_51 : decode cX8_reckonFrom 51 = .ok (.putfield 86, 3) := by decide +kernel
theorem dX8_reckonFrom_54 : decode cX8_reckonFrom 54 = .ok (.return_, 1) := by decide +kernel
theorem dX9_init_0 : decode cX9_init 0 = .ok (.aload_n 0, 1) := by decide +kernel
theorem dX9_init_1 : decode cX9_init 1 = .ok (.invokespecial 3, 3) := by decide +kernel
theorem dX9_init_4 : decode cX9_init 4 = .ok (.aload_n 0, 1) := by decide +kernel
theorem dX9_init_5 : decode cX9_init 5 = .ok (.new 9, 3) := by decide +kernel
theorem dX9_init_8 : decode cX9_init 8 = .ok (.dup, 1) := by decide +kernel
theorem dX9_init_9 : decode cX9_init 9 = .ok (.invokespecial 11, 3) := by decide +kernel
theorem dX9_init_12 : decode cX9_init 12 = .ok (.putfield 12, 3) := by decide +kernel
theorem dX9_init_15 : decode cX9_init 15 = .ok (.aload_n 0, 1) := by decide +kernel
theorem dX9_init_16 : decode cX9_init 16 = .ok (.new 18, 3) := by decide +kernel
theorem dX9_init_19 : decode cX9_init 19 = .ok (.dup, 1) := by decide +kernel
theorem dX9_init_20 : decode cX9_init 20 = .ok (.invokespecial 20, 3) := by decide +kernel
theorem dX9_init_23 : decode cX9_init 23 = .ok (.putfield 21, 3) := by decide +kernel
theorem dX9_init_26 : decode cX9_init 26 = .ok (.aload_n 0, 1) := by decide +kernel
theorem dX9_init_27 : decode cX9_init 27 = .ok (.aload_n 1, 1) := by decide +kernel
theorem dX9_init_28 : decode cX9_init 28 = .ok (.putfield 25, 3) := by decide +kernel
theorem dX9_init_31 : decode cX9_init 31 = .ok (.return_, 1) := by decide +kernel
theorem dX9_readText_0 : decode cX9_readText 0 = .ok (.aload_n 0, 1) := by decide +kernel
theorem dX9_readText_1 : decode cX9_readText 1 = .ok (.getfield 12, 3) := by decide +kernel
theorem dX9_readText_4 : decode cX9_readText 4 = .ok (.invokevirtual 29, 3) := by decide +kernel
theorem dX9_readText_7 : decode cX9_readText 7 = .ok (.aload_n 0, 1) := by decide +kernel
theorem dX9_readText_8 : decode cX9_readText 8 = .ok (.getfield 21, 3) := by decide +kernel
theorem dX9_readText_11 : decode cX9_readText 11 = .ok (.invokevirtual 32, 3) := by decide +kernel
theorem dX9_readText_14 : decode cX9_readText 14 = .ok (.iconst 0, 1) := by decide +kernel
theorem dX9_readText_15 : decode cX9_readText 15 = .ok (.istore_n 1, 1) := by decide +kernel
theorem dX9_readText_16 : decode cX9_readText 16 = .ok (.iload_n 1, 1) := by decide +kernel
theorem dX9_readText_17 : decode cX9_readText 17 = .ok (.sipush 700, 3) := by decide +kernel
theorem dX9_readText_20 : decode cX9_readText 20 = .ok (.if_icmp .ge 23, 3) := by decide +kernel
theorem dX9_readText_23 : decode cX9_readText 23 = .ok (.aload_n 0, 1) := by decide +kernel
theorem dX9_readText_24 : decode cX9_readText 24 = .ok (.getfield 25, 3) := by decide +kernel
theorem dX9_readText_27 : decode cX9_readText 27 = .ok (.invokevirtual 33, 3) := by decide +kernel
theorem dX9_readText_30 : decode cX9_readText 30 = .ok (.ifCond .ne 13, 3) := by decide +kernel
theorem dX9_readText_33 : decode cX9_readText 33 = .ok (.aload_n 0, 1) := by decide +kernel
theorem dX9_readText_34 : decode cX9_readText 34 = .ok (.invokevirtual 39, 3) := by decide +kernel
theorem dX9_readText_37 : decode cX9_readText 37 = .ok (.iinc 1 1, 3) := by decide +kernel
theorem dX9_readText_40 : decode cX9_readText 40 = .ok (.goto (-24), 3) := by decide +kernel
theorem dX9_readText_43 : decode cX9_readText 43 = .ok (.return_, 1) := by decide +kernel
theorem dX9_readClause_0 : decode cX9_readClause 0 = .ok (.aload_n 0, 1) := by decide +kernel
theorem dX9_readClause_1 : decode cX9_readClause 1 = .ok (.getfield 25, 3) := by decide +kernel
theorem dX9_readClause_4 : decode cX9_readClause 4 = .ok (.ldc 42, 2) := by decide +kernel
theorem dX9_readClause_6 : decode cX9_readClause 6 = .ok (.invokevirtual 44, 3) := by decide +kernel
theorem dX9_readClause_9 : decode cX9_readClause 9 = .ok (.ifCond .eq 10, 3) := by decide +kernel
theorem dX9_readClause_12 : decode cX9_readClause 12 = .ok (.aload_n 0, 1) := by decide +kernel
theorem dX9_readClause_13 : decode cX9_readClause 13 = .ok (.invokevirtual 48, 3) := by decide +kernel
theorem dX9_readClause_16 : decode cX9_readClause 16 = .ok (.goto 202, 3) := by decide +kernel
theorem dX9_readClause_19 : decode cX9_readClause 19 = .ok (.aload_n 0, 1) := by decide +kernel
theorem dX9_readClause_20 : decode cX9_readClause 20 = .ok (.getfield 25, 3) := by decide +kernel
theorem dX9_readClause_23 : decode cX9_readClause 23 = .ok (.ldc 51, 2) := by decide +kernel
theorem dX9_readClause_25 : decode cX9_readClause 25 = .ok (.invokevirtual 44, 3) := by decide +kernel
theorem dX9_readClause_28 : decode cX9_readClause 28 = .ok (.ifCond .eq 30, 3) := by decide +kernel
theorem dX9_readClause_31 : decode cX9_readClause 31 = .ok (.aload_n 0, 1) := by decide +kernel
theorem dX9_readClause_32 : decode cX9_readClause 32 = .ok (.getfield 25, 3) := by decide +kernel
theorem dX9_readClause_35 : decode cX9_readClause 35 = .ok (.invokevirtual 53, 3) := by decide +kernel
theorem dX9_readClause_38 : decode cX9_readClause 38 = .ok (.aload_n 0, 1) := by decide +kernel
theorem dX9_readClause_39 : decode cX9_readClause 39 = .ok (.getfield 21, 3) := by decide +kernel
theorem dX9_readClause_42 : decode cX9_readClause 42 = .ok (.aload_n 0, 1) := by decide +kernel
theorem dX9_readClause_43 : decode cX9_readClause 43 = .ok (.getfield 25, 3) := by decide +kernel
theorem dX9_readClause_46 : decode cX9_readClause 46 = .ok (.iconst 0, 1) := by decide +kernel
theorem dX9_readClause_47 : decode cX9_readClause 47 = .ok (.bipush 50, 2) := by decide +kernel
theorem dX9_readClause_49 : decode cX9_readClause 49 = .ok (.invokevirtual 56, 3) := by decide +kernel
theorem dX9_readClause_52 : decode cX9_readClause 52 = .ok (.putfield 60, 3) := by decide +kernel
theorem dX9_readClause_55 : decode cX9_readClause 55 = .ok (.goto 163, 3) := by decide +kernel
theorem dX9_readClause_58 : decode cX9_readClause 58 = .ok (.aload_n 0, 1) := by decide +kernel
theorem dX9_readClause_59 : decode cX9_readClause 59 = .ok (.getfield 25, 3) := by decide +kernel
theorem dX9_readClause_62 : decode cX9_readClause 62 = .ok (.ldc 64, 2) := by decide +kernel
theorem dX9_readClause_64 : decode cX9_readClause 64 = .ok (.invokevirtual 44, 3) := by decide +kernel
theorem dX9_readClause_67 : decode cX9_readClause 67 = .ok (.ifCond .eq 29, 3) := by decide +kernel
theorem dX9_readClause_70 : decode cX9_readClause 70 = .ok (.aload_n 0, 1) := by decide +kernel
theorem dX9_readClause_71 : decode cX9_readClause 71 = .ok (.getfield 25, 3) := by decide +kernel
theorem dX9_readClause_74 : decode cX9_readClause 74 = .ok (.invokevirtual 53, 3) := by decide +kernel
theorem dX9_readClause_77 : decode cX9_readClause 77 = .ok (.aload_n 0, 1) := by decide +kernel
theorem dX9_readClause_78 : decode cX9_readClause 78 = .ok (.getfield 21, 3) := by decide +kernel
theorem dX9_readClause_81 : decode cX9_readClause 81 = .ok (.aload_n 0, 1) := by decide +kernel
theorem dX9_readClause_82 : decode cX9_readClause 82 = .ok (.getfield 25, 3) := by decide +kernel
theorem dX9_readClause_85 : decode cX9_readClause 85 = .ok (.bipush 60, 2) := by decide +kernel
theorem dX9_readClause_87 : decode cX9_readClause 87 = .ok (.invokevirtual 66, 3) := by decide +kernel
theorem dX9_readClause_90 : decode cX9_readClause 90 = .ok (.putfield 70, 3) := by decide +kernel
theorem dX9_readClause_93 : decode cX9_readClause 93 = .ok (.goto 125, 3) := by decide +kernel
theorem dX9_readClause_96 : decode cX9_readClause 96 = .ok (.aload_n 0, 1) := by decide +kernel
theorem dX9_readClause_97 : decode cX9_readClause 97 = .ok (.getfield 25, 3) := by decide +kernel
theorem dX9_readClause_100 : decode cX9_readClause 100 = .ok (.ldc 72, 2) := by decide +kernel
theorem dX9_readClause_102 : decode cX9_readClause 102 = .ok (.invokevirtual 44, 3) := by decide +kernel
theorem dX9_readClause_105 : decode cX9_readClause 105 = .ok (.ifCond .eq 48, 3) := by decide +kernel
theorem dX9_readClause_108 : decode cX9_readClause 108 = .ok (.aload_n 0, 1) := by decide +kernel
theorem dX9_readClause_109 : decode cX9_readClause 109 = .ok (.getfield 25, 3) := by decide +kernel
theorem dX9_readClause_112 : decode cX9_readClause 112 = .ok (.invokevirtual 53, 3) := by decide +kernel
theorem dX9_readClause_115 : decode cX9_readClause 115 = .ok (.aload_n 0, 1) := by decide +kernel
theorem dX9_readClause_116 : decode cX9_readClause 116 = .ok (.getfield 21, 3) := by decide +kernel
theorem dX9_readClause_119 : decode cX9_readClause 119 = .ok (.aload_n 0, 1) := by decide +kernel
theorem dX9_readClause_120 : decode cX9_readClause 120 = .ok (.getfield 25, 3) := by decide +kernel
theorem dX9_readClause_123 : decode cX9_readClause 123 = .ok (.iconst 0, 1) := by decide +kernel
theorem dX9_readClause_124 : decode cX9_readClause 124 = .ok (.sipush 21599, 3) := by decide +kernel
theorem dX9_readClause_127 : decode cX9_readClause 127 = .ok (.invokevirtual 56, 3) := by decide +kernel
theorem dX9_readClause_130 : decode cX9_readClause 130 = .ok (.putfield 74, 3) := by decide +kernel
theorem dX9_readClause_133 : decode cX9_readClause 133 = .ok (.aload_n 0, 1) := by decide +kernel
theorem dX9_readClause_134 : decode cX9_readClause 134 = .ok (.getfield 21, 3) := by decide +kernel
theorem dX9_readClause_137 : decode cX9_readClause 137 = .ok (.aload_n 0, 1) := by decide +kernel
theorem dX9_readClause_138 : decode cX9_readClause 138 = .ok (.getfield 25, 3) := by decide +kernel
theorem dX9_readClause_141 : decode cX9_readClause 141 = .ok (.iconst 0, 1) := by decide +kernel
theorem dX9_readClause_142 : decode cX9_readClause 142 = .ok (.bipush 100, 2) := by decide +kernel
theorem dX9_readClause_144 : decode cX9_readClause 144 = .ok (.invokevirtual 56, 3) := by decide +kernel
theorem dX9_readClause_147 : decode cX9_readClause 147 = .ok (.putfield 77, 3) := by decide +kernel
theorem dX9_readClause_150 : decode cX9_readClause 150 = .ok (.goto 68, 3) := by decide +kernel
theorem dX9_readClause_153 : decode cX9_readClause 153 = .ok (.aload_n 0, 1) := by decide +kernel
theorem dX9_readClause_154 : decode cX9_readClause 154 = .ok (.getfield 25, 3) := by decide +kernel
theorem dX9_readClause_157 : decode cX9_readClause 157 = .ok (.ldc 80, 2) := by decide +kernel
theorem dX9_readClause_159 : decode cX9_readClause 159 = .ok (.invokevirtual 44, 3) := by decide +kernel
theorem dX9_readClause_162 : decode cX9_readClause 162 = .ok (.ifCond .eq 10, 3) := by decide +kernel
theorem dX9_readClause_165 : decode cX9_readClause 165 = .ok (.aload_n 0, 1) := by decide +kernel
theorem dX9_readClause_166 : decode cX9_readClause 166 = .ok (.invokevirtual 82, 3) := by decide +kernel
theorem dX9_readClause_169 : decode cX9_readClause 169 = .ok (.goto 49, 3) := by decide +kernel
theorem dX9_readClause_172 : decode cX9_readClause 172 = .ok (.aload_n 0, 1) := by decide +kernel
theorem dX9_readClause_173 : decode cX9_readClause 173 = .ok (.getfield 25, 3) := by decide +kernel
theorem dX9_readClause_176 : decode cX9_readClause 176 = .ok (.ldc 85, 2) := by decide +kernel
theorem dX9_readClause_178 : decode cX9_readClause 178 = .ok (.invokevirtual 44, 3) := by decide +kernel
theorem dX9_readClause_181 : decode cX9_readClause 181 = .ok (.ifCond .eq 10, 3) := by decide +kernel
theorem dX9_readClause_184 : decode cX9_readClause 184 = .ok (.aload_n 0, 1) := by decide +kernel
theorem dX9_readClause_185 : decode cX9_readClause 185 = .ok (.invokevirtual 87, 3) := by decide +kernel
theorem dX9_readClause_188 : decode cX9_readClause 188 = .ok (.goto 30, 3) := by decide +kernel
theorem dX9_readClause_191 : decode cX9_readClause 191 = .ok (.aload_n 0, 1) := by decide +kernel
theorem dX9_readClause_192 : decode cX9_readClause 192 = .ok (.getfield 25, 3) := by decide +kernel
theorem dX9_readClause_195 : decode cX9_readClause 195 = .ok (.ldc 90, 2) := by decide +kernel
theorem dX9_readClause_197 : decode cX9_readClause 197 = .ok (.invokevirtual 44, 3) := by decide +kernel
theorem dX9_readClause_200 : decode cX9_readClause 200 = .ok (.ifCond .eq 10, 3) := by decide +kernel
theorem dX9_readClause_203 : decode cX9_readClause 203 = .ok (.aload_n 0, 1) := by decide +kernel
theorem dX9_readClause_204 : decode cX9_readClause 204 = .ok (.invokevirtual 92, 3) := by decide +kernel
theorem dX9_readClause_207 : decode cX9_readClause 207 = .ok (.goto 11, 3) := by decide +kernel
theorem dX9_readClause_210 : decode cX9_readClause 210 = .ok (.aload_n 0, 1) := by decide +kernel
theorem dX9_readClause_211 : decode cX9_readClause 211 = .ok (.getfield 25, 3) := by decide +kernel
theorem dX9_readClause_214 : decode cX9_readClause 214 = .ok (.iconst 1, 1) := by decide +kernel
theorem dX9_readClause_215 : decode cX9_readClause 215 = .ok (.invokevirtual 95, 3) := by decide +kernel
theorem dX9_readClause_218 : decode cX9_readClause 218 = .ok (.aload_n 0, 1) := by decide +kernel
theorem dX9_readClause_219 : decode cX9_readClause 219 = .ok (.getfield 25, 3) := by decide +kernel
theorem dX9_readClause_222 : decode cX9_readClause 222 = .ok (.bipush 59, 2) := by decide +kernel
theorem dX9_readClause_224 : decode cX9_readClause 224 = .ok (.invokevirtual 99, 3) := by decide +kernel
theorem dX9_readClause_227 : decode cX9_readClause 227 = .ok (.return_, 1) := by decide +kernel
theorem dX9_readStart_0 : decode cX9_readStart 0 = .ok (.aload_n 0, 1) := by decide +kernel
theorem dX9_readStart_1 : decode cX9_readStart 1 = .ok (.getfield 25, 3) := by decide +kernel
theorem dX9_readStart_4 : decode cX9_readStart 4 = .ok (.invokevirtual 53, 3) := by decide +kernel
theorem dX9_readStart_7 : decode cX9_readStart 7 = .ok (.aload_n 0, 1) := by decide +kernel
theorem dX9_readStart_8 : decode cX9_readStart 8 = .ok (.getfield 12, 3) := by decide +kernel
theorem dX9_readStart_11 : decode cX9_readStart 11 = .ok (.aload_n 0, 1) := by decide +kernel
theorem dX9_readStart_12 : decode cX9_readStart 12 = .ok (.getfield 25, 3) := by decide +kernel
theorem dX9_readStart_15 : decode cX9_readStart 15 = .ok (.sipush 3600, 3) := by decide +kernel
theorem dX9_readStart_18 : decode cX9_readStart 18 = .ok (.invokevirtual 66, 3) := by decide +kernel
theorem dX9_readStart_21 : decode cX9_readStart 21 = .ok (.putfield 103, 3) := by decide +kernel
theorem dX9_readStart_24 : decode cX9_readStart 24 = .ok (.aload_n 0, 1) := by decide +kernel
theorem dX9_readStart_25 : decode cX9_readStart 25 = .ok (.getfield 12, 3) := by decide +kernel
theorem dX9_readStart_28 : decode cX9_readStart 28 = .ok (.aload_n 0, 1) := by decide +kernel
theorem dX9_readStart_29 : decode cX9_readStart 29 = .ok (.getfield 25, 3) := by decide +kernel
theorem dX9_readStart_32 : decode cX9_readStart 32 = .ok (.sipush 10799, 3) := by decide +kernel
theorem dX9_readStart_35 : decode cX9_readStart 35 = .ok (.invokevirtual 66, 3) := by decide +kernel
theorem dX9_readStart_38 : decode cX9_readStart 38 = .ok (.putfield 106, 3) := by decide +kernel
theorem dX9_readStart_41 : decode cX9_readStart 41 = .ok (.return_, 1) := by decide +kernel
theorem dX9_readBody_0 : decode cX9_readBody 0 = .ok (.aload_n 0, 1) := by decide +kernel
theorem dX9_readBody_1 : decode cX9_readBody 1 = .ok (.getfield 12, 3) := by decide +kernel
theorem dX9_readBody_4 : decode cX9_readBody 4 = .ok (.getfield 109, 3) := by decide +kernel
theorem dX9_readBody_7 : decode cX9_readBody 7 = .ok (.istore_n 1, 1) := by decide +kernel
theorem dX9_readBody_8 : decode cX9_readBody 8 = .ok (.iload_n 1, 1) := by decide +kernel
theorem dX9_readBody_9 : decode cX9_readBody 9 = .ok (.bipush 6, 2) := by decide +kernel
theorem dX9_readBody_11 : decode cX9_readBody 11 = .ok (.if_icmp .lt 12, 3) := by decide +kernel
theorem dX9_readBody_14 : decode cX9_readBody 14 = .ok (.aload_n 0, 1) := by decide +kernel
theorem dX9_readBody_15 : decode cX9_readBody 15 = .ok (.getfield 25, 3) := by decide +kernel
theorem dX9_readBody_18 : decode cX9_readBody 18 = .ok (.iconst 3, 1) := by decide +kernel
theorem dX9_readBody_19 : decode cX9_readBody 19 = .ok (.invokevirtual 95, 3) := by decide +kernel
theorem dX9_readBody_22 : decode cX9_readBody 22 = .ok (.return_, 1) := by decide +kernel
theorem dX9_readBody_23 : decode cX9_readBody 23 = .ok (.aload_n 0, 1) := by decide +kernel
theorem dX9_readBody_24 : decode cX9_readBody 24 = .ok (.getfield 25, 3) := by decide +kernel
theorem dX9_readBody_27 : decode cX9_readBody 27 = .ok (.invokevirtual 53, 3) := by decide +kernel
theorem dX9_readBody_30 : decode cX9_readBody 30 = .ok (.aload_n 0, 1) := by decide +kernel
theorem dX9_readBody_31 : decode cX9_readBody 31 = .ok (.getfield 25, 3) := by decide +kernel
theorem dX9_readBody_34 : decode cX9_readBody 34 = .ok (.invokevirtual 112, 3) := by decide +kernel
theorem dX9_readBody_37 : decode cX9_readBody 37 = .ok (.ifCond .eq 15, 3) := by decide +kernel
theorem dX9_readBody_40 : decode cX9_readBody 40 = .ok (.aload_n 0, 1) := by decide +kernel
theorem dX9_readBody_41 : decode cX9_readBody 41 = .ok (.getfield 25, 3) := by decide +kernel
theorem dX9_readBody_44 : decode cX9_readBody 44 = .ok (.invokevirtual 115, 3) := by decide +kernel
theorem dX9_readBody_47 : decode cX9_readBody 47 = .ok (.bipush 8, 2) := by decide +kernel
theorem dX9_readBody_49 : decode cX9_readBody 49 = .ok (.if_icmp .le 14, 3) := by decide +kernel
theorem dX9_readBody_52 : decode cX9_readBody 52 = .ok (.aload_n 0, 1) := by decide +kernel
theorem dX9_readBody_53 : decode cX9_readBody 53 = .ok (.getfield 25, 3) := by decide +kernel
theorem dX9_readBody_56 : decode cX9_readBody 56 = .ok (.iconst 1, 1) := by decide +kernel
theorem dX9_readBody_57 : decode cX9_readBody 57 = .ok (.invokevirtual 95, 3) := by decide +kernel
theorem dX9_readBody_60 : decode cX9_readBody 60 = .ok (.goto 41, 3) := by decide +kernel
theorem dX9_readBody_63 : decode cX9_readBody 63 = .ok (.aload_n 0, 1) := by decide +kernel
theorem dX9_readBody_64 : decode cX9_readBody 64 = .ok (.getfield 12, 3) := by decide +kernel
theorem dX9_readBody_67 : decode cX9_readBody 67 = .ok (.aload_n 0, 1) := by decide +kernel
theorem dX9_readBody_68 : decode cX9_readBody 68 = .ok (.getfield 25, 3) := by decide +kernel
theorem dX9_readBody_71 : decode cX9_readBody 71 = .ok (.invokevirtual 119, 3) := by decide +kernel
theorem dX9_readBody_74 : decode cX9_readBody 74 = .ok (.iconst (-1), 1) := by decide +kernel
theorem dX9_readBody_75 : decode cX9_readBody 75 = .ok (.if_icmp .eq 14, 3) := by decide +kernel
theorem dX9_readBody_78 : decode cX9_readBody 78 = .ok (.aload_n 0, 1) := by decide +kernel
theorem dX9_readBody_79 : decode cX9_readBody 79 = .ok (.getfield 25, 3) := by decide +kernel
theorem dX9_readBody_82 : decode cX9_readBody 82 = .ok (.iconst 4, 1) := by decide +kernel
theorem dX9_readBody_83 : decode cX9_readBody 83 = .ok (.invokevirtual 95, 3) := by decide +kernel
theorem dX9_readBody_86 : decode cX9_readBody 86 = .ok (.goto 15, 3) := by decide +kernel
theorem dX9_readBody_89 : decode cX9_readBody 89 = .ok (.aload_n 0, 1) := by decide +kernel
theorem dX9_readBody_90 : decode cX9_readBody 90 = .ok (.getfield 12, 3) := by decide +kernel
theorem dX9_readBody_93 : decode cX9_readBody 93 = .ok (.iload_n 1, 1) := by decide +kernel
theorem dX9_readBody_94 : decode cX9_readBody 94 = .ok (.aload_n 0, 1) := by decide +kernel
theorem dX9_readBody_95 : decode cX9_readBody 95 = .ok (.getfield 25, 3) := by decide +kernel
theorem dX9_readBody_98 : decode cX9_readBody 98 = .ok (.invokevirtual 123, 3) := by decide +kernel
theorem dX9_readBody_101 : decode cX9_readBody 101 = .ok (.aload_n 0, 1) := by decide +kernel
theorem dX9_readBody_102 : decode cX9_readBody 102 = .ok (.getfield 25, 3) := by decide +kernel
theorem dX9_readBody_105 : decode cX9_readBody 105 = .ok (.invokevirtual 53, 3) := by decide +kernel
theorem dX9_readBody_108 : decode cX9_readBody 108 = .ok (.aload_n 0, 1) := by decide +kernel
theorem dX9_readBody_109 : decode cX9_readBody 109 = .ok (.getfield 12, 3) := by decide +kernel
theorem dX9_readBody_112 : decode cX9_readBody 112 = .ok (.getfield 127, 3) := by decide +kernel
theorem dX9_readBody_115 : decode cX9_readBody 115 = .ok (.iload_n 1, 1) := by decide +kernel
theorem dX9_readBody_116 : decode cX9_readBody 116 = .ok (.aload_n 0, 1) := by decide +kernel
theorem dX9_readBody_117 : decode cX9_readBody 117 = .ok (.getfield 25, 3) := by decide +kernel
theorem dX9_readBody_120 : decode cX9_readBody 120 = .ok (.sipush 3600, 3) := by decide +kernel
theorem dX9_readBody_123 : decode cX9_readBody 123 = .ok (.invokevirtual 66, 3) := by decide +kernel
theorem dX9_readBody_126 : decode cX9_readBody 126 = .ok (.invokestatic 131, 3) := by decide +kernel
theorem dX9_readBody_129 : decode cX9_readBody 129 = .ok (.aload_n 0, 1) := by decide +kernel
theorem dX9_readBody_130 : decode cX9_readBody 130 = .ok (.getfield 12, 3) := by decide +kernel
theorem dX9_readBody_133 : decode cX9_readBody 133 = .ok (.getfield 135, 3) := by decide +kernel
theorem dX9_readBody_136 : decode cX9_readBody 136 = .ok (.iload_n 1, 1) := by decide +kernel
theorem dX9_readBody_137 : decode cX9_readBody 137 = .ok (.aload_n 0, 1) := by decide +kernel
theorem dX9_readBody_138 : decode cX9_readBody 138 = .ok (.getfield 25, 3) := by decide +kernel
theorem dX9_readBody_141 : decode cX9_readBody 141 = .ok (.iconst 0, 1) := by decide +kernel
theorem dX9_readBody_142 : decode cX9_readBody 142 = .ok (.sipush 21599, 3) := by decide +kernel
theorem dX9_readBody_145 : decode cX9_readBody 145 = .ok (.invokevirtual 56, 3) := by decide +kernel
theorem dX9_readBody_148 : decode cX9_readBody 148 = .ok (.invokestatic 131, 3) := by decide +kernel
theorem dX9_readBody_151 : decode cX9_readBody 151 = .ok (.aload_n 0, 1) := by decide +kernel
theorem dX9_readBody_152 : decode cX9_readBody 152 = .ok (.getfield 12, 3) := by decide +kernel
theorem dX9_readBody_155 : decode cX9_readBody 155 = .ok (.dup, 1) := by decide +kernel
theorem dX9_readBody_156 : decode cX9_readBody 156 = .ok (.getfield 109, 3) := by decide +kernel
theorem dX9_readBody_159 : decode cX9_readBody 159 = .ok (.iconst 1, 1) := by decide +kernel
theorem dX9_readBody_160 : decode cX9_readBody 160 = .ok (.iadd, 1) := by decide +kernel
theorem dX9_readBody_161 : decode cX9_readBody 161 = .ok (.putfield 109, 3) := by decide +kernel
theorem dX9_readBody_164 : decode cX9_readBody 164 = .ok (.return_, 1) := by decide +kernel
theorem dX9_readLeg_0 : decode cX9_readLeg 0 = .ok (.aload_n 0, 1) := by decide +kernel
theorem dX9_readLeg_1 : decode cX9_readLeg 1 = .ok (.getfield 21, 3) := by decide +kernel
theorem dX9_readLeg_4 : decode cX9_readLeg 4 = .ok (.getfield 138, 3) := by decide +kernel
theorem dX9_readLeg_7 : decode cX9_readLeg 7 = .ok (.bipush 8, 2) := by decide +kernel
theorem dX9_readLeg_9 : decode cX9_readLeg 9 = .ok (.if_icmp .lt 12, 3) := by decide +kernel
theorem dX9_readLeg_12 : decode cX9_readLeg 12 = .ok (.aload_n 0, 1) := by decide +kernel
theorem dX9_readLeg_13 : decode cX9_readLeg 13 = .ok (.getfield 25, 3) := by decide +kernel
theorem dX9_readLeg_16 : decode cX9_readLeg 16 = .ok (.iconst 3, 1) := by decide +kernel
theorem dX9_readLeg_17 : decode cX9_readLeg 17 = .ok (.invokevirtual 95, 3) := by decide +kernel
theorem dX9_readLeg_20 : decode cX9_readLeg 20 = .ok (.return_, 1) := by decide +kernel
theorem dX9_readLeg_21 : decode cX9_readLeg 21 = .ok (.aload_n 0, 1) := by decide +kernel
theorem dX9_readLeg_22 : decode cX9_readLeg 22 = .ok (.getfield 25, 3) := by decide +kernel
theorem dX9_readLeg_25 : decode cX9_readLeg 25 = .ok (.invokevirtual 53, 3) := by decide +kernel
theorem dX9_readLeg_28 : decode cX9_readLeg 28 = .ok (.aload_n 0, 1) := by decide +kernel
theorem dX9_readLeg_29 : decode cX9_readLeg 29 = .ok (.getfield 25, 3) := by decide +kernel
theorem dX9_readLeg_32 : decode cX9_readLeg 32 = .ok (.iconst 0, 1) := by decide +kernel
theorem dX9_readLeg_33 : decode cX9_readLeg 33 = .ok (.sipush 5000, 3) := by decide +kernel
theorem dX9_readLeg_36 : decode cX9_readLeg 36 = .ok (.invokevirtual 141, 3) := by decide +kernel
theorem dX9_readLeg_39 : decode cX9_readLeg 39 = .ok (.istore_n 1, 1) := by decide +kernel
theorem dX9_readLeg_40 : decode cX9_readLeg 40 = .ok (.iload_n 1, 1) := by decide +kernel
theorem dX9_readLeg_41 : decode cX9_readLeg 41 = .ok (.aload_n 0, 1) := by decide +kernel
theorem dX9_readLeg_42 : decode cX9_readLeg 42 = .ok (.getfield 21, 3) := by decide +kernel
theorem dX9_readLeg_45 : decode cX9_readLeg 45 = .ok (.invokevirtual 144, 3) := by decide +kernel
theorem dX9_readLeg_48 : decode cX9_readLeg 48 = .ok (.if_icmp .gt 11, 3) := by decide +kernel
theorem dX9_readLeg_51 : decode cX9_readLeg 51 = .ok (.aload_n 0, 1) := by decide +kernel
theorem dX9_readLeg_52 : decode cX9_readLeg 52 = .ok (.getfield 25, 3) := by decide +kernel
theorem dX9_readLeg_55 : decode cX9_readLeg 55 = .ok (.iconst 5, 1) := by decide +kernel
theorem dX9_readLeg_56 : decode cX9_readLeg 56 = .ok (.invokevirtual 95, 3) := by decide +kernel
theorem dX9_readLeg_59 : decode cX9_readLeg 59 = .ok (.aload_n 0, 1) := by decide +kernel
theorem dX9_readLeg_60 : decode cX9_readLeg 60 = .ok (.getfield 25, 3) := by decide +kernel
theorem dX9_readLeg_63 : decode cX9_readLeg 63 = .ok (.invokevirtual 53, 3) := by decide +kernel
theorem dX9_readLeg_66 : decode cX9_readLeg 66 = .ok (.aload_n 0, 1) := by decide +kernel
theorem dX9_readLeg_67 : decode cX9_readLeg 67 = .ok (.getfield 25, 3) := by decide +kernel
theorem dX9_readLeg_70 : decode cX9_readLeg 70 = .ok (.iconst 0, 1) := by decide +kernel
theorem dX9_readLeg_71 : decode cX9_readLeg 71 = .ok (.sipush 21599, 3) := by decide +kernel
theorem dX9_readLeg_74 : decode cX9_readLeg 74 = .ok (.invokevirtual 56, 3) := by decide +kernel
theorem dX9_readLeg_77 : decode cX9_readLeg 77 = .ok (.istore_n 2, 1) := by decide +kernel
theorem dX9_readLeg_78 : decode cX9_readLeg 78 = .ok (.aload_n 0, 1) := by decide +kernel
theorem dX9_readLeg_79 : decode cX9_readLeg 79 = .ok (.getfield 25, 3) := by decide +kernel
theorem dX9_readLeg_82 : decode cX9_readLeg 82 = .ok (.iconst 0, 1) := by decide +kernel
theorem dX9_readLeg_83 : decode cX9_readLeg 83 = .ok (.sipush 400, 3) := by decide +kernel
theorem dX9_readLeg_86 : decode cX9_readLeg 86 = .ok (.invokevirtual 56, 3) := by decide +kernel
theorem dX9_readLeg_89 : decode cX9_readLeg 89 = .ok (.istore_n 3, 1) := by decide +kernel
theorem dX9_readLeg_90 : decode cX9_readLeg 90 = .ok (.aload_n 0, 1) := by decide +kernel
theorem dX9_readLeg_91 : decode cX9_readLeg 91 = .ok (.getfield 21, 3) := by decide +kernel
theorem dX9_readLeg_94 : decode cX9_readLeg 94 = .ok (.iload_n 1, 1) := by decide +kernel
theorem dX9_readLeg_95 : decode cX9_readLeg 95 = .ok (.iload_n 2, 1) := by decide +kernel
theorem dX9_readLeg_96 : decode cX9_readLeg 96 = .ok (.iload_n 3, 1) := by decide +kernel
theorem dX9_readLeg_97 : decode cX9_readLeg 97 = .ok (.invokevirtual 147, 3) := by decide +kernel
theorem dX9_readLeg_100 : decode cX9_readLeg 100 = .ok (.return_, 1) := by decide +kernel
theorem dX9_readSight_0 : decode cX9_readSight 0 = .ok (.aload_n 0, 1) := by decide +kernel
theorem dX9_readSight_1 : decode cX9_readSight 1 = .ok (.getfield 21, 3) := by decide +kernel
theorem dX9_readSight_4 : decode cX9_readSight 4 = .ok (.getfield 151, 3) := by decide +kernel
theorem dX9_readSight_7 : decode cX9_readSight 7 = .ok (.bipush 12, 2) := by decide +kernel
theorem dX9_readSight_9 : decode cX9_readSight 9 = .ok (.if_icmp .lt 12, 3) := by decide +kernel
theorem dX9_readSight_12 : decode cX9_readSight 12 = .ok (.aload_n 0, 1) := by decide +kernel
theorem dX9_readSight_13 : decode cX9_readSight 13 = .ok (.getfield 25, 3) := by decide +kernel
theorem dX9_readSight_16 : decode cX9_readSight 16 = .ok (.iconst 3, 1) := by decide +kernel
theorem dX9_readSight_17 : decode cX9_readSight 17 = .ok (.invokevirtual 95, 3) := by decide +kernel
theorem dX9_readSight_20 : decode cX9_readSight 20 = .ok (.return_, 1) := by decide +kernel
theorem dX9_readSight_21 : decode cX9_readSight 21 = .ok (.aload_n 0, 1) := by decide +kernel
theorem dX9_readSight_22 : decode cX9_readSight 22 = .ok (.getfield 25, 3) := by decide +kernel
theorem dX9_readSight_25 : decode cX9_readSight 25 = .ok (.invokevirtual 53, 3) := by decide +kernel
theorem dX9_readSight_28 : decode cX9_readSight 28 = .ok (.aload_n 0, 1) := by decide +kernel
theorem dX9_readSight_29 : decode cX9_readSight 29 = .ok (.getfield 12, 3) := by decide +kernel
theorem dX9_readSight_32 : decode cX9_readSight 32 = .ok (.aload_n 0, 1) := by decide +kernel
theorem dX9_readSight_33 : decode cX9_readSight 33 = .ok (.getfield 25, 3) := by decide +kernel
theorem dX9_readSight_36 : decode cX9_readSight 36 = .ok (.invokevirtual 119, 3) := by decide +kernel
theorem dX9_readSight_39 : decode cX9_readSight 39 = .ok (.istore_n 1, 1) := by decide +kernel
theorem dX9_readSight_40 : decode cX9_readSight 40 = .ok (.iload_n 1, 1) := by decide +kernel
theorem dX9_readSight_41 : decode cX9_readSight 41 = .ok (.iconst (-1), 1) := by decide +kernel
theorem dX9_readSight_42 : decode cX9_readSight 42 = .ok (.if_icmp .ne 25, 3) := by decide +kernel
theorem dX9_readSight_45 : decode cX9_readSight 45 = .ok (.aload_n 0, 1) := by decide +kernel
theorem dX9_readSight_46 : decode cX9_readSight 46 = .ok (.getfield 25, 3) := by decide +kernel
theorem dX9_readSight_49 : decode cX9_readSight 49 = .ok (.aload_n 0, 1) := by decide +kernel
theorem dX9_readSight_50 : decode cX9_readSight 50 = .ok (.getfield 25, 3) := by decide +kernel
theorem dX9_readSight_53 : decode cX9_readSight 53 = .ok (.invokevirtual 112, 3) := by decide +kernel
theorem dX9_readSight_56 : decode cX9_readSight 56 = .ok (.ifCond .eq 7, 3) := by decide +kernel
theorem dX9_readSight_59 : decode cX9_readSight 59 = .ok (.iconst 4, 1) := by decide +kernel
theorem dX9_readSight_60 : decode cX9_readSight 60 = .ok (.goto 4, 3) := by decide +kernel
theorem dX9_readSight_63 : decode cX9_readSight 63 = .ok (.iconst 1, 1) := by decide +kernel
theorem dX9_readSight_64 : decode cX9_readSight 64 = .ok (.invokevirtual 95, 3) := by decide +kernel
theorem dX9_readSight_67 : decode cX9_readSight 67 = .ok (.aload_n 0, 1) := by decide +kernel
theorem dX9_readSight_68 : decode cX9_readSight 68 = .ok (.getfield 25, 3) := by decide +kernel
theorem dX9_readSight_71 : decode cX9_readSight 71 = .ok (.invokevirtual 53, 3) := by decide +kernel
theorem dX9_readSight_74 : decode cX9_readSight 74 = .ok (.aload_n 0, 1) := by decide +kernel
theorem dX9_readSight_75 : decode cX9_readSight 75 = .ok (.getfield 25, 3) := by decide +kernel
theorem dX9_readSight_78 : decode cX9_readSight 78 = .ok (.iconst 0, 1) := by decide +kernel
theorem dX9_readSight_79 : decode cX9_readSight 79 = .ok (.sipush 5000, 3) := by decide +kernel
theorem dX9_readSight_82 : decode cX9_readSight 82 = .ok (.invokevirtual 56, 3) := by decide +kernel
theorem dX9_readSight_85 : decode cX9_readSight 85 = .ok (.istore_n 2, 1) := by decide +kernel
theorem dX9_readSight_86 : decode cX9_readSight 86 = .ok (.aload_n 0, 1) := by decide +kernel
theorem dX9_readSight_87 : decode cX9_readSight 87 = .ok (.getfield 25, 3) := by decide +kernel
theorem dX9_readSight_90 : decode cX9_readSight 90 = .ok (.sipush 300, 3) := by decide +kernel
theorem dX9_readSight_93 : decode cX9_readSight 93 = .ok (.sipush 5100, 3) := by decide +kernel
theorem dX9_readSight_96 : decode cX9_readSight 96 = .ok (.invokevirtual 56, 3) := by decide +kernel
theorem dX9_readSight_99 : decode cX9_readSight 99 = .ok (.istore_n 3, 1) := by decide +kernel
theorem dX9_readSight_100 : decode cX9_readSight 100 = .ok (.aload_n 0, 1) := by decide +kernel
theorem dX9_readSight_101 : decode cX9_readSight 101 = .ok (.getfield 21, 3) := by decide +kernel
theorem dX9_readSight_104 : decode cX9_readSight 104 = .ok (.iload_n 1, 1) := by decide +kernel
theorem dX9_readSight_105 : decode cX9_readSight 105 = .ok (.iload_n 2, 1) := by decide +kernel
theorem dX9_readSight_106 : decode cX9_readSight 106 = .ok (.iload_n 3, 1) := by decide +kernel
theorem dX9_readSight_107 : decode cX9_readSight 107 = .ok (.invokevirtual 154, 3) := by decide +kernel
theorem dX9_readSight_110 : decode cX9_readSight 110 = .ok (.return_, 1) := by decide +kernel
theorem dX10_init_0 : decode cX10_init 0 = .ok (.aload_n 0, 1) := by decide +kernel
theorem dX10_init_1 : decode cX10_init 1 = .ok (.invokespecial 3, 3) := by decide +kernel
theorem dX10_init_4 : decode cX10_init 4 = .ok (.aload_n 0, 1) := by decide +kernel
theorem dX10_init_5 : decode cX10_init 5 = .ok (.sipush 700, 3) := by decide +kernel
theorem dX10_init_8 : decode cX10_init 8 = .ok (.newarray .byte, 2) := by decide +kernel
theorem dX10_init_10 : decode cX10_init 10 = .ok (.putfield 9, 3) := by decide +kernel
theorem dX10_init_13 : decode cX10_init 13 = .ok (.aload_n 0, 1) := by decide +kernel
theorem dX10_init_14 : decode cX10_init 14 = .ok (.iconst (-1), 1) := by decide +kernel
theorem dX10_init_15 : decode cX10_init 15 = .ok (.putfield 15, 3) := by decide +kernel
theorem dX10_init_18 : decode cX10_init 18 = .ok (.return_, 1) := by decide +kernel
theorem dX10_append_0 : decode cX10_append 0 = .ok (.bipush 24, 2) := by decide +kernel
theorem dX10_append_2 : decode cX10_append 2 = .ok (.istore_n 2, 1) := by decide +kernel
theorem dX10_append_3 : decode cX10_append 3 = .ok (.iload_n 2, 1) := by decide +kernel
theorem dX10_append_4 : decode cX10_append 4 = .ok (.ifCond .lt 44, 3) := by decide +kernel
theorem dX10_append_7 : decode cX10_append 7 = .ok (.aload_n 0, 1) := by decide +kernel
theorem dX10_append_8 : decode cX10_append 8 = .ok (.getfield 19, 3) := by decide +kernel
theorem dX10_append_11 : decode cX10_append 11 = .ok (.aload_n 0, 1) := by decide +kernel
theorem dX10_append_12 : decode cX10_append 12 = .ok (.getfield 9, 3) := by decide +kernel
theorem dX10_append_15 : decode cX10_append 15 = .ok (.arraylength, 1) := by decide +kernel
theorem dX10_append_16 : decode cX10_append 16 = .ok (.if_icmp .ge 26, 3) := by decide +kernel
theorem dX10_append_19 : decode cX10_append 19 = .ok (.aload_n 0, 1) := by decide +kernel
theorem dX10_append_20 : decode cX10_append 20 = .ok (.getfield 9, 3) := by decide +kernel
theorem dX10_append_23 : decode cX10_append 23 = .ok (.aload_n 0, 1) := by decide +kernel
theorem dX10_append_24 : decode cX10_append 24 = .ok (.getfield 19, 3) := by decide +kernel
theorem dX10_append_27 : decode cX10_append 27 = .ok (.iload_n 1, 1) := by decide +kernel
theorem dX10_append_28 : decode cX10_append 28 = .ok (.iload_n 2, 1) := by decide +kernel
theorem dX10_append_29 : decode cX10_append 29 = .ok (.ishr, 1) := by decide +kernel
theorem dX10_append_30 : decode cX10_append 30 = .ok (.i2b, 1) := by decide +kernel
theorem dX10_append_31 : decode cX10_append 31 = .ok (.bastore, 1) := by decide +kernel
theorem dX10_append_32 : decode cX10_append 32 = .ok (.aload_n 0, 1) := by decide +kernel
theorem dX10_append_33 : decode cX10_append 33 = .ok (.dup, 1) := by decide +kernel
theorem dX10_append_34 : decode cX10_append 34 = .ok (.getfield 19, 3) := by decide +kernel
theorem dX10_append_37 : decode cX10_append 37 = .ok (.iconst 1, 1) := by decide +kernel
theorem dX10_append_38 : decode cX10_append 38 = .ok (.iadd, 1) := by decide +kernel
theorem dX10_append_39 : decode cX10_append 39 = .ok (.putfield 19, 3) := by decide +kernel
theorem dX10_append_42 : decode cX10_append 42 = .ok (.iinc 2 (-8), 3) := by decide +kernel
theorem dX10_append_45 : decode cX10_append 45 = .ok (.goto (-42), 3) := by decide +kernel
theorem dX10_append_48 : decode cX10_append 48 = .ok (.return_, 1) := by decide +kernel
theorem dX10_begin_0 : decode cX10_begin 0 = .ok (.aload_n 0, 1) := by decide +kernel
theorem dX10_begin_1 : decode cX10_begin 1 = .ok (.iconst 0, 1) := by decide +kernel
theorem dX10_begin_2 : decode cX10_begin 2 = .ok (.putfield 19, 3) := by decide +kernel
theorem dX10_begin_5 : decode cX10_begin 5 = .ok (.aload_n 0, 1) := by decide +kernel
theorem dX10_begin_6 : decode cX10_begin 6 = .ok (.iconst 0, 1) := by decide +kernel
theorem dX10_begin_7 : decode cX10_begin 7 = .ok (.putfield 22, 3) := by decide +kernel
theorem dX10_begin_10 : decode cX10_begin 10 = .ok (.aload_n 0, 1) := by decide +kernel
theorem dX10_begin_11 : decode cX10_begin 11 = .ok (.iconst (-1), 1) := by decide +kernel
theorem dX10_begin_12 : decode cX10_begin 12 = .ok (.putfield 15, 3) := by decide +kernel
theorem dX10_begin_15 : decode cX10_begin 15 = .ok (.aload_n 0, 1) := by decide +kernel
theorem dX10_begin_16 : decode cX10_begin 16 = .ok (.iconst 0, 1) := by decide +kernel
theorem dX10_begin_17 : decode cX10_begin 17 = .ok (.putfield 25, 3) := by decide +kernel
theorem dX10_begin_20 : decode cX10_begin 20 = .ok (.aload_n 0, 1) := by decide +kernel
theorem dX10_begin_21 : decode cX10_begin 21 = .ok (.iload_n 1, 1) := by decide +kernel
theorem dX10_begin_22 : decode cX10_begin 22 = .ok (.aload_n 0, 1) := by decide +kernel
theorem dX10_begin_23 : decode cX10_begin 23 = .ok (.getfield 9, 3) := by decide +kernel
theorem dX10_begin_26 : decode cX10_begin 26 = .ok (.arraylength, 1) := by decide +kernel
theorem dX10_begin_27 : decode cX10_begin 27 = .ok (.invokestatic 28, 3) := by decide +kernel
theorem dX10_begin_30 : decode cX10_begin 30 = .ok (.putfield 34, 3) := by decide +kernel
theorem dX10_begin_33 : decode cX10_begin 33 = .ok (.aload_n 0, 1) := by decide +kernel
theorem dX10_begin_34 : decode cX10_begin 34 = .ok (.invokevirtual 37, 3) := by decide +kernel
theorem dX10_begin_37 : decode cX10_begin 37 = .ok (.return_, 1) := by decide +kernel
theorem dX10_advance_0 : decode cX10_advance 0 = .ok (.aload_n 0, 1) := by decide +kernel
theorem dX10_advance_1 : decode cX10_advance 1 = .ok (.aload_n 0, 1) := by decide +kernel
theorem dX10_advance_2 : decode cX10_advance 2 = .ok (.getfield 25, 3) := by decide +kernel
theorem dX10_advance_5 : decode cX10_advance 5 = .ok (.putfield 40, 3) := by decide +kernel
theorem dX10_advance_8 : decode cX10_advance 8 = .ok (.aload_n 0, 1) := by decide +kernel
theorem dX10_advance_9 : decode cX10_advance 9 = .ok (.getfield 40, 3) := by decide +kernel
theorem dX10_advance_12 : decode cX10_advance 12 = .ok (.aload_n 0, 1) := by decide +kernel
theorem dX10_advance_13 : decode cX10_advance 13 = .ok (.getfield 34, 3) := by decide +kernel
theorem dX10_advance_16 : decode cX10_advance 16 = .ok (.if_icmp .ge 30, 3) := by decide +kernel
theorem dX10_advance_19 : decode cX10_advance 19 = .ok (.aload_n 0, 1) := by decide +kernel
theorem dX10_advance_20 : decode cX10_advance 20 = .ok (.aload_n 0, 1) := by decide +kernel
theorem dX10_advance_21 : decode cX10_advance 21 = .ok (.getfield 40, 3) := by decide +kernel
theorem dX10_advance_24 : decode cX10_advance 24 = .ok (.invokevirtual 43, 3) := by decide +kernel
theorem dX10_advance_27 : decode cX10_advance 27 = .ok (.invokestatic 47, 3) := by decide +kernel
theorem dX10_advance_30 : decode cX10_advance 30 = .ok (.ifCond .eq 16, 3) := by decide +kernel
theorem dX10_advance_33 : decode cX10_advance 33 = .ok (.aload_n 0, 1) := by decide +kernel
theorem dX10_advance_34 : decode cX10_advance 34 = .ok (.dup, 1) := by decide +kernel
theorem dX10_advance_35 : decode cX10_advance 35 = .ok (.getfield 40, 3) := by decide +kernel
theorem dX10_advance_38 : decode cX10_advance 38 = .ok (.iconst 1, 1) := by decide +kernel
theorem dX10_advance_39 : decode cX10_advance 39 = .ok (.iadd, 1) := by decide +kernel
theorem dX10_advance_40 : decode cX10_advance 40 = .ok (.putfield 40, 3) := by decide +kernel
theorem dX10_advance_43 : decode cX10_advance 43 = .ok (.goto (-35), 3) := by decide +kernel
theorem dX10_advance_46 : decode cX10_advance 46 = .ok (.aload_n 0, 1) := by decide +kernel
theorem dX10_advance_47 : decode cX10_advance 47 = .ok (.aload_n 0, 1) := by decide +kernel
theorem dX10_advance_48 : decode cX10_advance 48 = .ok (.getfield 40, 3) := by decide +kernel
theorem dX10_advance_51 : decode cX10_advance 51 = .ok (.iconst 1, 1) := by decide +kernel
theorem dX10_advance_52 : decode cX10_advance 52 = .ok (.iadd, 1) := by decide +kernel
theorem dX10_advance_53 : decode cX10_advance 53 = .ok (.putfield 25, 3) := by decide +kernel
theorem dX10_advance_56 : decode cX10_advance 56 = .ok (.aload_n 0, 1) := by decide +kernel
theorem dX10_advance_57 : decode cX10_advance 57 = .ok (.aload_n 0, 1) := by decide +kernel
theorem dX10_advance_58 : decode cX10_advance 58 = .ok (.getfield 40, 3) := by decide +kernel
theorem dX10_advance_61 : decode cX10_advance 61 = .ok (.invokevirtual 43, 3) := by decide +kernel
theorem dX10_advance_64 : decode cX10_advance 64 = .ok (.istore_n 1, 1) := by decide +kernel
theorem dX10_advance_65 : decode cX10_advance 65 = .ok (.aload_n 0, 1) := by decide +kernel
theorem dX10_advance_66 : decode cX10_advance 66 = .ok (.getfield 40, 3) := by decide +kernel
theorem dX10_advance_69 : decode cX10_advance 69 = .ok (.aload_n 0, 1) := by decide +kernel
theorem dX10_advance_70 : decode cX10_advance 70 = .ok (.getfield 34, 3) := by decide +kernel
theorem dX10_advance_73 : decode cX10_advance 73 = .ok (.if_icmp .lt 19, 3) := by decide +kernel
theorem dX10_advance_76 : decode cX10_advance 76 = .ok (.aload_n 0, 1) := by decide +kernel
theorem dX10_advance_77 : decode cX10_advance 77 = .ok (.iconst 0, 1) := by decide +kernel
theorem dX10_advance_78 : decode cX10_advance 78 = .ok (.putfield 51, 3) := by decide +kernel
theorem dX10_advance_81 : decode cX10_advance 81 = .ok (.aload_n 0, 1) := by decide +kernel
theorem dX10_advance_82 : decode cX10_advance 82 = .ok (.aload_n 0, 1) := by decide +kernel
theorem dX10_advance_83 : decode cX10_advance 83 = .ok (.getfield 34, 3) := by decide +kernel
theorem dX10_advance_86 : decode cX10_advance 86 = .ok (.putfield 25, 3) := by decide +kernel
theorem dX10_advance_89 : decode cX10_advance 89 = .ok (.goto 144, 3) := by decide +kernel
theorem dX10_advance_92 : decode cX10_advance 92 = .ok (.iload_n 1, 1) := by decide +kernel
theorem dX10_advance_93 : decode cX10_advance 93 = .ok (.invokestatic 54, 3) := by decide +kernel
theorem dX10_advance_96 : decode cX10_advance 96 = .ok (.ifCond .eq 46, 3) := by decide +kernel
theorem dX10_advance_99 : decode cX10_advance 99 = .ok (.aload_n 0, 1) := by decide +kernel
theorem dX10_advance_100 : decode cX10_advance 100 = .ok (.iconst 1, 1) := by decide +kernel
theorem dX10_advance_101 : decode cX10_advance 101 = .ok (.putfield 51, 3) := by decide +kernel
theorem dX10_advance_104 : decode cX10_advance 104 = .ok (.aload_n 0, 1) := by decide +kernel
theorem dX10_advance_105 : decode cX10_advance 105 = .ok (.getfield 25, 3) := by decide +kernel
theorem dX10_advance_108 : decode cX10_advance 108 = .ok (.aload_n 0, 1) := by decide +kernel
theorem dX10_advance_109 : decode cX10_advance 109 = .ok (.getfield 34, 3) := by decide +kernel
theorem dX10_advance_112 : decode cX10_advance 112 = .ok (.if_icmp .ge 121, 3) := by decide +kernel
theorem dX10_advance_115 : decode cX10_advance 115 = .ok (.aload_n 0, 1) := by decide +kernel
theorem dX10_advance_116 : decode cX10_advance 116 = .ok (.aload_n 0, 1) := by decide +kernel
theorem dX10_advance_117 : decode cX10_advance 117 = .ok (.getfield 25, 3) := by decide +kernel
theorem dX10_advance_120 : decode cX10_advance 120 = .ok (.invokevirtual 43, 3) := by decide +kernel
theorem dX10_advance_123 : decode cX10_advance 123 = .ok (.invokestatic 54, 3) := by decide +kernel
theorem dX10_advance_126 : decode cX10_advance 126 = .ok (.ifCond .eq 107, 3) := by decide +kernel
theorem dX10_advance_129 : decode cX10_advance 129 = .ok (.aload_n 0, 1) := by decide +kernel
theorem dX10_advance_130 : decode cX10_advance 130 = .ok (.dup, 1) := by decide +kernel
theorem dX10_advance_131 : decode cX10_advance 131 = .ok (.getfield 25, 3) := by decide +kernel
theorem dX10_advance_134 : decode cX10_advance 134 = .ok (.iconst 1, 1) := by decide +kernel
theorem dX10_advance_135 : decode cX10_advance 135 = .ok (.iadd, 1) := by decide +kernel
theorem dX10_advance_136 : decode cX10_advance 136 = .ok (.putfield 25, 3) := by decide +kernel
theorem dX10_advance_139 : decode cX10_advance 139 = .ok (.goto (-35), 3) := by decide +kernel
theorem dX10_advance_142 : decode cX10_advance 142 = .ok (.iload_n 1, 1) := by decide +kernel
theorem dX10_advance_143 : decode cX10_advance 143 = .ok (.invokestatic 57, 3) := by decide +kernel
theorem dX10_advance_146 : decode cX10_advance 146 = .ok (.ifCond .eq 82, 3) := by decide +kernel
theorem dX10_advance_149 : decode cX10_advance 149 = .ok (.aload_n 0, 1) := by decide +kernel
theorem dX10_advance_150 : decode cX10_advance 150 = .ok (.iconst 2, 1) := by decide +kernel
theorem dX10_advance_151 : decode cX10_advance 151 = .ok (.putfield 51, 3) := by decide +kernel
theorem dX10_advance_154 : decode cX10_advance 154 = .ok (.aload_n 0, 1) := by decide +kernel
theorem dX10_advance_155 : decode cX10_advance 155 = .ok (.iload_n 1, 1) := by decide +kernel
theorem dX10_advance_156 : decode cX10_advance 156 = .ok (.bipush 48, 2) := by decide +kernel
theorem dX10_advance_158 : decode cX10_advance 158 = .ok (.isub, 1) := by decide +kernel
theorem dX10_advance_159 : decode cX10_advance 159 = .ok (.putfield 60, 3) := by decide +kernel
theorem dX10_advance_162 : decode cX10_advance 162 = .ok (.aload_n 0, 1) := by decide +kernel
theorem dX10_advance_163 : decode cX10_advance 163 = .ok (.getfield 25, 3) := by decide +kernel
theorem dX10_advance_166 : decode cX10_advance 166 = .ok (.aload_n 0, 1) := by decide +kernel
theorem dX10_advance_167 : decode cX10_advance 167 = .ok (.getfield 34, 3) := by decide +kernel
theorem dX10_advance_170 : decode cX10_advance 170 = .ok (.if_icmp .ge 63, 3) := by decide +kernel
theorem dX10_advance_173 : decode cX10_advance 173 = .ok (.aload_n 0, 1) := by decide +kernel
theorem dX10_advance_174 : decode cX10_advance 174 = .ok (.aload_n 0, 1) := by decide +kernel
theorem dX10_advance_175 : decode cX10_advance 175 = .ok (.getfield 25, 3) := by decide +kernel
theorem dX10_advance_178 : decode cX10_advance 178 = .ok (.invokevirtual 43, 3) := by decide +kernel
theorem dX10_advance_181 : decode cX10_advance 181 = .ok (.invokestatic 57, 3) := by decide +kernel
theorem dX10_advance_184 : decode cX10_advance 184 = .ok (.ifCond .eq 49, 3) := by decide +kernel
theorem dX10_advance_187 : decode cX10_advance 187 = .ok (.aload_n 0, 1) := by decide +kernel
theorem dX10_advance_188 : decode cX10_advance 188 = .ok (.ldc 63, 2) := by decide +kernel
theorem dX10_advance_190 : decode cX10_advance 190 = .ok (.bipush 10, 2) := by decide +kernel
theorem dX10_advance_192 : decode cX10_advance 192 = .ok (.aload_n 0, 1) := by decide +kernel
theorem dX10_advance_193 : decode cX10_advance 193 = .ok (.getfield 60, 3) := by decide +kernel
theorem dX10_advance_196 : decode cX10_advance 196 = .ok (.imul, 1) := by decide +kernel
theorem dX10_advance_197 : decode cX10_advance 197 = .ok (.aload_n 0, 1) := by decide +kernel
theorem dX10_advance_198 : decode cX10_advance 198 = .ok (.aload_n 0, 1) := by decide +kernel
theorem dX10_advance_199 : decode cX10_advance 199 = .ok (.getfield 25, 3) := by decide +kernel
theorem dX10_advance_202 : decode cX10_advance 202 = .ok (.invokevirtual 43, 3) := by decide +kernel
theorem dX10_advance_205 : decode cX10_advance 205 = .ok (.iadd, 1) := by decide +kernel
theorem dX10_advance_206 : decode cX10_advance 206 = .ok (.bipush 48, 2) := by decide +kernel
theorem dX10_advance_208 : decode cX10_advance 208 = .ok (.isub, 1) := by decide +kernel
theorem dX10_advance_209 : decode cX10_advance 209 = .ok (.invokestatic 28, 3) := by decide +kernel
theorem dX10_advance_212 : decode cX10_advance 212 = .ok (.putfield 60, 3) := by decide +kernel
theorem dX10_advance_215 : decode cX10_advance 215 = .ok (.aload_n 0, 1) := by decide +kernel
theorem dX10_advance_216 : decode cX10_advance 216 = .ok (.dup, 1) := by decide +kernel
theorem dX10_advance_217 : decode cX10_advance 217 = .ok (.getfield 25, 3) := by decide +kernel
theorem dX10_advance_220 : decode cX10_advance 220 = .ok (.iconst 1, 1) := by decide +kernel
theorem dX10_advance_221 : decode cX10_advance 221 = .ok (.iadd, 1) := by decide +kernel
theorem dX10_advance_222 : decode cX10_advance 222 = .ok (.putfield 25, 3) := by decide +kernel
theorem dX10_advance_225 : decode cX10_advance 225 = .ok (.goto (-63), 3) := by decide +kernel
theorem dX10_advance_228 : decode cX10_advance 228 = .ok (.aload_n 0, 1) := by decide +kernel
theorem dX10_advance_229 : decode cX10_advance 229 = .ok (.iconst 3, 1) := by decide +kernel
theorem dX10_advance_230 : decode cX10_advance 230 = .ok (.putfield 51, 3) := by decide +kernel
theorem dX10_advance_233 : decode cX10_advance 233 = .ok (.return_, 1) := by decide +kernel
theorem dX10_fail_0 : decode cX10_fail 0 = .ok (.aload_n 0, 1) := by decide +kernel
theorem dX10_fail_1 : decode cX10_fail 1 = .ok (.getfield 22, 3) := by decide +kernel
theorem dX10_fail_4 : decode cX10_fail 4 = .ok (.ifCond .ne 16, 3) := by decide +kernel
theorem dX10_fail_7 : decode cX10_fail 7 = .ok (.aload_n 0, 1) := by decide +kernel
theorem dX10_fail_8 : decode cX10_fail 8 = .ok (.iload_n 1, 1) := by decide +kernel
theorem dX10_fail_9 : decode cX10_fail 9 = .ok (.putfield 22, 3) := by decide +kernel
theorem dX10_fail_12 : decode cX10_fail 12 = .ok (.aload_n 0, 1) := by decide +kernel
theorem dX10_fail_13 : decode cX10_fail 13 = .ok (.aload_n 0, 1) := by decide +kernel
theorem dX10_fail_14 : decode cX10_fail 14 = .ok (.getfield 40, 3) := by decide +kernel
theorem dX10_fail_17 : decode cX10_fail 17 = .ok (.putfield 15, 3) := by decide +kernel
theorem dX10_fail_20 : decode cX10_fail 20 = .ok (.aload_n 0, 1) := by decide +kernel
theorem dX10_fail_21 : decode cX10_fail 21 = .ok (.iconst 0, 1) := by decide +kernel
theorem dX10_fail_22 : decode cX10_fail 22 = .ok (.putfield 51, 3) := by decide +kernel
theorem dX10_fail_25 : decode cX10_fail 25 = .ok (.aload_n 0, 1) := by decide +kernel
theorem dX10_fail_26 : decode cX10_fail 26 = .ok (.aload_n 0, 1) := by decide +kernel
theorem dX10_fail_27 : decode cX10_fail 27 = .ok (.getfield 34, 3) := by decide +kernel
theorem dX10_fail_30 : decode cX10_fail 30 = .ok (.putfield 25, 3) := by decide +kernel
theorem dX10_fail_33 : decode cX10_fail 33 = .ok (.return_, 1) := by decide +kernel
theorem dX10_isEnd_0 : decode cX10_isEnd 0 = .ok (.aload_n 0, 1) := by decide +kernel
theorem dX10_isEnd_1 : decode cX10_isEnd 1 = .ok (.getfield 51, 3) := by decide +kernel
theorem dX10_isEnd_4 : decode cX10_isEnd 4 = .ok (.ifCond .ne 7, 3) := by decide +kernel
theorem dX10_isEnd_7 : decode cX10_isEnd 7 = .ok (.iconst 1, 1) := by decide +kernel
theorem dX10_isEnd_8 : decode cX10_isEnd 8 = .ok (.goto 4, 3) := by decide +kernel
theorem dX10_isEnd_11 : decode cX10_isEnd 11 = .ok (.iconst 0, 1) := by decide +kernel
theorem dX10_isEnd_12 : decode cX10_isEnd 12 = .ok (.ireturn, 1) := by decide +kernel
theorem dX10_isAnyWord_0 : decode cX10_isAnyWord 0 = .ok (.aload_n 0, 1) := by decide +kernel
theorem dX10_isAnyWord_1 : decode cX10_isAnyWord 1 = .ok (.getfield 51, 3) := by decide +kernel
theorem dX10_isAnyWord_4 : decode cX10_isAnyWord 4 = .ok (.iconst 1, 1) := by decide +kernel
theorem dX10_isAnyWord_5 : decode cX10_isAnyWord 5 = .ok (.if_icmp .ne 7, 3) := by decide +kernel
theorem dX10_isAnyWord_8 : decode cX10_isAnyWord 8 = .ok (.iconst 1, 1) := by decide +kernel
theorem dX10_isAnyWord_9 : decode cX10_isAnyWord 9 = .ok (.goto 4, 3) := by decide +kernel
theorem dX10_isAnyWord_12 : decode cX10_isAnyWord 12 = .ok (.iconst 0, 1) := by decide +kernel
theorem dX10_isAnyWord_13 : decode cX10_isAnyWord 13 = .ok (.ireturn, 1) := by decide +kernel
theorem dX10_isWord_0 : decode cX10_isWord 0 = .ok (.aload_n 0, 1) := by decide +kernel
theorem dX10_isWord_1 : decode cX10_isWord 1 = .ok (.getfield 51, 3) := by decide +kernel
theorem dX10_isWord_4 : decode cX10_isWord 4 = .ok (.iconst 1, 1) := by decide +kernel
theorem dX10_isWord_5 : decode cX10_isWord 5 = .ok (.if_icmp .ne 18, 3) := by decide +kernel
theorem dX10_isWord_8 : decode cX10_isWord 8 = .ok (.aload_n 0, 1) := by decide +kernel
theorem dX10_isWord_9 : decode cX10_isWord 9 = .ok (.invokevirtual 64, 3) := by decide +kernel
theorem dX10_isWord_12 : decode cX10_isWord 12 = .ok (.aload_n 1, 1) := by decide +kernel
theorem dX10_isWord_13 : decode cX10_isWord 13 = .ok (.invokevirtual 68, 3) := by decide +kernel
theorem dX10_isWord_16 : decode cX10_isWord 16 = .ok (.if_icmp .ne 7, 3) := by decide +kernel
theorem dX10_isWord_19 : decode cX10_isWord 19 = .ok (.iconst 1, 1) := by decide +kernel
theorem dX10_isWord_20 : decode cX10_isWord 20 = .ok (.goto 4, 3) := by decide +kernel
theorem dX10_isWord_23 : decode cX10_isWord 23 = .ok (.iconst 0, 1) := by decide +kernel
theorem dX10_isWord_24 : decode cX10_isWord 24 = .ok (.istore_n 2, 1) := by decide +kernel
theorem dX10_isWord_25 : decode cX10_isWord 25 = .ok (.iconst 0, 1) := by decide +kernel
theorem dX10_isWord_26 : decode cX10_isWord 26 = .ok (.istore_n 3, 1) := by decide +kernel
theorem dX10_isWord_27 : decode cX10_isWord 27 = .ok (.iload_n 2, 1) := by decide +kernel
theorem dX10_isWord_28 : decode cX10_isWord 28 = .ok (.ifCond .eq 41, 3) := by decide +kernel
theorem dX10_isWord_31 : decode cX10_isWord 31 = .ok (.iload_n 3, 1) := by decide +kernel
theorem dX10_isWord_32 : decode cX10_isWord 32 = .ok (.aload_n 1, 1) := by decide +kernel
theorem dX10_isWord_33 : decode cX10_isWord 33 = .ok (.invokevirtual 68, 3) := by decide +kernel
theorem dX10_isWord_36 : decode cX10_isWord 36 = .ok (.if_icmp .ge 33, 3) := by decide +kernel
theorem dX10_isWord_39 : decode cX10_isWord 39 = .ok (.aload_n 0, 1) := by decide +kernel
theorem dX10_isWord_40 : decode cX10_isWord 40 = .ok (.aload_n 0, 1) := by decide +kernel
theorem dX10_isWord_41 : decode cX10_isWord 41 = .ok (.getfield 40, 3) := by decide +kernel
theorem dX10_isWord_44 : decode cX10_isWord 44 = .ok (.iload_n 3, 1) := by decide +kernel
theorem dX10_isWord_45 : decode cX10_isWord 45 = .ok (.iadd, 1) := by decide +kernel
theorem dX10_isWord_46 : decode cX10_isWord 46 = .ok (.invokevirtual 43, 3) := by decide +kernel
theorem dX10_isWord_49 : decode cX10_isWord 49 = .ok (.aload_n 1, 1) := by decide +kernel
theorem dX10_isWord_50 : decode cX10_isWord 50 = .ok (.iload_n 3, 1) := by decide +kernel
theorem dX10_isWord_51 : decode cX10_isWord 51 = .ok (.invokevirtual 73, 3) := by decide +kernel
theorem dX10_isWord_54 : decode cX10_isWord 54 = .ok (.if_icmp .ne 7, 3) := by decide +kernel
theorem dX10_isWord_57 : decode cX10_isWord 57 = .ok (.iconst 1, 1) := by decide +kernel
theorem dX10_isWord_58 : decode cX10_isWord 58 = .ok (.goto 4, 3) := by decide +kernel
theorem dX10_isWord_61 : decode cX10_isWord 61 = .ok (.iconst 0, 1) := by decide +kernel
theorem dX10_isWord_62 : decode cX10_isWord 62 = .ok (.istore_n 2, 1) := by decide +kernel
theorem dX10_isWord_63 : decode cX10_isWord 63 = .ok (.iinc 3 1, 3) := by decide +kernel
theorem dX10_isWord_66 : decode cX10_isWord 66 = .ok (.goto (-39), 3) := by decide +kernel
theorem dX10_isWord_69 : decode cX10_isWord 69 = .ok (.iload_n 2, 1) := by decide +kernel
theorem dX10_isWord_70 : decode cX10_isWord 70 = .ok (.ireturn, 1) := by decide +kernel
theorem dX10_wordLength_0 : decode cX10_wordLength 0 = .ok (.aload_n 0, 1) := by decide +kernel
theorem dX10_wordLength_1 : decode cX10_wordLength 1 = .ok (.getfield 51, 3) := by decide +kernel
theorem dX10_wordLength_4 : decode cX10_wordLength 4 = .ok (.iconst 1, 1) := by decide +kernel
theorem dX10_wordLength_5 : decode cX10_wordLength 5 = .ok (.if_icmp .ne 15, 3) := by decide +kernel
theorem dX10_wordLength_8 : decode cX10_wordLength 8 = .ok (.aload_n 0, 1) := by decide +kernel
theorem dX10_wordLength_9 : decode cX10_wordLength 9 = .ok (.getfield 25, 3) := by decide +kernel
theorem dX10_wordLength_12 : decode cX10_wordLength 12 = .ok (.aload_n 0, 1) := by decide +kernel
theorem dX10_wordLength_13 : decode cX10_wordLength 13 = .ok (.getfield 40, 3) := by decide +kernel
theorem dX10_wordLength_16 : decode cX10_wordLength 16 = .ok (.isub, 1) := by decide +kernel
theorem dX10_wordLength_17 : decode cX10_wordLength 17 = .ok (.goto 4, 3) := by decide +kernel
theorem dX10_wordLength_20 : decode cX10_wordLength 20 = .ok (.iconst 0, 1) := by decide +kernel
theorem dX10_wordLength_21 : decode cX10_wordLength 21 = .ok (.ireturn, 1) := by decide +kernel
theorem dX10_wordLetter_0 : decode cX10_wordLetter 0 = .ok (.aload_n 0, 1) := by decide +kernel
theorem dX10_wordLetter_1 : decode cX10_wordLetter 1 = .ok (.aload_n 0, 1) := by decide +kernel
theorem dX10_wordLetter_2 : decode cX10_wordLetter 2 = .ok (.getfield 40, 3) := by decide +kernel
theorem dX10_wordLetter_5 : decode cX10_wordLetter 5 = .ok (.iload_n 1, 1) := by decide +kernel
theorem dX10_wordLetter_6 : decode cX10_wordLetter 6 = .ok (.iadd, 1) := by decide +kernel
theorem dX10_wordLetter_7 : decode cX10_wordLetter 7 = .ok (.invokevirtual 43, 3) := by decide +kernel
theorem dX10_wordLetter_10 : decode cX10_wordLetter 10 = .ok (.ireturn, 1) := by decide +kernel
theorem dX10_isSign_0 : decode cX10_isSign 0 = .ok (.aload_n 0, 1) := by decide +kernel
theorem dX10_isSign_1 : decode cX10_isSign 1 = .ok (.getfield 51, 3) := by decide +kernel
theorem dX10_isSign_4 : decode cX10_isSign 4 = .ok (.iconst 3, 1) := by decide +kernel
theorem dX10_isSign_5 : decode cX10_isSign 5 = .ok (.if_icmp .ne 19, 3) := by decide +kernel
theorem dX10_isSign_8 : decode cX10_isSign 8 = .ok (.aload_n 0, 1) := by decide +kernel
theorem dX10_isSign_9 : decode cX10_isSign 9 = .ok (.aload_n 0, 1) := by decide +kernel
theorem dX10_isSign_10 : decode cX10_isSign 10 = .ok (.getfield 40, 3) := by decide +kernel
theorem dX10_isSign_13 : decode cX10_isSign 13 = .ok (.invokevirtual 43, 3) := by decide +kernel
theorem dX10_isSign_16 : decode cX10_isSign 16 = .ok (.iload_n 1, 1) := by decide +kernel
theorem dX10_isSign_17 : decode cX10_isSign 17 = .ok (.if_icmp .ne 7, 3) := by decide +kernel
theorem dX10_isSign_20 : decode cX10_isSign 20 = .ok (.iconst 1, 1) := by decide +kernel
theorem dX10_isSign_21 : decode cX10_isSign 21 = .ok (.goto 4, 3) := by decide +kernel
theorem dX10_isSign_24 : decode cX10_isSign 24 = .ok (.iconst 0, 1) := by decide +kernel
theorem dX10_isSign_25 : decode cX10_isSign 25 = .ok (.ireturn, 1) := by decide +kernel
theorem dX10_needSign_0 : decode cX10_needSign 0 = .ok (.aload_n 0, 1) := by decide +kernel
theorem dX10_needSign_1 : decode cX10_needSign 1 = .ok (.iload_n 1, 1) := by decide +kernel
theorem dX10_needSign_2 : decode cX10_needSign 2 = .ok (.invokevirtual 77, 3) := by decide +kernel
theorem dX10_needSign_5 : decode cX10_needSign 5 = .ok (.ifCond .ne 8, 3) := by decide +kernel
theorem dX10_needSign_8 : decode cX10_needSign 8 = .ok (.aload_n 0, 1) := by decide +kernel
theorem dX10_needSign_9 : decode cX10_needSign 9 = .ok (.iconst 1, 1) := by decide +kernel
theorem dX10_needSign_10 : decode cX10_needSign 10 = .ok (.invokevirtual 81, 3) := by decide +kernel
theorem dX10_needSign_13 : decode cX10_needSign 13 = .ok (.aload_n 0, 1) := by decide +kernel
theorem dX10_needSign_14 : decode cX10_needSign 14 = .ok (.invokevirtual 37, 3) := by decide +kernel
theorem dX10_needSign_17 : decode cX10_needSign 17 = .ok (.return_, 1) := by decide +kernel
theorem dX10_needEnd_0 : decode cX10_needEnd 0 = .ok (.aload_n 0, 1) := by decide +kernel
theorem dX10_needEnd_1 : decode cX10_needEnd 1 = .ok (.getfield 51, 3) := by decide +kernel
theorem dX10_needEnd_4 : decode cX10_needEnd 4 = .ok (.ifCond .eq 8, 3) := by decide +kernel
theorem dX10_needEnd_7 : decode cX10_needEnd 7 = .ok (.aload_n 0, 1) := by decide +kernel
theorem dX10_needEnd_8 : decode cX10_needEnd 8 = .ok (.iconst 1, 1) := by decide +kernel
theorem dX10_needEnd_9 : decode cX10_needEnd 9 = .ok (.invokevirtual 81, 3) := by decide +kernel
theorem dX10_needEnd_12 : decode cX10_needEnd 12 = .ok (.return_, 1) := by decide +kernel
theorem dX10_numberHere_0 : decode cX10_numberHere 0 = .ok (.aload_n 0, 1) := by decide +kernel
theorem dX10_numberHere_1 : decode cX10_numberHere 1 = .ok (.getfield 51, 3) := by decide +kernel
theorem dX10_numberHere_4 : decode cX10_numberHere 4 = .ok (.iconst 2, 1) := by decide +kernel
theorem dX10_numberHere_5 : decode cX10_numberHere 5 = .ok (.if_icmp .eq 10, 3) := by decide +kernel
theorem dX10_numberHere_8 : decode cX10_numberHere 8 = .ok (.aload_n 0, 1) := by decide +kernel
theorem dX10_numberHere_9 : decode cX10_numberHere 9 = .ok (.iconst 1, 1) := by decide +kernel
theorem dX10_numberHere_10 : decode cX10_numberHere 10 = .ok (.invokevirtual 81, 3) := by decide +kernel
theorem dX10_numberHere_13 : decode cX10_numberHere 13 = .ok (.iconst 0, 1) := by decide +kernel
theorem dX10_numberHere_14 : decode cX10_numberHere 14 = .ok (.ireturn, 1) := by decide +kernel
theorem dX10_numberHere_15 : decode cX10_numberHere 15 = .ok (.aload_n 0, 1) := by decide +kernel
theorem dX10_numberHere_16 : decode cX10_numberHere 16 = .ok (.getfield 60, 3) := by decide +kernel
theorem dX10_numberHere_19 : decode cX10_numberHere 19 = .ok (.iload_n 1, 1) := by decide +kernel
theorem dX10_numberHere_20 : decode cX10_numberHere 20 = .ok (.if_icmp .lt 11, 3) := by decide +kernel
theorem dX10_numberHere_23 : decode cX10_numberHere 23 = .ok (.aload_n 0, 1) := by decide +kernel
theorem dX10_numberHere_24 : decode cX10_numberHere 24 = .ok (.getfield 60, 3) := by decide +kernel
theorem dX10_numberHere_27 : decode cX10_numberHere 27 = .ok (.iload_n 2, 1) := by decide +kernel
theorem dX10_numberHere_28 : decode cX10_numberHere 28 = .ok (.if_icmp .le 10, 3) := by decide +kernel
theorem dX10_numberHere_31 : decode cX10_numberHere 31 = .ok (.aload_n 0, 1) := by decide +kernel
theorem dX10_numberHere_32 : decode cX10_numberHere 32 = .ok (.iconst 2, 1) := by decide +kernel
theorem dX10_numberHere_33 : decode cX10_numberHere 33 = .ok (.invokevirtual 81, 3) := by decide +kernel
theorem dX10_numberHere_36 : decode cX10_numberHere 36 = .ok (.iconst 0, 1) := by decide +kernel
theorem dX10_numberHere_37 : decode cX10_numberHere 37 = .ok (.ireturn, 1) := by decide +kernel
theorem dX10_numberHere_38 : decode cX10_numberHere 38 = .ok (.aload_n 0, 1) := by decide +kernel
theorem dX10_numberHere_39 : decode cX10_numberHere 39 = .ok (.getfield 60, 3) := by decide +kernel
theorem dX10_numberHere_42 : decode cX10_numberHere 42 = .ok (.ireturn, 1) := by decide +kernel
theorem dX10_takeNumber_0 : decode cX10_takeNumber 0 = .ok (.aload_n 0, 1) := by decide +kernel
theorem dX10_takeNumber_1 : decode cX10_takeNumber 1 = .ok (.iload_n 1, 1) := by decide +kernel
theorem dX10_takeNumber_2 : decode cX10_takeNumber 2 = .ok (.iload_n 2, 1) := by decide +kernel
theorem dX10_takeNumber_3 : decode cX10_takeNumber 3 = .ok (.invokevirtual 85, 3) := by decide +kernel
theorem dX10_takeNumber_6 : decode cX10_takeNumber 6 = .ok (.istore_n 3, 1) := by decide +kernel
theorem dX10_takeNumber_7 : decode cX10_takeNumber 7 = .ok (.aload_n 0, 1) := by decide +kernel
theorem dX10_takeNumber_8 : decode cX10_takeNumber 8 = .ok (.invokevirtual 37, 3) := by decide +kernel
theorem dX10_takeNumber_11 : decode cX10_takeNumber 11 = .ok (.iload_n 3, 1) := by decide +kernel
theorem dX10_takeNumber_12 : decode cX10_takeNumber 12 = .ok (.ireturn, 1) := by decide +kernel
theorem dX10_takeSigned_0 : decode cX10_takeSigned 0 = .ok (.aload_n 0, 1) := by decide +kernel
theorem dX10_takeSigned_1 : decode cX10_takeSigned 1 = .ok (.bipush 45, 2) := by decide +kernel
theorem dX10_takeSigned_3 : decode cX10_takeSigned 3 = .ok (.invokevirtual 77, 3) := by decide +kernel
theorem dX10_takeSigned_6 : decode cX10_takeSigned 6 = .ok (.istore_n 2, 1) := by decide +kernel
theorem dX10_takeSigned_7 : decode cX10_takeSigned 7 = .ok (.iload_n 2, 1) := by decide +kernel
theorem dX10_takeSigned_8 : decode cX10_takeSigned 8 = .ok (.ifCond .eq 7, 3) := by decide +kernel
theorem dX10_takeSigned_11 : decode cX10_takeSigned 11 = .ok (.aload_n 0, 1) := by decide +kernel
theorem dX10_takeSigned_12 : decode cX10_takeSigned 12 = .ok (.invokevirtual 37, 3) := by decide +kernel
theorem dX10_takeSigned_15 : decode cX10_takeSigned 15 = .ok (.aload_n 0, 1) := by decide +kernel
theorem dX10_takeSigned_16 : decode cX10_takeSigned 16 = .ok (.iconst 0, 1) := by decide +kernel
theorem dX10_takeSigned_17 : decode cX10_takeSigned 17 = .ok (.iload_n 1, 1) := by decide +kernel
theorem dX10_takeSigned_18 : decode cX10_takeSigned 18 = .ok (.invokevirtual 88, 3) := by decide +kernel
theorem dX10_takeSigned_21 : decode cX10_takeSigned 21 = .ok (.istore_n 3, 1) := by decide +kernel
theorem dX10_takeSigned_22 : decode cX10_takeSigned 22 = .ok (.iload_n 2, 1) := by decide +kernel
theorem dX10_takeSigned_23 : decode cX10_takeSigned 23 = .ok (.ifCond .eq 8, 3) := by decide +kernel
theorem dX10_takeSigned_26 : decode cX10_takeSigned 26 = .ok (.iload_n 3, 1) := by decide +kernel
theorem dX10_takeSigned_27 : decode cX10_takeSigned 27 = .ok (.ineg, 1) := by decide +kernel
theorem dX10_takeSigned_28 : decode cX10_takeSigned 28 = .ok (.goto 4, 3) := by decide +kernel
theorem dX10_takeSigned_31 : decode cX10_takeSigned 31 = .ok (.iload_n 3, 1) := by decide +kernel
theorem dX10_takeSigned_32 : decode cX10_takeSigned 32 = .ok (.ireturn, 1) := by decide +kernel
theorem dX10_byteAt_0 : decode cX10_byteAt 0 = .ok (.iload_n 1, 1) := by decide +kernel
theorem dX10_byteAt_1 : decode cX10_byteAt 1 = .ok (.ifCond .lt 12, 3) := by decide +kernel
theorem dX10_byteAt_4 : decode cX10_byteAt 4 = .ok (.iload_n 1, 1) := by decide +kernel
theorem dX10_byteAt_5 : decode cX10_byteAt 5 = .ok (.aload_n 0, 1) := by decide +kernel
theorem dX10_byteAt_6 : decode cX10_byteAt 6 = .ok (.getfield 9, 3) := by decide +kernel
theorem dX10_byteAt_9 : decode cX10_byteAt 9 = .ok (.arraylength, 1) := by decide +kernel
theorem dX10_byteAt_10 : decode cX10_byteAt 10 = .ok (.if_icmp .lt 7, 3) := by decide +kernel
theorem dX10_byteAt_13 : decode cX10_byteAt 13 = .ok (.iconst (-1), 1) := by decide +kernel
theorem dX10_byteAt_14 : decode cX10_byteAt 14 = .ok (.goto 13, 3) := by decide +kernel
theorem dX10_byteAt_17 : decode cX10_byteAt 17 = .ok (.aload_n 0, 1) := by decide +kernel
theorem dX10_byteAt_18 : decode cX10_byteAt 18 = .ok (.getfield 9, 3) := by decide +kernel
theorem dX10_byteAt_21 : decode cX10_byteAt 21 = .ok (.iload_n 1, 1) := by decide +kernel
theorem dX10_byteAt_22 : decode cX10_byteAt 22 = .ok (.baload, 1) := by decide +kernel
theorem dX10_byteAt_23 : decode cX10_byteAt 23 = .ok (.sipush 255, 3) := by decide +kernel
theorem dX10_byteAt_26 : decode cX10_byteAt 26 = .ok (.iand, 1) := by decide +kernel
theorem dX10_byteAt_27 : decode cX10_byteAt 27 = .ok (.ireturn, 1) := by decide +kernel
theorem dX10_isBlank_0 : decode cX10_isBlank 0 = .ok (.iload_n 0, 1) := by decide +kernel
theorem dX10_isBlank_1 : decode cX10_isBlank 1 = .ok (.bipush 32, 2) := by decide +kernel
theorem dX10_isBlank_3 : decode cX10_isBlank 3 = .ok (.if_icmp .eq 9, 3) := by decide +kernel
theorem dX10_isBlank_6 : decode cX10_isBlank 6 = .ok (.iload_n 0, 1) := by decide +kernel
theorem dX10_isBlank_7 : decode cX10_isBlank 7 = .ok (.bipush 10, 2) := by decide +kernel
theorem dX10_isBlank_9 : decode cX10_isBlank 9 = .ok (.if_icmp .ne 7, 3) := by decide +kernel
theorem dX10_isBlank_12 : decode cX10_isBlank 12 = .ok (.iconst 1, 1) := by decide +kernel
theorem dX10_isBlank_13 : decode cX10_isBlank 13 = .ok (.goto 4, 3) := by decide +kernel
theorem dX10_isBlank_16 : decode cX10_isBlank 16 = .ok (.iconst 0, 1) := by decide +kernel
theorem dX10_isBlank_17 : decode cX10_isBlank 17 = .ok (.ireturn, 1) := by decide +kernel
theorem dX10_isLetter_0 : decode cX10_isLetter 0 = .ok (.iload_n 0, 1) := by decide +kernel
theorem dX10_isLetter_1 : decode cX10_isLetter 1 = .ok (.bipush 97, 2) := by decide +kernel
theorem dX10_isLetter_3 : decode cX10_isLetter 3 = .ok (.if_icmp .lt 13, 3) := by decide +kernel
theorem dX10_isLetter_6 : decode cX10_isLetter 6 = .ok (.iload_n 0, 1) := by decide +kernel
theorem dX10_isLetter_7 : decode cX10_isLetter 7 = .ok (.bipush 122, 2) := by decide +kernel
theorem dX10_isLetter_9 : decode cX10_isLetter 9 = .ok (.if_icmp .gt 7, 3) := by decide +kernel
theorem dX10_isLetter_12 : decode cX10_isLetter 12 = .ok (.iconst 1, 1) := by decide +kernel
theorem dX10_isLetter_13 : decode cX10_isLetter 13 = .ok (.goto 4, 3) := by decide +kernel
theorem dX10_isLetter_16 : decode cX10_isLetter 16 = .ok (.iconst 0, 1) := by decide +kernel
theorem dX10_isLetter_17 : decode cX10_isLetter 17 = .ok (.ireturn, 1) := by decide +kernel
theorem dX10_isDigit_0 : decode cX10_isDigit 0 = .ok (.iload_n 0, 1) := by decide +kernel
theorem dX10_isDigit_1 : decode cX10_isDigit 1 = .ok (.bipush 48, 2) := by decide +kernel
theorem dX10_isDigit_3 : decode cX10_isDigit 3 = .ok (.if_icmp .lt 13, 3) := by decide +kernel
theorem dX10_isDigit_6 : decode cX10_isDigit 6 = .ok (.iload_n 0, 1) := by decide +kernel
theorem dX10_isDigit_7 : decode cX10_isDigit 7 = .ok (.bipush 57, 2) := by decide +kernel
theorem dX10_isDigit_9 : decode cX10_isDigit 9 = .ok (.if_icmp .gt 7, 3) := by decide +kernel
theorem dX10_isDigit_12 : decode cX10_isDigit 12 = .ok (.iconst 1, 1) := by decide +kernel
theorem dX10_isDigit_13 : decode cX10_isDigit 13 = .ok (.goto 4, 3) := by decide +kernel
theorem dX10_isDigit_16 : decode cX10_isDigit 16 = .ok (.iconst 0, 1) := by decide +kernel
theorem dX10_isDigit_17 : decode cX10_isDigit 17 = .ok (.ireturn, 1) := by decide +kernel
theorem dX11_init_0 : decode cX11_init 0 = .ok (.aload_n 0, 1) := by decide +kernel
theorem dX11_init_1 : decode cX11_init 1 = .ok (.invokespecial 1, 3) := by decide +kernel
theorem dX11_init_4 : decode cX11_init 4 = .ok (.new 7, 3) := by decide +kernel
theorem dX11_init_7 : decode cX11_init 7 = .ok (.dup, 1) := by decide +kernel
theorem dX11_init_8 : decode cX11_init 8 = .ok (.invokespecial 9, 3) := by decide +kernel
theorem dX11_init_11 : decode cX11_init 11 = .ok (.astore_n 1, 1) := by decide +kernel
theorem dX11_init_12 : decode cX11_init 12 = .ok (.new 10, 3) := by decide +kernel
theorem dX11_init_15 : decode cX11_init 15 = .ok (.dup, 1) := by decide +kernel
theorem dX11_init_16 : decode cX11_init 16 = .ok (.invokespecial 12, 3) := by decide +kernel
theorem dX11_init_19 : decode cX11_init 19 = .ok (.astore_n 2, 1) := by decide +kernel
theorem dX11_init_20 : decode cX11_init 20 = .ok (.new 13, 3) := by decide +kernel
theorem dX11_init_23 : decode cX11_init 23 = .ok (.dup, 1) := by decide +kernel
theorem dX11_init_24 : decode cX11_init 24 = .ok (.invokespecial 15, 3) := by decide +kernel
theorem dX11_init_27 : decode cX11_init 27 = .ok (.astore_n 3, 1) := by decide +kernel
theorem dX11_init_28 : decode cX11_init 28 = .ok (.aload_n 0, 1) := by decide +kernel
theorem dX11_init_29 : decode cX11_init 29 = .ok (.aload_n 1, 1) := by decide +kernel
theorem dX11_init_30 : decode cX11_init 30 = .ok (.putfield 16, 3) := by decide +kernel
theorem dX11_init_33 : decode cX11_init 33 = .ok (.aload_n 0, 1) := by decide +kernel
theorem dX11_init_34 : decode cX11_init 34 = .ok (.new 22, 3) := by decide +kernel
theorem dX11_init_37 : decode cX11_init 37 = .ok (.dup, 1) := by decide +kernel
theorem dX11_init_38 : decode cX11_init 38 = .ok (.invokespecial 24, 3) := by decide +kernel
theorem dX11_init_41 : decode cX11_init 41 = .ok (.putfield 25, 3) := by decide +kernel
theorem dX11_init_44 : decode cX11_init 44 = .ok (.aload_n 0, 1) := by decide +kernel
theorem dX11_init_45 : decode cX11_init 45 = .ok (.aload_n 2, 1) := by decide +kernel
theorem dX11_init_46 : decode cX11_init 46 = .ok (.putfield 29, 3) := by decide +kernel
theorem dX11_init_49 : decode cX11_init 49 = .ok (.aload_n 0, 1) := by decide +kernel
theorem dX11_init_50 : decode cX11_init 50 = .ok (.new 10, 3) := by decide +kernel
theorem dX11_init_53 : decode cX11_init 53 = .ok (.dup, 1) := by decide +kernel
theorem dX11_init_54 : decode cX11_init 54 = .ok (.invokespecial 12, 3) := by decide +kernel
theorem dX11_init_57 : decode cX11_init 57 = .ok (.putfield 33, 3) := by decide +kernel
theorem dX11_init_60 : decode cX11_init 60 = .ok (.aload_n 0, 1) := by decide +kernel
theorem dX11_init_61 : decode cX11_init 61 = .ok (.new 36, 3) := by decide +kernel
theorem dX11_init_64 : decode cX11_init 64 = .ok (.dup, 1) := by decide +kernel
theorem dX11_init_65 : decode cX11_init 65 = .ok (.invokespecial 38, 3) := by decide +kernel
theorem dX11_init_68 : decode cX11_init 68 = .ok (.putfield 39, 3) := by decide +kernel
theorem dX11_init_71 : decode cX11_init 71 = .ok (.aload_n 0, 1) := by decide +kernel
theorem dX11_init_72 : decode cX11_init 72 = .ok (.aload_n 3, 1) := by decide +kernel
theorem dX11_init_73 : decode cX11_init 73 = .ok (.putfield 43, 3) := by decide +kernel
theorem dX11_init_76 : decode cX11_init 76 = .ok (.aload_n 0, 1) := by decide +kernel
theorem dX11_init_77 : decode cX11_init 77 = .ok (.new 47, 3) := by decide +kernel
theorem dX11_init_80 : decode cX11_init 80 = .ok (.dup, 1) := by decide +kernel
theorem dX11_init_81 : decode cX11_init 81 = .ok (.aload_n 1, 1) := by decide +kernel
theorem dX11_init_82 : decode cX11_init 82 = .ok (.invokespecial 49, 3) := by decide +kernel
theorem dX11_init_85 : decode cX11_init 85 = .ok (.putfield 52, 3) := by decide +kernel
theorem dX11_init_88 : decode cX11_init 88 = .ok (.aload_n 0, 1) := by decide +kernel
theorem dX11_init_89 : decode cX11_init 89 = .ok (.new 56, 3) := by decide +kernel
theorem dX11_init_92 : decode cX11_init 92 = .ok (.dup, 1) := by decide +kernel
theorem dX11_init_93 : decode cX11_init 93 = .ok (.aload_n 1, 1) := by decide +kernel
theorem dX11_init_94 : decode cX11_init 94 = .ok (.aload_n 2, 1) := by decide +kernel
theorem dX11_init_95 : decode cX11_init 95 = .ok (.aload_n 3, 1) := by decide +kernel
theorem dX11_init_96 : decode cX11_init 96 = .ok (.invokespecial 58, 3) := by decide +kernel
theorem dX11_init_99 : decode cX11_init 99 = .ok (.putfield 61, 3) := by decide +kernel
theorem dX11_init_102 : decode cX11_init 102 = .ok (.aload_n 0, 1) := by decide +kernel
theorem dX11_init_103 : decode cX11_init 103 = .ok (.new 65, 3) := by decide +kernel
theorem dX11_init_106 : decode cX11_init 106 = .ok (.dup, 1) := by decide +kernel
theorem dX11_init_107 : decode cX11_init 107 = .ok (.invokespecial 67, 3) := by decide +kernel
theorem dX11_init_110 : decode cX11_init 110 = .ok (.putfield 68, 3) := by decide +kernel
theorem dX11_init_113 : decode cX11_init 113 = .ok (.return_, 1) := by decide +kernel
theorem dX11_feed_0 : decode cX11_feed 0 = .ok (.aload_n 0, 1) := by decide +kernel
theorem dX11_feed_1 : decode cX11_feed 1 = .ok (.getfield 16, 3) := by decide +kernel
theorem dX11_feed_4 : decode cX11_feed 4 = .ok (.getfield 72, 3) := by decide +kernel
theorem dX11_feed_7 : decode cX11_feed 7 = .ok (.bipush 20, 2) := by decide +kernel
theorem dX11_feed_9 : decode cX11_feed 9 = .ok (.iadd, 1) := by decide +kernel
theorem dX11_feed_10 : decode cX11_feed 10 = .ok (.sipush 700, 3) := by decide +kernel
theorem dX11_feed_13 : decode cX11_feed 13 = .ok (.if_icmp .le 5, 3) := by decide +kernel
theorem dX11_feed_16 : decode cX11_feed 16 = .ok (.iconst (-1), 1) := by decide +kernel
theorem dX11_feed_17 : decode cX11_feed 17 = .ok (.ireturn, 1) := by decide +kernel
theorem dX11_feed_18 : decode cX11_feed 18 = .ok (.aload_n 0, 1) := by decide +kernel
theorem dX11_feed_19 : decode cX11_feed 19 = .ok (.getfield 16, 3) := by decide +kernel
theorem dX11_feed_22 : decode cX11_feed 22 = .ok (.iload_n 1, 1) := by decide +kernel
theorem dX11_feed_23 : decode cX11_feed 23 = .ok (.invokevirtual 76, 3) := by decide +kernel
theorem dX11_feed_26 : decode cX11_feed 26 = .ok (.aload_n 0, 1) := by decide +kernel
theorem dX11_feed_27 : decode cX11_feed 27 = .ok (.getfield 16, 3) := by decide +kernel
theorem dX11_feed_30 : decode cX11_feed 30 = .ok (.iload_n 2, 1) := by decide +kernel
theorem dX11_feed_31 : decode cX11_feed 31 = .ok (.invokevirtual 76, 3) := by decide +kernel
theorem dX11_feed_34 : decode cX11_feed 34 = .ok (.aload_n 0, 1) := by decide +kernel
theorem dX11_feed_35 : decode cX11_feed 35 = .ok (.getfield 16, 3) := by decide +kernel
theorem dX11_feed_38 : decode cX11_feed 38 = .ok (.iload_n 3, 1) := by decide +kernel
theorem dX11_feed_39 : decode cX11_feed 39 = .ok (.invokevirtual 76, 3) := by decide +kernel
theorem dX11_feed_42 : decode cX11_feed 42 = .ok (.aload_n 0, 1) := by decide +kernel
theorem dX11_feed_43 : decode cX11_feed 43 = .ok (.getfield 16, 3) := by decide +kernel
theorem dX11_feed_46 : decode cX11_feed 46 = .ok (.iload 4, 2) := by decide +kernel
theorem dX11_feed_48 : decode cX11_feed 48 = .ok (.invokevirtual 76, 3) := by decide +kernel
theorem dX11_feed_51 : decode cX11_feed 51 = .ok (.aload_n 0, 1) := by decide +kernel
theorem dX11_feed_52 : decode cX11_feed 52 = .ok (.getfield 16, 3) := by decide +kernel
theorem dX11_feed_55 : decode cX11_feed 55 = .ok (.iload 5, 2) := by decide +kernel
theorem dX11_feed_57 : decode cX11_feed 57 = .ok (.invokevirtual 76, 3) := by decide +kernel
theorem dX11_feed_60 : decode cX11_feed 60 = .ok (.aload_n 0, 1) := by decide +kernel
theorem dX11_feed_61 : decode cX11_feed 61 = .ok (.getfield 16, 3) := by decide +kernel
theorem dX11_feed_64 : decode cX11_feed 64 = .ok (.getfield 72, 3) := by decide +kernel
theorem dX11_feed_67 : decode cX11_feed 67 = .ok (.ireturn, 1) := by decide +kernel
theorem dX11_load_0 : decode cX11_load 0 = .ok (.iload_n 1, 1) := by decide +kernel
theorem dX11_load_1 : decode cX11_load 1 = .ok (.ifCond .lt 14, 3) := by decide +kernel
theorem dX11_load_4 : decode cX11_load 4 = .ok (.iload_n 1, 1) := by decide +kernel
theorem dX11_load_5 : decode cX11_load 5 = .ok (.aload_n 0, 1) := by decide +kernel
theorem dX11_load_6 : decode cX11_load 6 = .ok (.getfield 16, 3) := by decide +kernel
theorem dX11_load_9 : decode cX11_load 9 = .ok (.getfield 72, 3) := by decide +kernel
theorem dX11_load_12 : decode cX11_load 12 = .ok (.if_icmp .le 13, 3) := by decide +kernel
theorem dX11_load_15 : decode cX11_load 15 = .ok (.new 80, 3) := by decide +kernel
theorem dX11_load_18 : decode cX11_load 18 = .ok (.dup, 1) := by decide +kernel
theorem dX11_load_19 : decode cX11_load 19 = .ok (.ldc 82, 2) := by decide +kernel
theorem dX11_load_21 : decode cX11_load 21 = .ok (.invokespecial 84, 3) := by decide +kernel
theorem dX11_load_24 : decode cX11_load 24 = .ok (.athrow, 1) := by decide +kernel
theorem dX11_load_25 : decode cX11_load 25 = .ok (.aload_n 0, 1) := by decide +kernel
theorem dX11_load_26 : decode cX11_load 26 = .ok (.getfield 16, 3) := by decide +kernel
theorem dX11_load_29 : decode cX11_load 29 = .ok (.iload_n 1, 1) := by decide +kernel
theorem dX11_load_30 : decode cX11_load 30 = .ok (.invokevirtual 87, 3) := by decide +kernel
theorem dX11_load_33 : decode cX11_load 33 = .ok (.aload_n 0, 1) := by decide +kernel
theorem dX11_load_34 : decode cX11_load 34 = .ok (.getfield 52, 3) := by decide +kernel
theorem dX11_load_37 : decode cX11_load 37 = .ok (.invokevirtual 90, 3) := by decide +kernel
theorem dX11_load_40 : decode cX11_load 40 = .ok (.aload_n 0, 1) := by decide +kernel
theorem dX11_load_41 : decode cX11_load 41 = .ok (.getfield 16, 3) := by decide +kernel
theorem dX11_load_44 : decode cX11_load 44 = .ok (.getfield 93, 3) := by decide +kernel
theorem dX11_load_47 : decode cX11_load 47 = .ok (.ifCond .eq 14, 3) := by decide +kernel
theorem dX11_load_50 : decode cX11_load 50 = .ok (.bipush (-10), 2) := by decide +kernel
theorem dX11_load_52 : decode cX11_load 52 = .ok (.aload_n 0, 1) := by decide +kernel
theorem dX11_load_53 : decode cX11_load 53 = .ok (.getfield 16, 3) := by decide +kernel
theorem dX11_load_56 : decode cX11_load 56 = .ok (.getfield 93, 3) := by decide +kernel
theorem dX11_load_59 : decode cX11_load 59 = .ok (.isub, 1) := by decide +kernel
theorem dX11_load_60 : decode cX11_load 60 = .ok (.ireturn, 1) := by decide +kernel
theorem dX11_load_61 : decode cX11_load 61 = .ok (.aload_n 0, 1) := by decide +kernel
theorem dX11_load_62 : decode cX11_load 62 = .ok (.getfield 25, 3) := by decide +kernel
theorem dX11_load_65 : decode cX11_load 65 = .ok (.aload_n 0, 1) := by decide +kernel
theorem dX11_load_66 : decode cX11_load 66 = .ok (.getfield 52, 3) := by decide +kernel
theorem dX11_load_69 : decode cX11_load 69 = .ok (.getfield 96, 3) := by decide +kernel
theorem dX11_load_72 : decode cX11_load 72 = .ok (.invokevirtual 97, 3) := by decide +kernel
theorem dX11_load_75 : decode cX11_load 75 = .ok (.aload_n 0, 1) := by decide +kernel
theorem dX11_load_76 : decode cX11_load 76 = .ok (.getfield 29, 3) := by decide +kernel
theorem dX11_load_79 : decode cX11_load 79 = .ok (.aload_n 0, 1) := by decide +kernel
theorem dX11_load_80 : decode cX11_load 80 = .ok (.getfield 52, 3) := by decide +kernel
theorem dX11_load_83 : decode cX11_load 83 = .ok (.getfield 101, 3) := by decide +kernel
theorem dX11_load_86 : decode cX11_load 86 = .ok (.invokevirtual 102, 3) := by decide +kernel
theorem dX11_load_89 : decode cX11_load 89 = .ok (.aload_n 0, 1) := by decide +kernel
theorem dX11_load_90 : decode cX11_load 90 = .ok (.getfield 39, 3) := by decide +kernel
theorem dX11_load_93 : decode cX11_load 93 = .ok (.invokevirtual 105, 3) := by decide +kernel
theorem dX11_load_96 : decode cX11_load 96 = .ok (.aload_n 0, 1) := by decide +kernel
theorem dX11_load_97 : decode cX11_load 97 = .ok (.iconst 0, 1) := by decide +kernel
theorem dX11_load_98 : decode cX11_load 98 = .ok (.putfield 108, 3) := by decide +kernel
theorem dX11_load_101 : decode cX11_load 101 = .ok (.aload_n 0, 1) := by decide +kernel
theorem dX11_load_102 : decode cX11_load 102 = .ok (.getfield 29, 3) := by decide +kernel
theorem dX11_load_105 : decode cX11_load 105 = .ok (.getfield 112, 3) := by decide +kernel
theorem dX11_load_108 : decode cX11_load 108 = .ok (.ireturn, 1) := by decide +kernel
theorem dX11_query_0 : decode cX11_query 0 = .ok (.iload_n 1, 1) := by decide +kernel
theorem dX11_query_1 : decode cX11_query 1 = .ok (.ifCond .lt 21, 3) := by decide +kernel
theorem dX11_query_4 : decode cX11_query 4 = .ok (.iload_n 1, 1) := by decide +kernel
theorem dX11_query_5 : decode cX11_query 5 = .ok (.sipush 200, 3) := by decide +kernel
theorem dX11_query_8 : decode cX11_query 8 = .ok (.if_icmp .gt 14, 3) := by decide +kernel
theorem dX11_query_11 : decode cX11_query 11 = .ok (.iload_n 1, 1) := by decide +kernel
theorem dX11_query_12 : decode cX11_query 12 = .ok (.aload_n 0, 1) := by decide +kernel
theorem dX11_query_13 : decode cX11_query 13 = .ok (.getfield 16, 3) := by decide +kernel
theorem dX11_query_16 : decode cX11_query 16 = .ok (.getfield 72, 3) := by decide +kernel
theorem dX11_query_19 : decode cX11_query 19 = .ok (.if_icmp .le 13, 3) := by decide +kernel
theorem dX11_query_22 : decode cX11_query 22 = .ok (.new 80, 3) := by decide +kernel
theorem dX11_query_25 : decode cX11_query 25 = .ok (.dup, 1) := by decide +kernel
theorem dX11_query_26 : decode cX11_query 26 = .ok (.ldc 82, 2) := by decide +kernel
theorem dX11_query_28 : decode cX11_query 28 = .ok (.invokespecial 84, 3) := by decide +kernel
theorem dX11_query_31 : decode cX11_query 31 = .ok (.athrow, 1) := by decide +kernel
theorem dX11_query_32 : decode cX11_query 32 = .ok (.aload_n 0, 1) := by decide +kernel
theorem dX11_query_33 : decode cX11_query 33 = .ok (.getfield 43, 3) := by decide +kernel
theorem dX11_query_36 : decode cX11_query 36 = .ok (.aload_n 0, 1) := by decide +kernel
theorem dX11_query_37 : decode cX11_query 37 = .ok (.getfield 25, 3) := by decide +kernel
theorem dX11_query_40 : decode cX11_query 40 = .ok (.aload_n 0, 1) := by decide +kernel
theorem dX11_query_41 : decode cX11_query 41 = .ok (.getfield 29, 3) := by decide +kernel
theorem dX11_query_44 : decode cX11_query 44 = .ok (.iconst 0, 1) := by decide +kernel
theorem dX11_query_45 : decode cX11_query 45 = .ok (.invokevirtual 118, 3) := by decide +kernel
theorem dX11_query_48 : decode cX11_query 48 = .ok (.aload_n 0, 1) := by decide +kernel
theorem dX11_query_49 : decode cX11_query 49 = .ok (.getfield 16, 3) := by decide +kernel
theorem dX11_query_52 : decode cX11_query 52 = .ok (.iload_n 1, 1) := by decide +kernel
theorem dX11_query_53 : decode cX11_query 53 = .ok (.invokevirtual 87, 3) := by decide +kernel
theorem dX11_query_56 : decode cX11_query 56 = .ok (.aload_n 0, 1) := by decide +kernel
theorem dX11_query_57 : decode cX11_query 57 = .ok (.getfield 16, 3) := by decide +kernel
theorem dX11_query_60 : decode cX11_query 60 = .ok (.ldc 122, 2) := by decide +kernel
theorem dX11_query_62 : decode cX11_query 62 = .ok (.invokevirtual 124, 3) := by decide +kernel
theorem dX11_query_65 : decode cX11_query 65 = .ok (.istore_n 2, 1) := by decide +kernel
theorem dX11_query_66 : decode cX11_query 66 = .ok (.iload_n 2, 1) := by decide +kernel
theorem dX11_query_67 : decode cX11_query 67 = .ok (.ifCond .ne 23, 3) := by decide +kernel
theorem dX11_query_70 : decode cX11_query 70 = .ok (.aload_n 0, 1) := by decide +kernel
theorem dX11_query_71 : decode cX11_query 71 = .ok (.getfield 16, 3) := by decide +kernel
theorem dX11_query_74 : decode cX11_query 74 = .ok (.ldc 128, 2) := by decide +kernel
theorem dX11_query_76 : decode cX11_query 76 = .ok (.invokevirtual 124, 3) := by decide +kernel
theorem dX11_query_79 : decode cX11_query 79 = .ok (.ifCond .ne 11, 3) := by decide +kernel
theorem dX11_query_82 : decode cX11_query 82 = .ok (.aload_n 0, 1) := by decide +kernel
theorem dX11_query_83 : decode cX11_query 83 = .ok (.getfield 16, 3) := by decide +kernel
theorem dX11_query_86 : decode cX11_query 86 = .ok (.iconst 1, 1) := by decide +kernel
theorem dX11_query_87 : decode cX11_query 87 = .ok (.invokevirtual 130, 3) := by decide +kernel
theorem dX11_query_90 : decode cX11_query 90 = .ok (.aload_n 0, 1) := by decide +kernel
theorem dX11_query_91 : decode cX11_query 91 = .ok (.getfield 16, 3) := by decide +kernel
theorem dX11_query_94 : decode cX11_query 94 = .ok (.invokevirtual 133, 3) := by decide +kernel
theorem dX11_query_97 : decode cX11_query 97 = .ok (.aload_n 0, 1) := by decide +kernel
theorem dX11_query_98 : decode cX11_query 98 = .ok (.getfield 61, 3) := by decide +kernel
theorem dX11_query_101 : decode cX11_query 101 = .ok (.iconst 0, 1) := by decide +kernel
theorem dX11_query_102 : decode cX11_query 102 = .ok (.invokevirtual 136, 3) := by decide +kernel
theorem dX11_query_105 : decode cX11_query 105 = .ok (.istore_n 3, 1) := by decide +kernel
theorem dX11_query_106 : decode cX11_query 106 = .ok (.aload_n 0, 1) := by decide +kernel
theorem dX11_query_107 : decode cX11_query 107 = .ok (.getfield 16, 3) := by decide +kernel
theorem dX11_query_110 : decode cX11_query 110 = .ok (.invokevirtual 140, 3) := by decide +kernel
theorem dX11_query_113 : decode cX11_query 113 = .ok (.aload_n 0, 1) := by decide +kernel
theorem dX11_query_114 : decode cX11_query 114 = .ok (.getfield 16, 3) := by decide +kernel
theorem dX11_query_117 : decode cX11_query 117 = .ok (.getfield 93, 3) := by decide +kernel
theorem dX11_query_120 : decode cX11_query 120 = .ok (.ifCond .eq 14, 3) := by decide +kernel
theorem dX11_query_123 : decode cX11_query 123 = .ok (.ldc 143, 2) := by decide +kernel
theorem dX11_query_125 : decode cX11_query 125 = .ok (.aload_n 0, 1) := by decide +kernel
theorem dX11_query_126 : decode cX11_query 126 = .ok (.getfield 16, 3) := by decide +kernel
theorem dX11_query_129 : decode cX11_query 129 = .ok (.getfield 93, 3) := by decide +kernel
theorem dX11_query_132 : decode cX11_query 132 = .ok (.isub, 1) := by decide +kernel
theorem dX11_query_133 : decode cX11_query 133 = .ok (.ireturn, 1) := by decide +kernel
theorem dX11_query_134 : decode cX11_query 134 = .ok (.iload_n 2, 1) := by decide +kernel
theorem dX11_query_135 : decode cX11_query 135 = .ok (.ifCond .eq 8, 3) := by decide +kernel
theorem dX11_query_138 : decode cX11_query 138 = .ok (.iload_n 3, 1) := by decide +kernel
theorem dX11_query_139 : decode cX11_query 139 = .ok (.invokestatic 144, 3) := by decide +kernel
theorem dX11_query_142 : decode cX11_query 142 = .ok (.ireturn, 1) := by decide +kernel
theorem dX11_query_143 : decode cX11_query 143 = .ok (.iload_n 3, 1) := by decide +kernel
theorem dX11_query_144 : decode cX11_query 144 = .ok (.ifCond .ne 7, 3) := by decide +kernel
theorem dX11_query_147 : decode cX11_query 147 = .ok (.iconst (-1), 1) := by decide +kernel
theorem dX11_query_148 : decode cX11_query 148 = .ok (.goto 7, 3) := by decide +kernel
theorem dX11_query_151 : decode cX11_query 151 = .ok (.iload_n 3, 1) := by decide +kernel
theorem dX11_query_152 : decode cX11_query 152 = .ok (.invokestatic 149, 3) := by decide +kernel
theorem dX11_query_155 : decode cX11_query 155 = .ok (.ireturn, 1) := by decide +kernel
theorem dX11_sine_0 : decode cX11_sine 0 = .ok (.iload_n 1, 1) := by decide +kernel
theorem dX11_sine_1 : decode cX11_sine 1 = .ok (.invokestatic 152, 3) := by decide +kernel
theorem dX11_sine_4 : decode cX11_sine 4 = .ok (.ireturn, 1) := by decide +kernel
theorem dX11_told_0 : decode cX11_told 0 = .ok (.iload_n 1, 1) := by decide +kernel
theorem dX11_told_1 : decode cX11_told 1 = .ok (.tableswitch 123 0 8 #[51, 59, 67, 75, 83, 91, 99, 107, 115], 51) := by decide +kernel
theorem dX11_told_52 : decode cX11_told 52 = .ok (.aload_n 0, 1) := by decide +kernel
theorem dX11_told_53 : decode cX11_told 53 = .ok (.getfield 25, 3) := by decide +kernel
theorem dX11_told_56 : decode cX11_told 56 = .ok (.getfield 162, 3) := by decide +kernel
theorem dX11_told_59 : decode cX11_told 59 = .ok (.ireturn, 1) := by decide +kernel
theorem dX11_told_60 : decode cX11_told 60 = .ok (.aload_n 0, 1) := by decide +kernel
theorem dX11_told_61 : decode cX11_told 61 = .ok (.getfield 29, 3) := by decide +kernel
theorem dX11_told_64 : decode cX11_told 64 = .ok (.getfield 165, 3) := by decide +kernel
theorem dX11_told_67 : decode cX11_told 67 = .ok (.ireturn, 1) := by decide +kernel
theorem dX11_told_68 : decode cX11_told 68 = .ok (.aload_n 0, 1) := by decide +kernel
theorem dX11_told_69 : decode cX11_told 69 = .ok (.getfield 29, 3) := by decide +kernel
theorem dX11_told_72 : decode cX11_told 72 = .ok (.getfield 112, 3) := by decide +kernel
theorem dX11_told_75 : decode cX11_told 75 = .ok (.ireturn, 1) := by decide +kernel
theorem dX11_told_76 : decode cX11_told 76 = .ok (.aload_n 0, 1) := by decide +kernel
theorem dX11_told_77 : decode cX11_told 77 = .ok (.getfield 25, 3) := by decide +kernel
theorem dX11_told_80 : decode cX11_told 80 = .ok (.getfield 168, 3) := by decide +kernel
theorem dX11_told_83 : decode cX11_told 83 = .ok (.ireturn, 1) := by decide +kernel
theorem dX11_told_84 : decode cX11_told 84 = .ok (.aload_n 0, 1) := by decide +kernel
theorem dX11_told_85 : decode cX11_told 85 = .ok (.getfield 25, 3) := by decide +kernel
theorem dX11_told_88 : decode cX11_told 88 = .ok (.getfield 171, 3) := by decide +kernel
theorem dX11_told_91 : decode cX11_told 91 = .ok (.ireturn, 1) := by decide +kernel
theorem dX11_told_92 : decode cX11_told 92 = .ok (.aload_n 0, 1) := by decide +kernel
theorem dX11_told_93 : decode cX11_told 93 = .ok (.getfield 29, 3) := by decide +kernel
theorem dX11_told_96 : decode cX11_told 96 = .ok (.getfield 174, 3) := by decide +kernel
theorem dX11_told_99 : decode cX11_told 99 = .ok (.ireturn, 1) := by decide +kernel
theorem dX11_told_100 : decode cX11_told 100 = .ok (.aload_n 0, 1) := by decide +kernel
theorem dX11_told_101 : decode cX11_told 101 = .ok (.getfield 29, 3) := by decide +kernel
theorem dX11_told_104 : decode cX11_told 104 = .ok (.getfield 177, 3) := by decide +kernel
theorem dX11_told_107 : decode cX11_told 107 = .ok (.ireturn, 1) := by decide +kernel
theorem dX11_told_108 : decode cX11_told 108 = .ok (.aload_n 0, 1) := by decide +kernel
theorem dX11_told_109 : decode cX11_told 109 = .ok (.getfield 29, 3) := by decide +kernel
theorem dX11_told_112 : decode cX11_told 112 = .ok (.getfield 180, 3) := by decide +kernel
theorem dX11_told_115 : decode cX11_told 115 = .ok (.ireturn, 1) := by decide +kernel
theorem dX11_told_116 : decode cX11_told 116 = .ok (.aload_n 0, 1) := by decide +kernel
theorem dX11_told_117 : decode cX11_told 117 = .ok (.getfield 29, 3) := by decide +kernel
theorem dX11_told_120 : decode cX11_told 120 = .ok (.getfield 183, 3) := by decide +kernel
theorem dX11_told_123 : decode cX11_told 123 = .ok (.ireturn, 1) := by decide +kernel
theorem dX11_told_124 : decode cX11_told 124 = .ok (.new 186, 3) := by decide +kernel
theorem dX11_told_127 : decode cX11_told 127 = .ok (.dup, 1) := by decide +kernel
theorem dX11_told_128 : decode cX11_told 128 = .ok (.ldc 188, 2) := by decide +kernel
theorem dX11_told_130 : decode cX11_told 130 = .ok (.invokespecial 190, 3) := by decide +kernel
theorem dX11_told_133 : decode cX11_told 133 = .ok (.athrow, 1) := by decide +kernel
theorem dX11_body_0 : decode cX11_body 0 = .ok (.aload_n 0, 1) := by decide +kernel
theorem dX11_body_1 : decode cX11_body 1 = .ok (.iload_n 1, 1) := by decide +kernel
theorem dX11_body_2 : decode cX11_body 2 = .ok (.invokevirtual 191, 3) := by decide +kernel
theorem dX11_body_5 : decode cX11_body 5 = .ok (.iload_n 2, 1) := by decide +kernel
theorem dX11_body_6 : decode cX11_body 6 = .ok (.tableswitch 75 0 3 #[30, 42, 54, 66], 30) := by decide +kernel
theorem dX11_body_36 : decode cX11_body 36 = .ok (.aload_n 0, 1) := by decide +kernel
theorem dX11_body_37 : decode cX11_body 37 = .ok (.getfield 25, 3) := by decide +kernel
theorem dX11_body_40 : decode cX11_body 40 = .ok (.getfield 194, 3) := by decide +kernel
theorem dX11_body_43 : decode cX11_body 43 = .ok (.iload_n 1, 1) := by decide +kernel
theorem dX11_body_44 : decode cX11_body 44 = .ok (.invokestatic 198, 3) := by decide +kernel
theorem dX11_body_47 : decode cX11_body 47 = .ok (.ireturn, 1) := by decide +kernel
theorem dX11_body_48 : decode cX11_body 48 = .ok (.aload_n 0, 1) := by decide +kernel
theorem dX11_body_49 : decode cX11_body 49 = .ok (.getfield 25, 3) := by decide +kernel
theorem dX11_body_52 : decode cX11_body 52 = .ok (.getfield 202, 3) := by decide +kernel
theorem dX11_body_55 : decode cX11_body 55 = .ok (.iload_n 1, 1) := by decide +kernel
theorem dX11_body_56 : decode cX11_body 56 = .ok (.invokestatic 198, 3) := by decide +kernel
theorem dX11_body_59 : decode cX11_body 59 = .ok (.ireturn, 1) := by decide +kernel
theorem dX11_body_60 : decode cX11_body 60 = .ok (.aload_n 0, 1) := by decide +kernel
theorem dX11_body_61 : decode cX11_body 61 = .ok (.getfield 25, 3) := by decide +kernel
theorem dX11_body_64 : decode cX11_body 64 = .ok (.getfield 205, 3) := by decide +kernel
theorem dX11_body_67 : decode cX11_body 67 = .ok (.iload_n 1, 1) := by decide +kernel
theorem dX11_body_68 : decode cX11_body 68 = .ok (.invokestatic 198, 3) := by decide +kernel
theorem dX11_body_71 : decode cX11_body 71 = .ok (.ireturn, 1) := by decide +kernel
theorem dX11_body_72 : decode cX11_body 72 = .ok (.aload_n 0, 1) := by decide +kernel
theorem dX11_body_73 : decode cX11_body 73 = .ok (.getfield 29, 3) := by decide +kernel
theorem dX11_body_76 : decode cX11_body 76 = .ok (.iload_n 1, 1) := by decide +kernel
theorem dX11_body_77 : decode cX11_body 77 = .ok (.invokevirtual 208, 3) := by decide +kernel
theorem dX11_body_80 : decode cX11_body 80 = .ok (.ireturn, 1) := by decide +kernel
theorem dX11_body_81 : decode cX11_body 81 = .ok (.new 186, 3) := by decide +kernel
theorem dX11_body_84 : decode cX11_body 84 = .ok (.dup, 1) := by decide +kernel
theorem dX11_body_85 : decode cX11_body 85 = .ok (.ldc 211, 2) := by decide +kernel
theorem dX11_body_87 : decode cX11_body 87 = .ok (.invokespecial 190, 3) := by decide +kernel
theorem dX11_body_90 : decode cX11_body 90 = .ok (.athrow, 1) := by decide +kernel
theorem dX11_leg_0 : decode cX11_leg 0 = .ok (.iload_n 1, 1) := by decide +kernel
theorem dX11_leg_1 : decode cX11_leg 1 = .ok (.ifCond .lt 14, 3) := by decide +kernel
theorem dX11_leg_4 : decode cX11_leg 4 = .ok (.iload_n 1, 1) := by decide +kernel
theorem dX11_leg_5 : decode cX11_leg 5 = .ok (.aload_n 0, 1) := by decide +kernel
theorem dX11_leg_6 : decode cX11_leg 6 = .ok (.getfield 29, 3) := by decide +kernel
theorem dX11_leg_9 : decode cX11_leg 9 = .ok (.getfield 165, 3) := by decide +kernel
theorem dX11_leg_12 : decode cX11_leg 12 = .ok (.if_icmp .lt 13, 3) := by decide +kernel
theorem dX11_leg_15 : decode cX11_leg 15 = .ok (.new 186, 3) := by decide +kernel
theorem dX11_leg_18 : decode cX11_leg 18 = .ok (.dup, 1) := by decide +kernel
theorem dX11_leg_19 : decode cX11_leg 19 = .ok (.ldc 213, 2) := by decide +kernel
theorem dX11_leg_21 : decode cX11_leg 21 = .ok (.invokespecial 190, 3) := by decide +kernel
theorem dX11_leg_24 : decode cX11_leg 24 = .ok (.athrow, 1) := by decide +kernel
theorem dX11_leg_25 : decode cX11_leg 25 = .ok (.iload_n 2, 1) := by decide +kernel
theorem dX11_leg_26 : decode cX11_leg 26 = .ok (.tableswitch 62 0 2 #[26, 38, 50], 26) := by decide +kernel
theorem dX11_leg_52 : decode cX11_leg 52 = .ok (.aload_n 0, 1) := by decide +kernel
theorem dX11_leg_53 : decode cX11_leg 53 = .ok (.getfield 29, 3) := by decide +kernel
theorem dX11_leg_56 : decode cX11_leg 56 = .ok (.getfield 215, 3) := by decide +kernel
theorem dX11_leg_59 : decode cX11_leg 59 = .ok (.iload_n 1, 1) := by decide +kernel
theorem dX11_leg_60 : decode cX11_leg 60 = .ok (.invokestatic 198, 3) := by decide +kernel
theorem dX11_leg_63 : decode cX11_leg 63 = .ok (.ireturn, 1) := by decide +kernel
theorem dX11_leg_64 : decode cX11_leg 64 = .ok (.aload_n 0, 1) := by decide +kernel
theorem dX11_leg_65 : decode cX11_leg 65 = .ok (.getfield 29, 3) := by decide +kernel
theorem dX11_leg_68 : decode cX11_leg 68 = .ok (.getfield 218, 3) := by decide +kernel
theorem dX11_leg_71 : decode cX11_leg 71 = .ok (.iload_n 1, 1) := by decide +kernel
theorem dX11_leg_72 : decode cX11_leg 72 = .ok (.invokestatic 198, 3) := by decide +kernel
theorem dX11_leg_75 : decode cX11_leg 75 = .ok (.ireturn, 1) := by decide +kernel
theorem dX11_leg_76 : decode cX11_leg 76 = .ok (.aload_n 0, 1) := by decide +kernel
theorem dX11_leg_77 : decode cX11_leg 77 = .ok (.getfield 29, 3) := by decide +kernel
theorem dX11_leg_80 : decode cX11_leg 80 = .ok (.getfield 221, 3) := by decide +kernel
theorem dX11_leg_83 : decode cX11_leg 83 = .ok (.iload_n 1, 1) := by decide +kernel
theorem dX11_leg_84 : decode cX11_leg 84 = .ok (.invokestatic 198, 3) := by decide +kernel
theorem dX11_leg_87 : decode cX11_leg 87 = .ok (.ireturn, 1) := by decide +kernel
theorem dX11_leg_88 : decode cX11_leg 88 = .ok (.new 186, 3) := by decide +kernel
theorem dX11_leg_91 : decode cX11_leg 91 = .ok (.dup, 1) := by decide +kernel
theorem dX11_leg_92 : decode cX11_leg 92 = .ok (.ldc 224, 2) := by decide +kernel
theorem dX11_leg_94 : decode cX11_leg 94 = .ok (.invokespecial 190, 3) := by decide +kernel
theorem dX11_leg_97 : decode cX11_leg 97 = .ok (.athrow, 1) := by decide +kernel
theorem dX11_displacement_0 : decode cX11_displacement 0 = .ok (.iload_n 1, 1) := by decide +kernel
theorem dX11_displacement_1 : decode cX11_displacement 1 = .ok (.invokestatic 226, 3) := by decide +kernel
theorem dX11_displacement_4 : decode cX11_displacement 4 = .ok (.aload_n 0, 1) := by decide +kernel
theorem dX11_displacement_5 : decode cX11_displacement 5 = .ok (.getfield 43, 3) := by decide +kernel
theorem dX11_displacement_8 : decode cX11_displacement 8 = .ok (.getfield 229, 3) := by decide +kernel
theorem dX11_displacement_11 : decode cX11_displacement 11 = .ok (.astore_n 3, 1) := by decide +kernel
theorem dX11_displacement_12 : decode cX11_displacement 12 = .ok (.aload_n 3, 1) := by decide +kernel
theorem dX11_displacement_13 : decode cX11_displacement 13 = .ok (.aload_n 0, 1) := by decide +kernel
theorem dX11_displacement_14 : decode cX11_displacement 14 = .ok (.getfield 29, 3) := by decide +kernel
theorem dX11_displacement_17 : decode cX11_displacement 17 = .ok (.iload_n 1, 1) := by decide +kernel
theorem dX11_displacement_18 : decode cX11_displacement 18 = .ok (.invokevirtual 233, 3) := by decide +kernel
theorem dX11_displacement_21 : decode cX11_displacement 21 = .ok (.iload_n 2, 1) := by decide +kernel
theorem dX11_displacement_22 : decode cX11_displacement 22 = .ok (.ifCond .eq 10, 3) := by decide +kernel
theorem dX11_displacement_25 : decode cX11_displacement 25 = .ok (.aload_n 3, 1) := by decide +kernel
theorem dX11_displacement_26 : decode cX11_displacement 26 = .ok (.getfield 239, 3) := by decide +kernel
theorem dX11_displacement_29 : decode cX11_displacement 29 = .ok (.goto 7, 3) := by decide +kernel
theorem dX11_displacement_32 : decode cX11_displacement 32 = .ok (.aload_n 3, 1) := by decide +kernel
theorem dX11_displacement_33 : decode cX11_displacement 33 = .ok (.getfield 242, 3) := by decide +kernel
theorem dX11_displacement_36 : decode cX11_displacement 36 = .ok (.ireturn, 1) := by decide +kernel
theorem dX11_sight_0 : decode cX11_sight 0 = .ok (.aload_n 0, 1) := by decide +kernel
theorem dX11_sight_1 : decode cX11_sight 1 = .ok (.iload_n 1, 1) := by decide +kernel
theorem dX11_sight_2 : decode cX11_sight 2 = .ok (.invokevirtual 250, 3) := by decide +kernel
theorem dX11_sight_5 : decode cX11_sight 5 = .ok (.aload_n 0, 1) := by decide +kernel
theorem dX11_sight_6 : decode cX11_sight 6 = .ok (.getfield 43, 3) := by decide +kernel
theorem dX11_sight_9 : decode cX11_sight 9 = .ok (.aload_n 0, 1) := by decide +kernel
theorem dX11_sight_10 : decode cX11_sight 10 = .ok (.getfield 25, 3) := by decide +kernel
theorem dX11_sight_13 : decode cX11_sight 13 = .ok (.aload_n 0, 1) := by decide +kernel
theorem dX11_sight_14 : decode cX11_sight 14 = .ok (.getfield 29, 3) := by decide +kernel
theorem dX11_sight_17 : decode cX11_sight 17 = .ok (.iload_n 1, 1) := by decide +kernel
theorem dX11_sight_18 : decode cX11_sight 18 = .ok (.iconst 0, 1) := by decide +kernel
theorem dX11_sight_19 : decode cX11_sight 19 = .ok (.invokevirtual 253, 3) := by decide +kernel
theorem dX11_sight_22 : decode cX11_sight 22 = .ok (.aload_n 0, 1) := by decide +kernel
theorem dX11_sight_23 : decode cX11_sight 23 = .ok (.getfield 43, 3) := by decide +kernel
theorem dX11_sight_26 : decode cX11_sight 26 = .ok (.iload_n 1, 1) := by decide +kernel
theorem dX11_sight_27 : decode cX11_sight 27 = .ok (.invokevirtual 257, 3) := by decide +kernel
theorem dX11_sight_30 : decode cX11_sight 30 = .ok (.astore_n 3, 1) := by decide +kernel
theorem dX11_sight_31 : decode cX11_sight 31 = .ok (.iload_n 2, 1) := by decide +kernel
theorem dX11_sight_32 : decode cX11_sight 32 = .ok (.tableswitch 118 0 8 #[52, 64, 76, 88, 93, 98, 103, 108, 113], 52) := by decide +kernel
theorem dX11_sight_84 : decode cX11_sight 84 = .ok (.aload_n 0, 1) := by decide +kernel
theorem dX11_sight_85 : decode cX11_sight 85 = .ok (.getfield 29, 3) := by decide +kernel
theorem dX11_sight_88 : decode cX11_sight 88 = .ok (.getfield 261, 3) := by decide +kernel
theorem dX11_sight_91 : decode cX11_sight 91 = .ok (.iload_n 1, 1) := by decide +kernel
theorem dX11_sight_92 : decode cX11_sight 92 = .ok (.invokestatic 198, 3) := by decide +kernel
theorem dX11_sight_95 : decode cX11_sight 95 = .ok (.ireturn, 1) := by decide +kernel
theorem dX11_sight_96 : decode cX11_sight 96 = .ok (.aload_n 0, 1) := by decide +kernel
theorem dX11_sight_97 : decode cX11_sight 97 = .ok (.getfield 29, 3) := by decide +kernel
theorem dX11_sight_100 : decode cX11_sight 100 = .ok (.getfield 264, 3) := by decide +kernel
theorem dX11_sight_103 : decode cX11_sight 103 = .ok (.iload_n 1, 1) := by decide +kernel
theorem dX11_sight_104 : decode cX11_sight 104 = .ok (.invokestatic 198, 3) := by decide +kernel
theorem dX11_sight_107 : decode cX11_sight 107 = .ok (.ireturn, 1) := by decide +kernel
theorem dX11_sight_108 : decode cX11_sight 108 = .ok (.aload_n 0, 1) := by decide +kernel
theorem dX11_sight_109 : decode cX11_sight 109 = .ok (.getfield 29, 3) := by decide +kernel
theorem dX11_sight_112 : decode cX11_sight 112 = .ok (.getfield 267, 3) := by decide +kernel
theorem dX11_sight_115 : decode cX11_sight 115 = .ok (.iload_n 1, 1) := by decide +kernel
theorem dX11_sight_116 : decode cX11_sight 116 = .ok (.invokestatic 198, 3) := by decide +kernel
theorem dX11_sight_119 : decode cX11_sight 119 = .ok (.ireturn, 1) := by decide +kernel
theorem dX11_sight_120 : decode cX11_sight 120 = .ok (.aload_n 3, 1) := by decide +kernel
theorem dX11_sight_121 : decode cX11_sight 121 = .ok (.getfield 270, 3) := by decide +kernel
theorem dX11_sight_124 : decode cX11_sight 124 = .ok (.ireturn, 1) := by decide +kernel
theorem dX11_sight_125 : decode cX11_sight 125 = .ok (.aload_n 3, 1) := by decide +kernel
theorem dX11_sight_126 : decode cX11_sight 126 = .ok (.getfield 275, 3) := by decide +kernel
theorem dX11_sight_129 : decode cX11_sight 129 = .ok (.ireturn, 1) := by decide +kernel
theorem dX11_sight_130 : decode cX11_sight 130 = .ok (.aload_n 3, 1) := by decide +kernel
theorem dX11_sight_131 : decode cX11_sight 131 = .ok (.getfield 278, 3) := by decide +kernel
theorem dX11_sight_134 : decode cX11_sight 134 = .ok (.ireturn, 1) := by decide +kernel
theorem dX11_sight_135 : decode cX11_sight 135 = .ok (.aload_n 3, 1) := by decide +kernel
theorem dX11_sight_136 : decode cX11_sight 136 = .ok (.getfield 281, 3) := by decide +kernel
theorem dX11_sight_139 : decode cX11_sight 139 = .ok (.ireturn, 1) := by decide +kernel
theorem dX11_sight_140 : decode cX11_sight 140 = .ok (.aload_n 3, 1) := by decide +kernel
theorem dX11_sight_141 : decode cX11_sight 141 = .ok (.getfield 284, 3) := by decide +kernel
theorem dX11_sight_144 : decode cX11_sight 144 = .ok (.ireturn, 1) := by decide +kernel
theorem dX11_sight_145 : decode cX11_sight 145 = .ok (.aload_n 3, 1) := by decide +kernel
theorem dX11_sight_146 : decode cX11_sight 146 = .ok (.getfield 287, 3) := by decide +kernel
theorem dX11_sight_149 : decode cX11_sight 149 = .ok (.ireturn, 1) := by decide +kernel
theorem dX11_sight_150 : decode cX11_sight 150 = .ok (.new 186, 3) := by decide +kernel
theorem dX11_sight_153 : decode cX11_sight 153 = .ok (.dup, 1) := by decide +kernel
theorem dX11_sight_154 : decode cX11_sight 154 = .ok (.ldc_w 290, 3) := by decide +kernel
theorem dX11_sight_157 : decode cX11_sight 157 = .ok (.invokespecial 190, 3) := by decide +kernel
theorem dX11_sight_160 : decode cX11_sight 160 = .ok (.athrow, 1) := by decide +kernel
theorem dX11_carried_0 : decode cX11_carried 0 = .ok (.aload_n 0, 1) := by decide +kernel
theorem dX11_carried_1 : decode cX11_carried 1 = .ok (.iload_n 1, 1) := by decide +kernel
theorem dX11_carried_2 : decode cX11_carried 2 = .ok (.invokevirtual 250, 3) := by decide +kernel
theorem dX11_carried_5 : decode cX11_carried 5 = .ok (.iload_n 2, 1) := by decide +kernel
theorem dX11_carried_6 : decode cX11_carried 6 = .ok (.invokestatic 226, 3) := by decide +kernel
theorem dX11_carried_9 : decode cX11_carried 9 = .ok (.aload_n 0, 1) := by decide +kernel
theorem dX11_carried_10 : decode cX11_carried 10 = .ok (.getfield 43, 3) := by decide +kernel
theorem dX11_carried_13 : decode cX11_carried 13 = .ok (.aload_n 0, 1) := by decide +kernel
theorem dX11_carried_14 : decode cX11_carried 14 = .ok (.getfield 25, 3) := by decide +kernel
theorem dX11_carried_17 : decode cX11_carried 17 = .ok (.aload_n 0, 1) := by decide +kernel
theorem dX11_carried_18 : decode cX11_carried 18 = .ok (.getfield 29, 3) := by decide +kernel
theorem dX11_carried_21 : decode cX11_carried 21 = .ok (.iload_n 1, 1) := by decide +kernel
theorem dX11_carried_22 : decode cX11_carried 22 = .ok (.iload_n 2, 1) := by decide +kernel
theorem dX11_carried_23 : decode cX11_carried 23 = .ok (.invokevirtual 253, 3) := by decide +kernel
theorem dX11_carried_26 : decode cX11_carried 26 = .ok (.aload_n 0, 1) := by decide +kernel
theorem dX11_carried_27 : decode cX11_carried 27 = .ok (.getfield 43, 3) := by decide +kernel
theorem dX11_carried_30 : decode cX11_carried 30 = .ok (.iload_n 1, 1) := by decide +kernel
theorem dX11_carried_31 : decode cX11_carried 31 = .ok (.invokevirtual 257, 3) := by decide +kernel
theorem dX11_carried_34 : decode cX11_carried 34 = .ok (.getfield 292, 3) := by decide +kernel
theorem dX11_carried_37 : decode cX11_carried 37 = .ok (.ireturn, 1) := by decide +kernel
theorem dX11_crossing_0 : decode cX11_crossing 0 = .ok (.aload_n 0, 1) := by decide +kernel
theorem dX11_crossing_1 : decode cX11_crossing 1 = .ok (.iload_n 1, 1) := by decide +kernel
theorem dX11_crossing_2 : decode cX11_crossing 2 = .ok (.invokevirtual 250, 3) := by decide +kernel
theorem dX11_crossing_5 : decode cX11_crossing 5 = .ok (.aload_n 0, 1) := by decide +kernel
theorem dX11_crossing_6 : decode cX11_crossing 6 = .ok (.iload_n 2, 1) := by decide +kernel
theorem dX11_crossing_7 : decode cX11_crossing 7 = .ok (.invokevirtual 250, 3) := by decide +kernel
theorem dX11_crossing_10 : decode cX11_crossing 10 = .ok (.iload_n 3, 1) := by decide +kernel
theorem dX11_crossing_11 : decode cX11_crossing 11 = .ok (.invokestatic 226, 3) := by decide +kernel
theorem dX11_crossing_14 : decode cX11_crossing 14 = .ok (.aload_n 0, 1) := by decide +kernel
theorem dX11_crossing_15 : decode cX11_crossing 15 = .ok (.getfield 43, 3) := by decide +kernel
theorem dX11_crossing_18 : decode cX11_crossing 18 = .ok (.aload_n 0, 1) := by decide +kernel
theorem dX11_crossing_19 : decode cX11_crossing 19 = .ok (.getfield 25, 3) := by decide +kernel
theorem dX11_crossing_22 : decode cX11_crossing 22 = .ok (.aload_n 0, 1) := by decide +kernel
theorem dX11_crossing_23 : decode cX11_crossing 23 = .ok (.getfield 29, 3) := by decide +kernel
theorem dX11_crossing_26 : decode cX11_crossing 26 = .ok (.iload_n 1, 1) := by decide +kernel
theorem dX11_crossing_27 : decode cX11_crossing 27 = .ok (.iload_n 3, 1) := by decide +kernel
theorem dX11_crossing_28 : decode cX11_crossing 28 = .ok (.invokevirtual 253, 3) := by decide +kernel
theorem dX11_crossing_31 : decode cX11_crossing 31 = .ok (.aload_n 0, 1) := by decide +kernel
theorem dX11_crossing_32 : decode cX11_crossing 32 = .ok (.getfield 43, 3) := by decide +kernel
theorem dX11_crossing_35 : decode cX11_crossing 35 = .ok (.aload_n 0, 1) := by decide +kernel
theorem dX11_crossing_36 : decode cX11_crossing 36 = .ok (.getfield 25, 3) := by decide +kernel
theorem dX11_crossing_39 : decode cX11_crossing 39 = .ok (.aload_n 0, 1) := by decide +kernel
theorem dX11_crossing_40 : decode cX11_crossing 40 = .ok (.getfield 29, 3) := by decide +kernel
theorem dX11_crossing_43 : decode cX11_crossing 43 = .ok (.iload_n 2, 1) := by decide +kernel
theorem dX11_crossing_44 : decode cX11_crossing 44 = .ok (.iload_n 3, 1) := by decide +kernel
theorem dX11_crossing_45 : decode cX11_crossing 45 = .ok (.invokevirtual 253, 3) := by decide +kernel
theorem dX11_crossing_48 : decode cX11_crossing 48 = .ok (.aload_n 0, 1) := by decide +kernel
theorem dX11_crossing_49 : decode cX11_crossing 49 = .ok (.getfield 43, 3) := by decide +kernel
theorem dX11_crossing_52 : decode cX11_crossing 52 = .ok (.getfield 295, 3) := by decide +kernel
theorem dX11_crossing_55 : decode cX11_crossing 55 = .ok (.astore 5, 2) := by decide +kernel
theorem dX11_crossing_57 : decode cX11_crossing 57 = .ok (.aload 5, 2) := by decide +kernel
theorem dX11_crossing_59 : decode cX11_crossing 59 = .ok (.aload_n 0, 1) := by decide +kernel
theorem dX11_crossing_60 : decode cX11_crossing 60 = .ok (.getfield 43, 3) := by decide +kernel
theorem dX11_crossing_63 : decode cX11_crossing 63 = .ok (.iload_n 1, 1) := by decide +kernel
theorem dX11_crossing_64 : decode cX11_crossing 64 = .ok (.invokevirtual 257, 3) := by decide +kernel
theorem dX11_crossing_67 : decode cX11_crossing 67 = .ok (.aload_n 0, 1) := by decide +kernel
theorem dX11_crossing_68 : decode cX11_crossing 68 = .ok (.getfield 43, 3) := by decide +kernel
theorem dX11_crossing_71 : decode cX11_crossing 71 = .ok (.iload_n 2, 1) := by decide +kernel
theorem dX11_crossing_72 : decode cX11_crossing 72 = .ok (.invokevirtual 257, 3) := by decide +kernel
theorem dX11_crossing_75 : decode cX11_crossing 75 = .ok (.invokevirtual 299, 3) := by decide +kernel
theorem dX11_crossing_78 : decode cX11_crossing 78 = .ok (.aload 5, 2) := by decide +kernel
theorem dX11_crossing_80 : decode cX11_crossing 80 = .ok (.getfield 305, 3) := by decide +kernel
theorem dX11_crossing_83 : decode cX11_crossing 83 = .ok (.ifCond .ne 6, 3) := by decide +kernel
theorem dX11_crossing_86 : decode cX11_crossing 86 = .ok (.ldc 143, 2) := by decide +kernel
theorem dX11_crossing_88 : decode cX11_crossing 88 = .ok (.ireturn, 1) := by decide +kernel
theorem dX11_crossing_89 : decode cX11_crossing 89 = .ok (.iload 4, 2) := by decide +kernel
theorem dX11_crossing_91 : decode cX11_crossing 91 = .ok (.ifCond .eq 11, 3) := by decide +kernel
theorem dX11_crossing_94 : decode cX11_crossing 94 = .ok (.aload 5, 2) := by decide +kernel
theorem dX11_crossing_96 : decode cX11_crossing 96 = .ok (.getfield 308, 3) := by decide +kernel
theorem dX11_crossing_99 : decode cX11_crossing 99 = .ok (.goto 8, 3) := by decide +kernel
theorem dX11_crossing_102 : decode cX11_crossing 102 = .ok (.aload 5, 2) := by decide +kernel
theorem dX11_crossing_104 : decode cX11_crossing 104 = .ok (.getfield 309, 3) := by decide +kernel
theorem dX11_crossing_107 : decode cX11_crossing 107 = .ok (.ireturn, 1) := by decide +kernel
theorem dX11_hat_0 : decode cX11_hat 0 = .ok (.aload_n 0, 1) := by decide +kernel
theorem dX11_hat_1 : decode cX11_hat 1 = .ok (.iload_n 1, 1) := by decide +kernel
theorem dX11_hat_2 : decode cX11_hat 2 = .ok (.iload_n 2, 1) := by decide +kernel
