theorem dX11_told_53 : decode cX11_told 53 = .ok (.getfield 25, 3) := by decide +kernel
theorem dX11_told_56 : decode cX11_told 56 = .ok (.getfield 162, 3) := by decide +kernel
theorem dX11_told_59 : decode cX11_told 59 = .ok (.ireturn, 1) := by decide +kernel
theorem dX11_told_60 : decode cX11_told 60 = .ok (.aload_n 0, 1) := by decide +kernel
theorem dX11_told_61 : decode cX11_told 61 = .ok (.getfield 29, 3) := by decide +kernel
theorem dX11_told_64 : decode cX11_told 64 = .ok (.getfield 165, 3) := by decide +kernel
theorem dX11_told_67 : decode cX11_told 67 = .ok (.ireturn, 1) := by decide +kernel
theorem dX11_told_68 : decode cX11_told 68 = .ok (.aload_n 0, 1) := by decide +kernel
theorem dX11_told_69 : decode cX11_told 69 = .ok (.getfield 29, 3) := by decide +kernel
theorem dX11_told_72 : decode cX11_told 72 = .ok (.getfield 112, 3) := by decide +kernel
theorem dX11_told_75 : decode cX11_told 75 = .ok (.ireturn, 1) := by decide +kernel
theorem dX11_told_76 : decode cX11_told 76 = .ok (.aload_n 0, 1) := by decide +kernel
theorem dX11_told_77 : decode cX11_told 77 = .ok (.getfield 25, 3) := by decide +kernel
theorem dX11_told_80 : decode cX11_told 80 = .ok (.getfield 168, 3) := by decide +kernel
theorem dX11_told_83 : decode cX11_told 83 = .ok (.ireturn, 1) := by decide +kernel
theorem dX11_told_84 : decode cX11_told 84 = .ok (.aload_n 0, 1) := by decide +kernel
theorem dX11_told_85 : decode cX11_told 85 = .ok (.getfield 25, 3) := by decide +kernel
theorem dX11_told_88 : decode cX11_told 88 = .ok (.getfield 171, 3) := by decide +kernel
theorem dX11_told_91 : decode cX11_told 91 = .ok (.ireturn, 1) := by decide +kernel
theorem dX11_told_92 : decode cX11_told 92 = .ok (.aload_n 0, 1) := by decide +kernel
theorem dX11_told_93 : decode cX11_told 93 = .ok (.getfield 29, 3) := by decide +kernel
theorem dX11_told_96 : decode cX11_told 96 = .ok (.getfield 174, 3) := by decide +kernel
theorem dX11_told_99 : decode cX11_told 99 = .ok (.ireturn, 1) := by decide +kernel
theorem dX11_told_100 : decode cX11_told 100 = .ok (.aload_n 0, 1) := by decide +kernel
theorem dX11_told_101 : decode cX11_told 101 = .ok (.getfield 29, 3) := by decide +kernel
theorem dX11_told_104 : decode cX11_told 104 = .ok (.getfield 177, 3) := by decide +kernel
theorem dX11_told_107 : decode cX11_told 107 = .ok (.ireturn, 1) := by decide +kernel
theorem dX11_told_108 : decode cX11_told 108 = .ok (.aload_n 0, 1) := by decide +kernel
theorem dX11_told_109 : decode cX11_told 109 = .ok (.getfield 29, 3) := by decide +kernel
theorem dX11_told_112 : decode cX11_told 112 = .ok (.getfield 180, 3) := by decide +kernel
theorem dX11_told_115 : decode cX11_told 115 = .ok (.ireturn, 1) := by decide +kernel
theorem dX11_told_116 : decode cX11_told 116 = .ok (.aload_n 0, 1) := by decide +kernel
theorem dX11_told_117 : decode cX11_told 117 = .ok (.getfield 29, 3) := by decide +kernel
theorem dX11_told_120 : decode cX11_told 120 = .ok (.getfield 183, 3) := by decide +kernel
theorem dX11_told_123 : decode cX11_told 123 = .ok (.ireturn, 1) := by decide +kernel
theorem dX11_told_124 : decode cX11_told 124 = .ok (.new 186, 3) := by decide +kernel
theorem dX11_told_127 : decode cX11_told 127 = .ok (.dup, 1) := by decide +kernel
theorem dX11_told_128 : decode cX11_told 128 = .ok (.ldc 188, 2) := by decide +kernel
theorem dX11_told_130 : decode cX11_told 130 = .ok (.invokespecial 190, 3) := by decide +kernel
theorem dX11_told_133 : decode cX11_told 133 = .ok (.athrow, 1) := by decide +kernel
theorem dX11_body_0 : decode cX11_body 0 = .ok (.aload_n 0, 1) := by decide +kernel
theorem dX11_body_1 : decode cX11_body 1 = .ok (.iload_n 1, 1) := by decide +kernel
theorem dX11_body_2 : decode cX11_body 2 = .ok (.invokevirtual 191, 3) := by decide +kernel
theorem dX11_body_5 : decode cX11_body 5 = .ok (.iload_n 2, 1) := by decide +kernel
theorem dX11_body_6 : decode cX11_body 6 = .ok (.tableswitch 75 0 3 #[30, 42, 54, 66], 30) := by decide +kernel
theorem dX11_body_36 : decode cX11_body 36 = .ok (.aload_n 0, 1) := by decide +kernel
theorem dX11_body_37 : decode cX11_body 37 = .ok (.getfield 25, 3) := by decide +kernel
theorem dX11_body_40 : decode cX11_body 40 = .ok (.getfield 194, 3) := by decide +kernel
theorem dX11_body_43 : decode cX11_body 43 = .ok (.iload_n 1, 1) := by decide +kernel
theorem dX11_body_44 : decode cX11_body 44 = .ok (.invokestatic 198, 3) := by decide +kernel
theorem dX11_body_47 : decode cX11_body 47 = .ok (.ireturn, 1) := by decide +kernel
theorem dX11_body_48 : decode cX11_body 48 = .ok (.aload_n 0, 1) := by decide +kernel
theorem dX11_body_49 : decode cX11_body 49 = .ok (.getfield 25, 3) := by decide +kernel
theorem dX11_body_52 : decode cX11_body 52 = .ok (.getfield 202, 3) := by decide +kernel
theorem dX11_body_55 : decode cX11_body 55 = .ok (.iload_n 1, 1) := by decide +kernel
theorem dX11_body_56 : decode cX11_body 56 = .ok (.invokestatic 198, 3) := by decide +kernel
theorem dX11_body_59 : decode cX11_body 59 = .ok (.ireturn, 1) := by decide +kernel
theorem dX11_body_60 : decode cX11_body 60 = .ok (.aload_n 0, 1) := by decide +kernel
theorem dX11_body_61 : decode cX11_body 61 = .ok (.getfield 25, 3) := by decide +kernel
theorem dX11_body_64 : decode cX11_body 64 = .ok (.getfield 205, 3) := by decide +kernel
theorem dX11_body_67 : decode cX11_body 67 = .ok (.iload_n 1, 1) := by decide +kernel
theorem dX11_body_68 : decode cX11_body 68 = .ok (.invokestatic 198, 3) := by decide +kernel
theorem dX11_body_71 : decode cX11_body 71 = .ok (.ireturn, 1) := by decide +kernel
theorem dX11_body_72 : decode cX11_body 72 = .ok (.aload_n 0, 1) := by decide +kernel
theorem dX11_body_73 : decode cX11_body 73 = .ok (.getfield 29, 3) := by decide +kernel
theorem dX11_body_76 : decode cX11_body 76 = .ok (.iload_n 1, 1) := by decide +kernel
theorem dX11_body_77 : decode cX11_body 77 = .ok (.invokevirtual 208, 3) := by decide +kernel
theorem dX11_body_80 : decode cX11_body 80 = .ok (.ireturn, 1) := by decide +kernel
theorem dX11_body_81 : decode cX11_body 81 = .ok (.new 186, 3) := by decide +kernel
theorem dX11_body_84 : decode cX11_body 84 = .ok (.dup, 1) := by decide +kernel
theorem dX11_body_85 : decode cX11_body 85 = .ok (.ldc 211, 2) := by decide +kernel
theorem dX11_body_87 : decode cX11_body 87 = .ok (.invokespecial 190, 3) := by decide +kernel
theorem dX11_body_90 : decode cX11_body 90 = .ok (.athrow, 1) := by decide +kernel
theorem dX11_leg_0 : decode cX11_leg 0 = .ok (.iload_n 1, 1) := by decide +kernel
theorem dX11_leg_1 : decode cX11_leg 1 = .ok (.ifCond .lt 14, 3) := by decide +kernel
theorem dX11_leg_4 : decode cX11_leg 4 = .ok (.iload_n 1, 1) := by decide +kernel
theorem dX11_leg_5 : decode cX11_leg 5 = .ok (.aload_n 0, 1) := by decide +kernel
theorem dX11_leg_6 : decode cX11_leg 6 = .ok (.getfield 29, 3) := by decide +kernel
theorem dX11_leg_9 : decode cX11_leg 9 = .ok (.getfield 165, 3) := by decide +kernel
theorem dX11_leg_12 : decode cX11_leg 12 = .ok (.if_icmp .lt 13, 3) := by decide +kernel
theorem dX11_leg_15 : decode cX11_leg 15 = .ok (.new 186, 3) := by decide +kernel
theorem dX11_leg_18 : decode cX11_leg 18 = .ok (.dup, 1) := by decide +kernel
theorem dX11_leg_19 : decode cX11_leg 19 = .ok (.ldc 213, 2) := by decide +kernel
theorem dX11_leg_21 : decode cX11_leg 21 = .ok (.invokespecial 190, 3) := by decide +kernel
theorem dX11_leg_24 : decode cX11_leg 24 = .ok (.athrow, 1) := by decide +kernel
theorem dX11_leg_25 : decode cX11_leg 25 = .ok (.iload_n 2, 1) := by decide +kernel
theorem dX11_leg_26 : decode cX11_leg 26 = .ok (.tableswitch 62 0 2 #[26, 38, 50], 26) := by decide +kernel
theorem dX11_leg_52 : decode cX11_leg 52 = .ok (.aload_n 0, 1) := by decide +kernel
theorem dX11_leg_53 : decode cX11_leg 53 = .ok (.getfield 29, 3) := by decide +kernel
theorem dX11_leg_56 : decode cX11_leg 56 = .ok (.getfield 215, 3) := by decide +kernel
theorem dX11_leg_59 : decode cX11_leg 59 = .ok (.iload_n 1, 1) := by decide +kernel
theorem dX11_leg_60 : decode cX11_leg 60 = .ok (.invokestatic 198, 3) := by decide +kernel
theorem dX11_leg_63 : decode cX11_leg 63 = .ok (.ireturn, 1) := by decide +kernel
theorem dX11_leg_64 : decode cX11_leg 64 = .ok (.aload_n 0, 1) := by decide +kernel
theorem dX11_leg_65 : decode cX11_leg 65 = .ok (.getfield 29, 3) := by decide +kernel
theorem dX11_leg_68 : decode cX11_leg 68 = .ok (.getfield 218, 3) := by decide +kernel
theorem dX11_leg_71 : decode cX11_leg 71 = .ok (.iload_n 1, 1) := by decide +kernel
theorem dX11_leg_72 : decode cX11_leg 72 = .ok (.invokestatic 198, 3) := by decide +kernel
theorem dX11_leg_75 : decode cX11_leg 75 = .ok (.ireturn, 1) := by decide +kernel
theorem dX11_leg_76 : decode cX11_leg 76 = .ok (.aload_n 0, 1) := by decide +kernel
theorem dX11_leg_77 : decode cX11_leg 77 = .ok (.getfield 29, 3) := by decide +kernel
theorem dX11_leg_80 : decode cX11_leg 80 = .ok (.getfield 221, 3) := by decide +kernel
theorem dX11_leg_83 : decode cX11_leg 83 = .ok (.iload_n 1, 1) := by decide +kernel
theorem dX11_leg_84 : decode cX11_leg 84 = .ok (.invokestatic 198, 3) := by decide +kernel
theorem dX11_leg_87 : decode cX11_leg 87 = .ok (.ireturn, 1) := by decide +kernel
theorem dX11_leg_88 : decode cX11_leg 88 = .ok (.new 186, 3) := by decide +kernel
theorem dX11_leg_91 : decode cX11_leg 91 = .ok (.dup, 1) := by decide +kernel
theorem dX11_leg_92 : decode cX11_leg 92 = .ok (.ldc 224, 2) := by decide +kernel
theorem dX11_leg_94 : decode cX11_leg 94 = .ok (.invokespecial 190, 3) := by decide +kernel
theorem dX11_leg_97 : decode cX11_leg 97 = .ok (.athrow, 1) := by decide +kernel
theorem dX11_displacement_0 : decode cX11_displacement 0 = .ok (.iload_n 1, 1) := by decide +kernel
theorem dX11_displacement_1 : decode cX11_displacement 1 = .ok (.invokestatic 226, 3) := by decide +kernel
theorem dX11_displacement_4 : decode cX11_displacement 4 = .ok (.aload_n 0, 1) := by decide +kernel
theorem dX11_displacement_5 : decode cX11_displacement 5 = .ok (.getfield 43, 3) := by decide +kernel
theorem dX11_displacement_8 : decode cX11_displacement 8 = .ok (.getfield 229, 3) := by decide +kernel
theorem dX11_displacement_11 : decode cX11_displacement 11 = .ok (.astore_n 3, 1) := by decide +kernel
theorem dX11_displacement_12 : decode cX11_displacement 12 = .ok (.aload_n 3, 1) := by decide +kernel
theorem dX11_displacement_13 : decode cX11_displacement 13 = .ok (.aload_n 0, 1) := by decide +kernel
theorem dX11_displacement_14 : decode cX11_displacement 14 = .ok (.getfield 29, 3) := by decide +kernel
theorem dX11_displacement_17 : decode cX11_displacement 17 = .ok (.iload_n 1, 1) := by decide +kernel
theorem dX11_displacement_18 : decode cX11_displacement 18 = .ok (.invokevirtual 233, 3) := by decide +kernel
theorem dX11_displacement_21 : decode cX11_displacement 21 = .ok (.iload_n 2, 1) := by decide +kernel
theorem dX11_displacement_22 : decode cX11_displacement 22 = .ok (.ifCond .eq 10, 3) := by decide +kernel
theorem dX11_displacement_25 : decode cX11_displacement 25 = .ok (.aload_n 3, 1) := by decide +kernel
theorem dX11_displacement_26 : decode cX11_displacement 26 = .ok (.getfield 239, 3) := by decide +kernel
theorem dX11_displacement_29 : decode cX11_displacement 29 = .ok (.goto 7, 3) := by decide +kernel
theorem dX11_displacement_32 : decode cX11_displacement 32 = .ok (.aload_n 3, 1) := by decide +kernel
theorem dX11_displacement_33 : decode cX11_displacement 33 = .ok (.getfield 242, 3) := by decide +kernel
theorem dX11_displacement_36 : decode cX11_displacement 36 = .ok (.ireturn, 1) := by decide +kernel
theorem dX11_reckoned_0 : decode cX11_reckoned 0 = .ok (.iload_n 1, 1) := by decide +kernel
theorem dX11_reckoned_1 : decode cX11_reckoned 1 = .ok (.invokestatic 226, 3) := by decide +kernel
theorem dX11_reckoned_4 : decode cX11_reckoned 4 = .ok (.aload_n 0, 1) := by decide +kernel
theorem dX11_reckoned_5 : decode cX11_reckoned 5 = .ok (.getfield 43, 3) := by decide +kernel
theorem dX11_reckoned_8 : decode cX11_reckoned 8 = .ok (.getfield 229, 3) := by decide +kernel
theorem dX11_reckoned_11 : decode cX11_reckoned 11 = .ok (.astore_n 3, 1) := by decide +kernel
theorem dX11_reckoned_12 : decode cX11_reckoned 12 = .ok (.aload_n 3, 1) := by decide +kernel
theorem dX11_reckoned_13 : decode cX11_reckoned 13 = .ok (.aload_n 0, 1) := by decide +kernel
theorem dX11_reckoned_14 : decode cX11_reckoned 14 = .ok (.getfield 29, 3) := by decide +kernel
theorem dX11_reckoned_17 : decode cX11_reckoned 17 = .ok (.iload_n 1, 1) := by decide +kernel
theorem dX11_reckoned_18 : decode cX11_reckoned 18 = .ok (.invokevirtual 233, 3) := by decide +kernel
theorem dX11_reckoned_21 : decode cX11_reckoned 21 = .ok (.aload_n 3, 1) := by decide +kernel
theorem dX11_reckoned_22 : decode cX11_reckoned 22 = .ok (.aload_n 0, 1) := by decide +kernel
theorem dX11_reckoned_23 : decode cX11_reckoned 23 = .ok (.getfield 25, 3) := by decide +kernel
theorem dX11_reckoned_26 : decode cX11_reckoned 26 = .ok (.invokevirtual 245, 3) := by decide +kernel
theorem dX11_reckoned_29 : decode cX11_reckoned 29 = .ok (.iload_n 2, 1) := by decide +kernel
theorem dX11_reckoned_30 : decode cX11_reckoned 30 = .ok (.ifCond .eq 10, 3) := by decide +kernel
theorem dX11_reckoned_33 : decode cX11_reckoned 33 = .ok (.aload_n 3, 1) := by decide +kernel
theorem dX11_reckoned_34 : decode cX11_reckoned 34 = .ok (.getfield 248, 3) := by decide +kernel
theorem dX11_reckoned_37 : decode cX11_reckoned 37 = .ok (.goto 7, 3) := by decide +kernel
theorem dX11_reckoned_40 : decode cX11_reckoned 40 = .ok (.aload_n 3, 1) := by decide +kernel
theorem dX11_reckoned_41 : decode cX11_reckoned 41 = .ok (.getfield 249, 3) := by decide +kernel
theorem dX11_reckoned_44 : decode cX11_reckoned 44 = .ok (.ireturn, 1) := by decide +kernel
theorem dX11_sight_0 : decode cX11_sight 0 = .ok (.aload_n 0, 1) := by decide +kernel
theorem dX11_sight_1 : decode cX11_sight 1 = .ok (.iload_n 1, 1) := by decide +kernel
theorem dX11_sight_2 : decode cX11_sight 2 = .ok (.invokevirtual 250, 3) := by decide +kernel
theorem dX11_sight_5 : decode cX11_sight 5 = .ok (.aload_n 0, 1) := by decide +kernel
theorem dX11_sight_6 : decode cX11_sight 6 = .ok (.getfield 43, 3) := by decide +kernel
theorem dX11_sight_9 : decode cX11_sight 9 = .ok (.aload_n 0, 1) := by decide +kernel
theorem dX11_sight_10 : decode cX11_sight 10 = .ok (.getfield 25, 3) := by decide +kernel
theorem dX11_sight_13 : decode cX11_sight 13 = .ok (.aload_n 0, 1) := by decide +kernel
theorem dX11_sight_14 : decode cX11_sight 14 = .ok (.getfield 29, 3) := by decide +kernel
theorem dX11_sight_17 : decode cX11_sight 17 = .ok (.iload_n 1, 1) := by decide +kernel
theorem dX11_sight_18 : decode cX11_sight 18 = .ok (.iconst 0, 1) := by decide +kernel
theorem dX11_sight_19 : decode cX11_sight 19 = .ok (.invokevirtual 253, 3) := by decide +kernel
theorem dX11_sight_22 : decode cX11_sight 22 = .ok (.aload_n 0, 1) := by decide +kernel
theorem dX11_sight_23 : decode cX11_sight 23 = .ok (.getfield 43, 3) := by decide +kernel
theorem dX11_sight_26 : decode cX11_sight 26 = .ok (.iload_n 1, 1) := by decide +kernel
theorem dX11_sight_27 : decode cX11_sight 27 = .ok (.invokevirtual 257, 3) := by decide +kernel
theorem dX11_sight_30 : decode cX11_sight 30 = .ok (.astore_n 3, 1) := by decide +kernel
theorem dX11_sight_31 : decode cX11_sight 31 = .ok (.iload_n 2, 1) := by decide +kernel
theorem dX11_sight_32 : decode cX11_sight 32 = .ok (.tableswitch 118 0 8 #[52, 64, 76, 88, 93, 98, 103, 108, 113], 52) := by decide +kernel
theorem dX11_sight_84 : decode cX11_sight 84 = .ok (.aload_n 0, 1) := by decide +kernel
theorem dX11_sight_85 : decode cX11_sight 85 = .ok (.getfield 29, 3) := by decide +kernel
theorem dX11_sight_88 : decode cX11_sight 88 = .ok (.getfield 261, 3) := by decide +kernel
theorem dX11_sight_91 : decode cX11_sight 91 = .ok (.iload_n 1, 1) := by decide +kernel
theorem dX11_sight_92 : decode cX11_sight 92 = .ok (.invokestatic 198, 3) := by decide +kernel
theorem dX11_sight_95 : decode cX11_sight 95 = .ok (.ireturn, 1) := by decide +kernel
theorem dX11_sight_96 : decode cX11_sight 96 = .ok (.aload_n 0, 1) := by decide +kernel
theorem dX11_sight_97 : decode cX11_sight 97 = .ok (.getfield 29, 3) := by decide +kernel
theorem dX11_sight_100 : decode cX11_sight 100 = .ok (.getfield 264, 3) := by decide +kernel
theorem dX11_sight_103 : decode cX11_sight 103 = .ok (.iload_n 1, 1) := by decide +kernel
theorem dX11_sight_104 : decode cX11_sight 104 = .ok (.invokestatic 198, 3) := by decide +kernel
theorem dX11_sight_107 : decode cX11_sight 107 = .ok (.ireturn, 1) := by decide +kernel
theorem dX11_sight_108 : decode cX11_sight 108 = .ok (.aload_n 0, 1) := by decide +kernel
theorem dX11_sight_109 : decode cX11_sight 109 = .ok (.getfield 29, 3) := by decide +kernel
theorem dX11_sight_112 : decode cX11_sight 112 = .ok (.getfield 267, 3) := by decide +kernel
theorem dX11_sight_115 : decode cX11_sight 115 = .ok (.iload_n 1, 1) := by decide +kernel
theorem dX11_sight_116 : decode cX11_sight 116 = .ok (.invokestatic 198, 3) := by decide +kernel
theorem dX11_sight_119 : decode cX11_sight 119 = .ok (.ireturn, 1) := by decide +kernel
theorem dX11_sight_120 : decode cX11_sight 120 = .ok (.aload_n 3, 1) := by decide +kernel
theorem dX11_sight_121 : decode cX11_sight 121 = .ok (.getfield 270, 3) := by decide +kernel
theorem dX11_sight_124 : decode cX11_sight 124 = .ok (.ireturn, 1) := by decide +kernel
theorem dX11_sight_125 : decode cX11_sight 125 = .ok (.aload_n 3, 1) := by decide +kernel
theorem dX11_sight_126 : decode cX11_sight 126 = .ok (.getfield 275, 3) := by decide +kernel
theorem dX11_sight_129 : decode cX11_sight 129 = .ok (.ireturn, 1) := by decide +kernel
theorem dX11_sight_130 : decode cX11_sight 130 = .ok (.aload_n 3, 1) := by decide +kernel
theorem dX11_sight_131 : decode cX11_sight 131 = .ok (.getfield 278, 3) := by decide +kernel
theorem dX11_sight_134 : decode cX11_sight 134 = .ok (.ireturn, 1) := by decide +kernel
theorem dX11_sight_135 : decode cX11_sight 135 = .ok (.aload_n 3, 1) := by decide +kernel
theorem dX11_sight_136 : decode cX11_sight 136 = .ok (.getfield 281, 3) := by decide +kernel
theorem dX11_sight_139 : decode cX11_sight 139 = .ok (.ireturn, 1) := by decide +kernel
theorem dX11_sight_140 : decode cX11_sight 140 = .ok (.aload_n 3, 1) := by decide +kernel
theorem dX11_sight_141 : decode cX11_sight 141 = .ok (.getfield 284, 3) := by decide +kernel
theorem dX11_sight_144 : decode cX11_sight 144 = .ok (.ireturn, 1) := by decide +kernel
theorem dX11_sight_145 : decode cX11_sight 145 = .ok (.aload_n 3, 1) := by decide +kernel
theorem dX11_sight_146 : decode cX11_sight 146 = .ok (.getfield 287, 3) := by decide +kernel
theorem dX11_sight_149 : decode cX11_sight 149 = .ok (.ireturn, 1) := by decide +kernel
theorem dX11_sight_150 : decode cX11_sight 150 = .ok (.new 186, 3) := by decide +kernel
theorem dX11_sight_153 : decode cX11_sight 153 = .ok (.dup, 1) := by decide +kernel
theorem dX11_sight_154 : decode cX11_sight 154 = .ok (.ldc_w 290, 3) := by decide +kernel
theorem dX11_sight_157 : decode cX11_sight 157 = .ok (.invokespecial 190, 3) := by decide +kernel
theorem dX11_sight_160 : decode cX11_sight 160 = .ok (.athrow, 1) := by decide +kernel
theorem dX11_carried_0 : decode cX11_carried 0 = .ok (.aload_n 0, 1) := by decide +kernel
theorem dX11_carried_1 : decode cX11_carried 1 = .ok (.iload_n 1, 1) := by decide +kernel
theorem dX11_carried_2 : decode cX11_carried 2 = .ok (.invokevirtual 250, 3) := by decide +kernel
theorem dX11_carried_5 : decode cX11_carried 5 = .ok (.iload_n 2, 1) := by decide +kernel
theorem dX11_carried_6 : decode cX11_carried 6 = .ok (.invokestatic 226, 3) := by decide +kernel
theorem dX11_carried_9 : decode cX11_carried 9 = .ok (.aload_n 0, 1) := by decide +kernel
theorem dX11_carried_10 : decode cX11_carried 10 = .ok (.getfield 43, 3) := by decide +kernel
theorem dX11_carried_13 : decode cX11_carried 13 = .ok (.aload_n 0, 1) := by decide +kernel
theorem dX11_carried_14 : decode cX11_carried 14 = .ok (.getfield 25, 3) := by decide +kernel
theorem dX11_carried_17 : decode cX11_carried 17 = .ok (.aload_n 0, 1) := by decide +kernel
theorem dX11_carried_18 : decode cX11_carried 18 = .ok (.getfield 29, 3) := by decide +kernel
theorem dX11_carried_21 : decode cX11_carried 21 = .ok (.iload_n 1, 1) := by decide +kernel
theorem dX11_carried_22 : decode cX11_carried 22 = .ok (.iload_n 2, 1) := by decide +kernel
theorem dX11_carried_23 : decode cX11_carried 23 = .ok (.invokevirtual 253, 3) := by decide +kernel
theorem dX11_carried_26 : decode cX11_carried 26 = .ok (.aload_n 0, 1) := by decide +kernel
theorem dX11_carried_27 : decode cX11_carried 27 = .ok (.getfield 43, 3) := by decide +kernel
theorem dX11_carried_30 : decode cX11_carried 30 = .ok (.iload_n 1, 1) := by decide +kernel
theorem dX11_carried_31 : decode cX11_carried 31 = .ok (.invokevirtual 257, 3) := by decide +kernel
theorem dX11_carried_34 : decode cX11_carried 34 = .ok (.getfield 292, 3) := by decide +kernel
theorem dX11_carried_37 : decode cX11_carried 37 = .ok (.ireturn, 1) := by decide +kernel
theorem dX11_crossing_0 : decode cX11_crossing 0 = .ok (.aload_n 0, 1) := by decide +kernel
theorem dX11_crossing_1 : decode cX11_crossing 1 = .ok (.iload_n 1, 1) := by decide +kernel
theorem dX11_crossing_2 : decode cX11_crossing 2 = .ok (.invokevirtual 250, 3) := by decide +kernel
theorem dX11_crossing_5 : decode cX11_crossing 5 = .ok (.aload_n 0, 1) := by decide +kernel
theorem dX11_crossing_6 : decode cX11_crossing 6 = .ok (.iload_n 2, 1) := by decide +kernel
theorem dX11_crossing_7 : decode cX11_crossing 7 = .ok (.invokevirtual 250, 3) := by decide +kernel
theorem dX11_crossing_10 : decode cX11_crossing 10 = .ok (.iload_n 3, 1) := by decide +kernel
theorem dX11_crossing_11 : decode cX11_crossing 11 = .ok (.invokestatic 226, 3) := by decide +kernel
theorem dX11_crossing_14 : decode cX11_crossing 14 = .ok (.aload_n 0, 1) := by decide +kernel
theorem dX11_crossing_15 : decode cX11_crossing 15 = .ok (.getfield 43, 3) := by decide +kernel
theorem dX11_crossing_18 : decode cX11_crossing 18 = .ok (.aload_n 0, 1) := by decide +kernel
theorem dX11_crossing_19 : decode cX11_crossing 19 = .ok (.getfield 25, 3) := by decide +kernel
theorem dX11_crossing_22 : decode cX11_crossing 22 = .ok (.aload_n 0, 1) := by decide +kernel
theorem dX11_crossing_23 : decode cX11_crossing 23 = .ok (.getfield 29, 3) := by decide +kernel
theorem dX11_crossing_26 : decode cX11_crossing 26 = .ok (.iload_n 1, 1) := by decide +kernel
theorem dX11_crossing_27 : decode cX11_crossing 27 = .ok (.iload_n 3, 1) := by decide +kernel
theorem dX11_crossing_28 : decode cX11_crossing 28 = .ok (.invokevirtual 253, 3) := by decide +kernel
theorem dX11_crossing_31 : decode cX11_crossing 31 = .ok (.aload_n 0, 1) := by decide +kernel
theorem dX11_crossing_32 : decode cX11_crossing 32 = .ok (.getfield 43, 3) := by decide +kernel
theorem dX11_crossing_35 : decode cX11_crossing 35 = .ok (.aload_n 0, 1) := by decide +kernel
theorem dX11_crossing_36 : decode cX11_crossing 36 = .ok (.getfield 25, 3) := by decide +kernel
theorem dX11_crossing_39 : decode cX11_crossing 39 = .ok (.aload_n 0, 1) := by decide +kernel
theorem dX11_crossing_40 : decode cX11_crossing 40 = .ok (.getfield 29, 3) := by decide +kernel
theorem dX11_crossing_43 : decode cX11_crossing 43 = .ok (.iload_n 2, 1) := by decide +kernel
theorem dX11_crossing_44 : decode cX11_crossing 44 = .ok (.iload_n 3, 1) := by decide +kernel
theorem dX11_crossing_45 : decode cX11_crossing 45 = .ok (.invokevirtual 253, 3) := by decide +kernel
theorem dX11_crossing_48 : decode cX11_crossing 48 = .ok (.aload_n 0, 1) := by decide +kernel
theorem dX11_crossing_49 : decode cX11_crossing 49 = .ok (.getfield 43, 3) := by decide +kernel
theorem dX11_crossing_52 : decode cX11_crossing 52 = .ok (.getfield 295, 3) := by decide +kernel
theorem dX11_crossing_55 : decode cX11_crossing 55 = .ok (.astore 5, 2) := by decide +kernel
theorem dX11_crossing_57 : decode cX11_crossing 57 = .ok (.aload 5, 2) := by decide +kernel
theorem dX11_crossing_59 : decode cX11_crossing 59 = .ok (.aload_n 0, 1) := by decide +kernel
theorem dX11_crossing_60 : decode cX11_crossing 60 = .ok (.getfield 43, 3) := by decide +kernel
theorem dX11_crossing_63 : decode cX11_crossing 63 = .ok (.iload_n 1, 1) := by decide +kernel
theorem dX11_crossing_64 : decode cX11_crossing 64 = .ok (.invokevirtual 257, 3) := by decide +kernel
theorem dX11_crossing_67 : decode cX11_crossing 67 = .ok (.aload_n 0, 1) := by decide +kernel
theorem dX11_crossing_68 : decode cX11_crossing 68 = .ok (.getfield 43, 3) := by decide +kernel
theorem dX11_crossing_71 : decode cX11_crossing 71 = .ok (.iload_n 2, 1) := by decide +kernel
theorem dX11_crossing_72 : decode cX11_crossing 72 = .ok (.invokevirtual 257, 3) := by decide +kernel
theorem dX11_crossing_75 : decode cX11_crossing 75 = .ok (.invokevirtual 299, 3) := by decide +kernel
theorem dX11_crossing_78 : decode cX11_crossing 78 = .ok (.aload 5, 2) := by decide +kernel
theorem dX11_crossing_80 : decode cX11_crossing 80 = .ok (.getfield 305, 3) := by decide +kernel
theorem dX11_crossing_83 : decode cX11_crossing 83 = .ok (.ifCond .ne 6, 3) := by decide +kernel
theorem dX11_crossing_86 : decode cX11_crossing 86 = .ok (.ldc 143, 2) := by decide +kernel
theorem dX11_crossing_88 : decode cX11_crossing 88 = .ok (.ireturn, 1) := by decide +kernel
theorem dX11_crossing_89 : decode cX11_crossing 89 = .ok (.iload 4, 2) := by decide +kernel
theorem dX11_crossing_91 : decode cX11_crossing 91 = .ok (.ifCond .eq 11, 3) := by decide +kernel
theorem dX11_crossing_94 : decode cX11_crossing 94 = .ok (.aload 5, 2) := by decide +kernel
theorem dX11_crossing_96 : decode cX11_crossing 96 = .ok (.getfield 308, 3) := by decide +kernel
theorem dX11_crossing_99 : decode cX11_crossing 99 = .ok (.goto 8, 3) := by decide +kernel
theorem dX11_crossing_102 : decode cX11_crossing 102 = .ok (.aload 5, 2) := by decide +kernel
theorem dX11_crossing_104 : decode cX11_crossing 104 = .ok (.getfield 309, 3) := by decide +kernel
theorem dX11_crossing_107 : decode cX11_crossing 107 = .ok (.ireturn, 1) := by decide +kernel
theorem dX11_hat_0 : decode cX11_hat 0 = .ok (.aload_n 0, 1) := by decide +kernel
theorem dX11_hat_1 : decode cX11_hat 1 = .ok (.iload_n 1, 1) := by decide +kernel
theorem dX11_hat_2 : decode cX11_hat 2 = .ok (.iload_n 2, 1) := by decide +kernel
theorem dX11_hat_3 : decode cX11_hat 3 = .ok (.iload_n 3, 1) := by decide +kernel
theorem dX11_hat_4 : decode cX11_hat 4 = .ok (.invokevirtual 310, 3) := by decide +kernel
theorem dX11_hat_7 : decode cX11_hat 7 = .ok (.iload 4, 2) := by decide +kernel
theorem dX11_hat_9 : decode cX11_hat 9 = .ok (.invokestatic 226, 3) := by decide +kernel
theorem dX11_hat_12 : decode cX11_hat 12 = .ok (.iload 5, 2) := by decide +kernel
theorem dX11_hat_14 : decode cX11_hat 14 = .ok (.ifCond .lt 9, 3) := by decide +kernel
theorem dX11_hat_17 : decode cX11_hat 17 = .ok (.iload 5, 2) := by decide +kernel
theorem dX11_hat_19 : decode cX11_hat 19 = .ok (.iconst 2, 1) := by decide +kernel
theorem dX11_hat_20 : decode cX11_hat 20 = .ok (.if_icmp .le 14, 3) := by decide +kernel
theorem dX11_hat_23 : decode cX11_hat 23 = .ok (.new 80, 3) := by decide +kernel
theorem dX11_hat_26 : decode cX11_hat 26 = .ok (.dup, 1) := by decide +kernel
theorem dX11_hat_27 : decode cX11_hat 27 = .ok (.ldc_w 314, 3) := by decide +kernel
theorem dX11_hat_30 : decode cX11_hat 30 = .ok (.invokespecial 84, 3) := by decide +kernel
theorem dX11_hat_33 : decode cX11_hat 33 = .ok (.athrow, 1) := by decide +kernel
theorem dX11_hat_34 : decode cX11_hat 34 = .ok (.aload_n 0, 1) := by decide +kernel
theorem dX11_hat_35 : decode cX11_hat 35 = .ok (.iload_n 1, 1) := by decide +kernel
theorem dX11_hat_36 : decode cX11_hat 36 = .ok (.iload_n 2, 1) := by decide +kernel
theorem dX11_hat_37 : decode cX11_hat 37 = .ok (.iload_n 3, 1) := by decide +kernel
theorem dX11_hat_38 : decode cX11_hat 38 = .ok (.iload 4, 2) := by decide +kernel
theorem dX11_hat_40 : decode cX11_hat 40 = .ok (.invokevirtual 316, 3) := by decide +kernel
theorem dX11_hat_43 : decode cX11_hat 43 = .ok (.aload_n 0, 1) := by decide +kernel
theorem dX11_hat_44 : decode cX11_hat 44 = .ok (.getfield 43, 3) := by decide +kernel
theorem dX11_hat_47 : decode cX11_hat 47 = .ok (.getfield 320, 3) := by decide +kernel
theorem dX11_hat_50 : decode cX11_hat 50 = .ok (.getfield 324, 3) := by decide +kernel
theorem dX11_hat_53 : decode cX11_hat 53 = .ok (.ifCond .ne 6, 3) := by decide +kernel
theorem dX11_hat_56 : decode cX11_hat 56 = .ok (.ldc 143, 2) := by decide +kernel
theorem dX11_hat_58 : decode cX11_hat 58 = .ok (.ireturn, 1) := by decide +kernel
theorem dX11_hat_59 : decode cX11_hat 59 = .ok (.iload 5, 2) := by decide +kernel
theorem dX11_hat_61 : decode cX11_hat 61 = .ok (.ifCond .ne 14, 3) := by decide +kernel
theorem dX11_hat_64 : decode cX11_hat 64 = .ok (.aload_n 0, 1) := by decide +kernel
theorem dX11_hat_65 : decode cX11_hat 65 = .ok (.getfield 43, 3) := by decide +kernel
theorem dX11_hat_68 : decode cX11_hat 68 = .ok (.getfield 320, 3) := by decide +kernel
theorem dX11_hat_71 : decode cX11_hat 71 = .ok (.invokevirtual 327, 3) := by decide +kernel
theorem dX11_hat_74 : decode cX11_hat 74 = .ok (.ireturn, 1) := by decide +kernel
theorem dX11_hat_75 : decode cX11_hat 75 = .ok (.iload 5, 2) := by decide +kernel
theorem dX11_hat_77 : decode cX11_hat 77 = .ok (.iconst 1, 1) := by decide +kernel
theorem dX11_hat_78 : decode cX11_hat 78 = .ok (.if_icmp .ne 16, 3) := by decide +kernel
theorem dX11_hat_81 : decode cX11_hat 81 = .ok (.aload_n 0, 1) := by decide +kernel
theorem dX11_hat_82 : decode cX11_hat 82 = .ok (.getfield 43, 3) := by decide +kernel
theorem dX11_hat_85 : decode cX11_hat 85 = .ok (.getfield 320, 3) := by decide +kernel
theorem dX11_hat_88 : decode cX11_hat 88 = .ok (.invokevirtual 331, 3) := by decide +kernel
theorem dX11_hat_91 : decode cX11_hat 91 = .ok (.goto 13, 3) := by decide +kernel
theorem dX11_hat_94 : decode cX11_hat 94 = .ok (.aload_n 0, 1) := by decide +kernel
theorem dX11_hat_95 : decode cX11_hat 95 = .ok (.getfield 43, 3) := by decide +kernel
theorem dX11_hat_98 : decode cX11_hat 98 = .ok (.getfield 320, 3) := by decide +kernel
theorem dX11_hat_101 : decode cX11_hat 101 = .ok (.invokevirtual 334, 3) := by decide +kernel
theorem dX11_hat_104 : decode cX11_hat 104 = .ok (.ireturn, 1) := by decide +kernel
theorem dX11_smallestHat_0 : decode cX11_smallestHat 0 = .ok (.iload_n 1, 1) := by decide +kernel
theorem dX11_smallestHat_1 : decode cX11_smallestHat 1 = .ok (.invokestatic 226, 3) := by decide +kernel
theorem dX11_smallestHat_4 : decode cX11_smallestHat 4 = .ok (.aload_n 0, 1) := by decide +kernel
theorem dX11_smallestHat_5 : decode cX11_smallestHat 5 = .ok (.getfield 43, 3) := by decide +kernel
theorem dX11_smallestHat_8 : decode cX11_smallestHat 8 = .ok (.aload_n 0, 1) := by decide +kernel
theorem dX11_smallestHat_9 : decode cX11_smallestHat 9 = .ok (.getfield 25, 3) := by decide +kernel
theorem dX11_smallestHat_12 : decode cX11_smallestHat 12 = .ok (.aload_n 0, 1) := by decide +kernel
theorem dX11_smallestHat_13 : decode cX11_smallestHat 13 = .ok (.getfield 29, 3) := by decide +kernel
theorem dX11_smallestHat_16 : decode cX11_smallestHat 16 = .ok (.iload_n 1, 1) := by decide +kernel
theorem dX11_smallestHat_17 : decode cX11_smallestHat 17 = .ok (.invokevirtual 118, 3) := by decide +kernel
theorem dX11_smallestHat_20 : decode cX11_smallestHat 20 = .ok (.aload_n 0, 1) := by decide +kernel
theorem dX11_smallestHat_21 : decode cX11_smallestHat 21 = .ok (.getfield 43, 3) := by decide +kernel
theorem dX11_smallestHat_24 : decode cX11_smallestHat 24 = .ok (.aload_n 0, 1) := by decide +kernel
theorem dX11_smallestHat_25 : decode cX11_smallestHat 25 = .ok (.getfield 29, 3) := by decide +kernel
theorem dX11_smallestHat_28 : decode cX11_smallestHat 28 = .ok (.getfield 112, 3) := by decide +kernel
theorem dX11_smallestHat_31 : decode cX11_smallestHat 31 = .ok (.invokevirtual 337, 3) := by decide +kernel
theorem dX11_smallestHat_34 : decode cX11_smallestHat 34 = .ok (.ireturn, 1) := by decide +kernel
theorem dX11_isInside_0 : decode cX11_isInside 0 = .ok (.aload_n 0, 1) := by decide +kernel
theorem dX11_isInside_1 : decode cX11_isInside 1 = .ok (.iload_n 1, 1) := by decide +kernel
theorem dX11_isInside_2 : decode cX11_isInside 2 = .ok (.iload_n 2, 1) := by decide +kernel
theorem dX11_isInside_3 : decode cX11_isInside 3 = .ok (.iload_n 3, 1) := by decide +kernel
theorem dX11_isInside_4 : decode cX11_isInside 4 = .ok (.invokevirtual 310, 3) := by decide +kernel
theorem dX11_isInside_7 : decode cX11_isInside 7 = .ok (.iload 4, 2) := by decide +kernel
theorem dX11_isInside_9 : decode cX11_isInside 9 = .ok (.invokestatic 226, 3) := by decide +kernel
theorem dX11_isInside_12 : decode cX11_isInside 12 = .ok (.iload 5, 2) := by decide +kernel
theorem dX11_isInside_14 : decode cX11_isInside 14 = .ok (.ldc 155, 2) := by decide +kernel
theorem dX11_isInside_16 : decode cX11_isInside 16 = .ok (.if_icmp .lt 24, 3) := by decide +kernel
theorem dX11_isInside_19 : decode cX11_isInside 19 = .ok (.iload 5, 2) := by decide +kernel
theorem dX11_isInside_21 : decode cX11_isInside 21 = .ok (.ldc 156, 2) := by decide +kernel
theorem dX11_isInside_23 : decode cX11_isInside 23 = .ok (.if_icmp .gt 17, 3) := by decide +kernel
theorem dX11_isInside_26 : decode cX11_isInside 26 = .ok (.iload 6, 2) := by decide +kernel
theorem dX11_isInside_28 : decode cX11_isInside 28 = .ok (.ldc 155, 2) := by decide +kernel
theorem dX11_isInside_30 : decode cX11_isInside 30 = .ok (.if_icmp .lt 10, 3) := by decide +kernel
theorem dX11_isInside_33 : decode cX11_isInside 33 = .ok (.iload 6, 2) := by decide +kernel
theorem dX11_isInside_35 : decode cX11_isInside 35 = .ok (.ldc 156, 2) := by decide +kernel
theorem dX11_isInside_37 : decode cX11_isInside 37 = .ok (.if_icmp .le 14, 3) := by decide +kernel
theorem dX11_isInside_40 : decode cX11_isInside 40 = .ok (.new 80, 3) := by decide +kernel
theorem dX11_isInside_43 : decode cX11_isInside 43 = .ok (.dup, 1) := by decide +kernel
theorem dX11_isInside_44 : decode cX11_isInside 44 = .ok (.ldc_w 340, 3) := by decide +kernel
theorem dX11_isInside_47 : decode cX11_isInside 47 = .ok (.invokespecial 84, 3) := by decide +kernel
theorem dX11_isInside_50 : decode cX11_isInside 50 = .ok (.athrow, 1) := by decide +kernel
theorem dX11_isInside_51 : decode cX11_isInside 51 = .ok (.aload_n 0, 1) := by decide +kernel
theorem dX11_isInside_52 : decode cX11_isInside 52 = .ok (.iload_n 1, 1) := by decide +kernel
theorem dX11_isInside_53 : decode cX11_isInside 53 = .ok (.iload_n 2, 1) := by decide +kernel
theorem dX11_isInside_54 : decode cX11_isInside 54 = .ok (.iload_n 3, 1) := by decide +kernel
theorem dX11_isInside_55 : decode cX11_isInside 55 = .ok (.iload 4, 2) := by decide +kernel
theorem dX11_isInside_57 : decode cX11_isInside 57 = .ok (.invokevirtual 316, 3) := by decide +kernel
theorem dX11_isInside_60 : decode cX11_isInside 60 = .ok (.aload_n 0, 1) := by decide +kernel
theorem dX11_isInside_61 : decode cX11_isInside 61 = .ok (.getfield 43, 3) := by decide +kernel
theorem dX11_isInside_64 : decode cX11_isInside 64 = .ok (.getfield 320, 3) := by decide +kernel
theorem dX11_isInside_67 : decode cX11_isInside 67 = .ok (.getfield 324, 3) := by decide +kernel
theorem dX11_isInside_70 : decode cX11_isInside 70 = .ok (.ifCond .eq 24, 3) := by decide +kernel
theorem dX11_isInside_73 : decode cX11_isInside 73 = .ok (.aload_n 0, 1) := by decide +kernel
theorem dX11_isInside_74 : decode cX11_isInside 74 = .ok (.getfield 43, 3) := by decide +kernel
theorem dX11_isInside_77 : decode cX11_isInside 77 = .ok (.getfield 320, 3) := by decide +kernel
theorem dX11_isInside_80 : decode cX11_isInside 80 = .ok (.iload 5, 2) := by decide +kernel
theorem dX11_isInside_82 : decode cX11_isInside 82 = .ok (.iload 6, 2) := by decide +kernel
theorem dX11_isInside_84 : decode cX11_isInside 84 = .ok (.invokevirtual 342, 3) := by decide +kernel
theorem dX11_isInside_87 : decode cX11_isInside 87 = .ok (.ifCond .eq 7, 3) := by decide +kernel
theorem dX11_isInside_90 : decode cX11_isInside 90 = .ok (.iconst 1, 1) := by decide +kernel
theorem dX11_isInside_91 : decode cX11_isInside 91 = .ok (.goto 4, 3) := by decide +kernel
theorem dX11_isInside_94 : decode cX11_isInside 94 = .ok (.iconst 0, 1) := by decide +kernel
theorem dX11_isInside_95 : decode cX11_isInside 95 = .ok (.ireturn, 1) := by decide +kernel
theorem dX11_fix_0 : decode cX11_fix 0 = .ok (.iload_n 1, 1) := by decide +kernel
theorem dX11_fix_1 : decode cX11_fix 1 = .ok (.invokestatic 226, 3) := by decide +kernel
theorem dX11_fix_4 : decode cX11_fix 4 = .ok (.aload_n 0, 1) := by decide +kernel
theorem dX11_fix_5 : decode cX11_fix 5 = .ok (.getfield 43, 3) := by decide +kernel
theorem dX11_fix_8 : decode cX11_fix 8 = .ok (.aload_n 0, 1) := by decide +kernel
theorem dX11_fix_9 : decode cX11_fix 9 = .ok (.getfield 25, 3) := by decide +kernel
theorem dX11_fix_12 : decode cX11_fix 12 = .ok (.aload_n 0, 1) := by decide +kernel
theorem dX11_fix_13 : decode cX11_fix 13 = .ok (.getfield 29, 3) := by decide +kernel
theorem dX11_fix_16 : decode cX11_fix 16 = .ok (.iload_n 1, 1) := by decide +kernel
theorem dX11_fix_17 : decode cX11_fix 17 = .ok (.invokevirtual 346, 3) := by decide +kernel
theorem dX11_fix_20 : decode cX11_fix 20 = .ok (.ifCond .ne 6, 3) := by decide +kernel
theorem dX11_fix_23 : decode cX11_fix 23 = .ok (.ldc 143, 2) := by decide +kernel
theorem dX11_fix_25 : decode cX11_fix 25 = .ok (.ireturn, 1) := by decide +kernel
theorem dX11_fix_26 : decode cX11_fix 26 = .ok (.iload_n 2, 1) := by decide +kernel
theorem dX11_fix_27 : decode cX11_fix 27 = .ok (.ifCond .eq 16, 3) := by decide +kernel
theorem dX11_fix_30 : decode cX11_fix 30 = .ok (.aload_n 0, 1) := by decide +kernel
theorem dX11_fix_31 : decode cX11_fix 31 = .ok (.getfield 43, 3) := by decide +kernel
theorem dX11_fix_34 : decode cX11_fix 34 = .ok (.getfield 350, 3) := by decide +kernel
theorem dX11_fix_37 : decode cX11_fix 37 = .ok (.getfield 308, 3) := by decide +kernel
theorem dX11_fix_40 : decode cX11_fix 40 = .ok (.goto 13, 3) := by decide +kernel
theorem dX11_fix_43 : decode cX11_fix 43 = .ok (.aload_n 0, 1) := by decide +kernel
theorem dX11_fix_44 : decode cX11_fix 44 = .ok (.getfield 43, 3) := by decide +kernel
theorem dX11_fix_47 : decode cX11_fix 47 = .ok (.getfield 350, 3) := by decide +kernel
theorem dX11_fix_50 : decode cX11_fix 50 = .ok (.getfield 309, 3) := by decide +kernel
theorem dX11_fix_53 : decode cX11_fix 53 = .ok (.ireturn, 1) := by decide +kernel
theorem dX11_residual_0 : decode cX11_residual 0 = .ok (.aload_n 0, 1) := by decide +kernel
theorem dX11_residual_1 : decode cX11_residual 1 = .ok (.iload_n 1, 1) := by decide +kernel
theorem dX11_residual_2 : decode cX11_residual 2 = .ok (.invokevirtual 250, 3) := by decide +kernel
theorem dX11_residual_5 : decode cX11_residual 5 = .ok (.iload_n 2, 1) := by decide +kernel
theorem dX11_residual_6 : decode cX11_residual 6 = .ok (.invokestatic 226, 3) := by decide +kernel
theorem dX11_residual_9 : decode cX11_residual 9 = .ok (.aload_n 0, 1) := by decide +kernel
theorem dX11_residual_10 : decode cX11_residual 10 = .ok (.getfield 43, 3) := by decide +kernel
theorem dX11_residual_13 : decode cX11_residual 13 = .ok (.aload_n 0, 1) := by decide +kernel
theorem dX11_residual_14 : decode cX11_residual 14 = .ok (.getfield 25, 3) := by decide +kernel
theorem dX11_residual_17 : decode cX11_residual 17 = .ok (.aload_n 0, 1) := by decide +kernel
theorem dX11_residual_18 : decode cX11_residual 18 = .ok (.getfield 29, 3) := by decide +kernel
theorem dX11_residual_21 : decode cX11_residual 21 = .ok (.iload_n 2, 1) := by decide +kernel
theorem dX11_residual_22 : decode cX11_residual 22 = .ok (.invokevirtual 346, 3) := by decide +kernel
theorem dX11_residual_25 : decode cX11_residual 25 = .ok (.ifCond .ne 6, 3) := by decide +kernel
theorem dX11_residual_28 : decode cX11_residual 28 = .ok (.ldc 143, 2) := by decide +kernel
theorem dX11_residual_30 : decode cX11_residual 30 = .ok (.ireturn, 1) := by decide +kernel
theorem dX11_residual_31 : decode cX11_residual 31 = .ok (.aload_n 0, 1) := by decide +kernel
theorem dX11_residual_32 : decode cX11_residual 32 = .ok (.getfield 43, 3) := by decide +kernel
theorem dX11_residual_35 : decode cX11_residual 35 = .ok (.iload_n 1, 1) := by decide +kernel
theorem dX11_residual_36 : decode cX11_residual 36 = .ok (.invokevirtual 257, 3) := by decide +kernel
theorem dX11_residual_39 : decode cX11_residual 39 = .ok (.aload_n 0, 1) := by decide +kernel
theorem dX11_residual_40 : decode cX11_residual 40 = .ok (.getfield 43, 3) := by decide +kernel
theorem dX11_residual_43 : decode cX11_residual 43 = .ok (.getfield 350, 3) := by decide +kernel
theorem dX11_residual_46 : decode cX11_residual 46 = .ok (.invokevirtual 353, 3) := by decide +kernel
theorem dX11_residual_49 : decode cX11_residual 49 = .ok (.ireturn, 1) := by decide +kernel
theorem dX11_worst_0 : decode cX11_worst 0 = .ok (.iload_n 1, 1) := by decide +kernel
theorem dX11_worst_1 : decode cX11_worst 1 = .ok (.invokestatic 226, 3) := by decide +kernel
theorem dX11_worst_4 : decode cX11_worst 4 = .ok (.aload_n 0, 1) := by decide +kernel
theorem dX11_worst_5 : decode cX11_worst 5 = .ok (.getfield 43, 3) := by decide +kernel
theorem dX11_worst_8 : decode cX11_worst 8 = .ok (.aload_n 0, 1) := by decide +kernel
theorem dX11_worst_9 : decode cX11_worst 9 = .ok (.getfield 25, 3) := by decide +kernel
theorem dX11_worst_12 : decode cX11_worst 12 = .ok (.aload_n 0, 1) := by decide +kernel
theorem dX11_worst_13 : decode cX11_worst 13 = .ok (.getfield 29, 3) := by decide +kernel
theorem dX11_worst_16 : decode cX11_worst 16 = .ok (.iload_n 1, 1) := by decide +kernel
theorem dX11_worst_17 : decode cX11_worst 17 = .ok (.invokevirtual 346, 3) := by decide +kernel
theorem dX11_worst_20 : decode cX11_worst 20 = .ok (.ifCond .ne 5, 3) := by decide +kernel
theorem dX11_worst_23 : decode cX11_worst 23 = .ok (.iconst (-1), 1) := by decide +kernel
theorem dX11_worst_24 : decode cX11_worst 24 = .ok (.ireturn, 1) := by decide +kernel
theorem dX11_worst_25 : decode cX11_worst 25 = .ok (.iconst (-1), 1) := by decide +kernel
theorem dX11_worst_26 : decode cX11_worst 26 = .ok (.istore_n 2, 1) := by decide +kernel
theorem dX11_worst_27 : decode cX11_worst 27 = .ok (.iconst (-1), 1) := by decide +kernel
theorem dX11_worst_28 : decode cX11_worst 28 = .ok (.istore_n 3, 1) := by decide +kernel
theorem dX11_worst_29 : decode cX11_worst 29 = .ok (.iconst 0, 1) := by decide +kernel
theorem dX11_worst_30 : decode cX11_worst 30 = .ok (.istore 4, 2) := by decide +kernel
theorem dX11_worst_32 : decode cX11_worst 32 = .ok (.iload 4, 2) := by decide +kernel
theorem dX11_worst_34 : decode cX11_worst 34 = .ok (.aload_n 0, 1) := by decide +kernel
theorem dX11_worst_35 : decode cX11_worst 35 = .ok (.getfield 29, 3) := by decide +kernel
theorem dX11_worst_38 : decode cX11_worst 38 = .ok (.getfield 112, 3) := by decide +kernel
theorem dX11_worst_41 : decode cX11_worst 41 = .ok (.if_icmp .ge 45, 3) := by decide +kernel
theorem dX11_worst_44 : decode cX11_worst 44 = .ok (.aload_n 0, 1) := by decide +kernel
theorem dX11_worst_45 : decode cX11_worst 45 = .ok (.getfield 43, 3) := by decide +kernel
theorem dX11_worst_48 : decode cX11_worst 48 = .ok (.iload 4, 2) := by decide +kernel
theorem dX11_worst_50 : decode cX11_worst 50 = .ok (.invokevirtual 257, 3) := by decide +kernel
theorem dX11_worst_53 : decode cX11_worst 53 = .ok (.aload_n 0, 1) := by decide +kernel
theorem dX11_worst_54 : decode cX11_worst 54 = .ok (.getfield 43, 3) := by decide +kernel
theorem dX11_worst_57 : decode cX11_worst 57 = .ok (.getfield 350, 3) := by decide +kernel
theorem dX11_worst_60 : decode cX11_worst 60 = .ok (.invokevirtual 353, 3) := by decide +kernel
theorem dX11_worst_63 : decode cX11_worst 63 = .ok (.invokestatic 357, 3) := by decide +kernel
theorem dX11_worst_66 : decode cX11_worst 66 = .ok (.istore 5, 2) := by decide +kernel
theorem dX11_worst_68 : decode cX11_worst 68 = .ok (.iload 5, 2) := by decide +kernel
theorem dX11_worst_70 : decode cX11_worst 70 = .ok (.iload_n 3, 1) := by decide +kernel
theorem dX11_worst_71 : decode cX11_worst 71 = .ok (.if_icmp .le 9, 3) := by decide +kernel
theorem dX11_worst_74 : decode cX11_worst 74 = .ok (.iload 4, 2) := by decide +kernel
theorem dX11_worst_76 : decode cX11_worst 76 = .ok (.istore_n 2, 1) := by decide +kernel
theorem dX11_worst_77 : decode cX11_worst 77 = .ok (.iload 5, 2) := by decide +kernel
theorem dX11_worst_79 : decode cX11_worst 79 = .ok (.istore_n 3, 1) := by decide +kernel
theorem dX11_worst_80 : decode cX11_worst 80 = .ok (.iinc 4 1, 3) := by decide +kernel
theorem dX11_worst_83 : decode cX11_worst 83 = .ok (.goto (-51), 3) := by decide +kernel
theorem dX11_worst_86 : decode cX11_worst 86 = .ok (.iload_n 2, 1) := by decide +kernel
theorem dX11_worst_87 : decode cX11_worst 87 = .ok (.ireturn, 1) := by decide +kernel
theorem dX11_offCourse_0 : decode cX11_offCourse 0 = .ok (.iload_n 1, 1) := by decide +kernel
theorem dX11_offCourse_1 : decode cX11_offCourse 1 = .ok (.invokestatic 226, 3) := by decide +kernel
theorem dX11_offCourse_4 : decode cX11_offCourse 4 = .ok (.aload_n 0, 1) := by decide +kernel
theorem dX11_offCourse_5 : decode cX11_offCourse 5 = .ok (.getfield 43, 3) := by decide +kernel
theorem dX11_offCourse_8 : decode cX11_offCourse 8 = .ok (.aload_n 0, 1) := by decide +kernel
theorem dX11_offCourse_9 : decode cX11_offCourse 9 = .ok (.getfield 25, 3) := by decide +kernel
theorem dX11_offCourse_12 : decode cX11_offCourse 12 = .ok (.aload_n 0, 1) := by decide +kernel
theorem dX11_offCourse_13 : decode cX11_offCourse 13 = .ok (.getfield 29, 3) := by decide +kernel
theorem dX11_offCourse_16 : decode cX11_offCourse 16 = .ok (.iload_n 1, 1) := by decide +kernel
theorem dX11_offCourse_17 : decode cX11_offCourse 17 = .ok (.invokevirtual 346, 3) := by decide +kernel
theorem dX11_offCourse_20 : decode cX11_offCourse 20 = .ok (.ifCond .eq 13, 3) := by decide +kernel
theorem dX11_offCourse_23 : decode cX11_offCourse 23 = .ok (.aload_n 0, 1) := by decide +kernel
theorem dX11_offCourse_24 : decode cX11_offCourse 24 = .ok (.getfield 43, 3) := by decide +kernel
theorem dX11_offCourse_27 : decode cX11_offCourse 27 = .ok (.invokevirtual 362, 3) := by decide +kernel
theorem dX11_offCourse_30 : decode cX11_offCourse 30 = .ok (.goto 5, 3) := by decide +kernel
theorem dX11_offCourse_33 : decode cX11_offCourse 33 = .ok (.ldc 143, 2) := by decide +kernel
theorem dX11_offCourse_35 : decode cX11_offCourse 35 = .ok (.ireturn, 1) := by decide +kernel
theorem dX11_unknownCurrent_0 : decode cX11_unknownCurrent 0 = .ok (.iload_n 1, 1) := by decide +kernel
theorem dX11_unknownCurrent_1 : decode cX11_unknownCurrent 1 = .ok (.iconst 1, 1) := by decide +kernel
theorem dX11_unknownCurrent_2 : decode cX11_unknownCurrent 2 = .ok (.if_icmp .lt 10, 3) := by decide +kernel
theorem dX11_unknownCurrent_5 : decode cX11_unknownCurrent 5 = .ok (.iload_n 1, 1) := by decide +kernel
theorem dX11_unknownCurrent_6 : decode cX11_unknownCurrent 6 = .ok (.sipush 5000, 3) := by decide +kernel
theorem dX11_unknownCurrent_9 : decode cX11_unknownCurrent 9 = .ok (.if_icmp .le 14, 3) := by decide +kernel
theorem dX11_unknownCurrent_12 : decode cX11_unknownCurrent 12 = .ok (.new 80, 3) := by decide +kernel
theorem dX11_unknownCurrent_15 : decode cX11_unknownCurrent 15 = .ok (.dup, 1) := by decide +kernel
theorem dX11_unknownCurrent_16 : decode cX11_unknownCurrent 16 = .ok (.ldc_w 365, 3) := by decide +kernel
theorem dX11_unknownCurrent_19 : decode cX11_unknownCurrent 19 = .ok (.invokespecial 84, 3) := by decide +kernel
theorem dX11_unknownCurrent_22 : decode cX11_unknownCurrent 22 = .ok (.athrow, 1) := by decide +kernel
theorem dX11_unknownCurrent_23 : decode cX11_unknownCurrent 23 = .ok (.aload_n 0, 1) := by decide +kernel
theorem dX11_unknownCurrent_24 : decode cX11_unknownCurrent 24 = .ok (.getfield 43, 3) := by decide +kernel
theorem dX11_unknownCurrent_27 : decode cX11_unknownCurrent 27 = .ok (.aload_n 0, 1) := by decide +kernel
theorem dX11_unknownCurrent_28 : decode cX11_unknownCurrent 28 = .ok (.getfield 25, 3) := by decide +kernel
theorem dX11_unknownCurrent_31 : decode cX11_unknownCurrent 31 = .ok (.aload_n 0, 1) := by decide +kernel
theorem dX11_unknownCurrent_32 : decode cX11_unknownCurrent 32 = .ok (.getfield 29, 3) := by decide +kernel
theorem dX11_unknownCurrent_35 : decode cX11_unknownCurrent 35 = .ok (.iload_n 1, 1) := by decide +kernel
theorem dX11_unknownCurrent_36 : decode cX11_unknownCurrent 36 = .ok (.invokevirtual 346, 3) := by decide +kernel
theorem dX11_unknownCurrent_39 : decode cX11_unknownCurrent 39 = .ok (.ifCond .ne 6, 3) := by decide +kernel
theorem dX11_unknownCurrent_42 : decode cX11_unknownCurrent 42 = .ok (.ldc 143, 2) := by decide +kernel
theorem dX11_unknownCurrent_44 : decode cX11_unknownCurrent 44 = .ok (.ireturn, 1) := by decide +kernel
theorem dX11_unknownCurrent_45 : decode cX11_unknownCurrent 45 = .ok (.aload_n 0, 1) := by decide +kernel
theorem dX11_unknownCurrent_46 : decode cX11_unknownCurrent 46 = .ok (.getfield 43, 3) := by decide +kernel
theorem dX11_unknownCurrent_49 : decode cX11_unknownCurrent 49 = .ok (.invokevirtual 362, 3) := by decide +kernel
theorem dX11_unknownCurrent_52 : decode cX11_unknownCurrent 52 = .ok (.istore_n 3, 1) := by decide +kernel
theorem dX11_unknownCurrent_53 : decode cX11_unknownCurrent 53 = .ok (.iload_n 2, 1) := by decide +kernel
theorem dX11_unknownCurrent_54 : decode cX11_unknownCurrent 54 = .ok (.ifCond .eq 18, 3) := by decide +kernel
theorem dX11_unknownCurrent_57 : decode cX11_unknownCurrent 57 = .ok (.ldc2_w 367, 3) := by decide +kernel
theorem dX11_unknownCurrent_60 : decode cX11_unknownCurrent 60 = .ok (.iload_n 3, 1) := by decide +kernel
theorem dX11_unknownCurrent_61 : decode cX11_unknownCurrent 61 = .ok (.i2l, 1) := by decide +kernel
theorem dX11_unknownCurrent_62 : decode cX11_unknownCurrent 62 = .ok (.lmul, 1) := by decide +kernel
theorem dX11_unknownCurrent_63 : decode cX11_unknownCurrent 63 = .ok (.iload_n 1, 1) := by decide +kernel
theorem dX11_unknownCurrent_64 : decode cX11_unknownCurrent 64 = .ok (.i2l, 1) := by decide +kernel
theorem dX11_unknownCurrent_65 : decode cX11_unknownCurrent 65 = .ok (.invokestatic 369, 3) := by decide +kernel
theorem dX11_unknownCurrent_68 : decode cX11_unknownCurrent 68 = .ok (.l2i, 1) := by decide +kernel
theorem dX11_unknownCurrent_69 : decode cX11_unknownCurrent 69 = .ok (.goto 11, 3) := by decide +kernel
theorem dX11_unknownCurrent_72 : decode cX11_unknownCurrent 72 = .ok (.aload_n 0, 1) := by decide +kernel
theorem dX11_unknownCurrent_73 : decode cX11_unknownCurrent 73 = .ok (.getfield 43, 3) := by decide +kernel
theorem dX11_unknownCurrent_76 : decode cX11_unknownCurrent 76 = .ok (.iload_n 3, 1) := by decide +kernel
theorem dX11_unknownCurrent_77 : decode cX11_unknownCurrent 77 = .ok (.invokevirtual 373, 3) := by decide +kernel
theorem dX11_unknownCurrent_80 : decode cX11_unknownCurrent 80 = .ok (.ireturn, 1) := by decide +kernel
theorem dX11_meanResidual_0 : decode cX11_meanResidual 0 = .ok (.iload_n 1, 1) := by decide +kernel
theorem dX11_meanResidual_1 : decode cX11_meanResidual 1 = .ok (.invokestatic 226, 3) := by decide +kernel
theorem dX11_meanResidual_4 : decode cX11_meanResidual 4 = .ok (.aload_n 0, 1) := by decide +kernel
theorem dX11_meanResidual_5 : decode cX11_meanResidual 5 = .ok (.getfield 29, 3) := by decide +kernel
theorem dX11_meanResidual_8 : decode cX11_meanResidual 8 = .ok (.getfield 112, 3) := by decide +kernel
theorem dX11_meanResidual_11 : decode cX11_meanResidual 11 = .ok (.ifCond .eq 22, 3) := by decide +kernel
theorem dX11_meanResidual_14 : decode cX11_meanResidual 14 = .ok (.aload_n 0, 1) := by decide +kernel
theorem dX11_meanResidual_15 : decode cX11_meanResidual 15 = .ok (.getfield 43, 3) := by decide +kernel
theorem dX11_meanResidual_18 : decode cX11_meanResidual 18 = .ok (.aload_n 0, 1) := by decide +kernel
theorem dX11_meanResidual_19 : decode cX11_meanResidual 19 = .ok (.getfield 25, 3) := by decide +kernel
theorem dX11_meanResidual_22 : decode cX11_meanResidual 22 = .ok (.aload_n 0, 1) := by decide +kernel
theorem dX11_meanResidual_23 : decode cX11_meanResidual 23 = .ok (.getfield 29, 3) := by decide +kernel
theorem dX11_meanResidual_26 : decode cX11_meanResidual 26 = .ok (.iload_n 1, 1) := by decide +kernel
theorem dX11_meanResidual_27 : decode cX11_meanResidual 27 = .ok (.invokevirtual 346, 3) := by decide +kernel
theorem dX11_meanResidual_30 : decode cX11_meanResidual 30 = .ok (.ifCond .ne 5, 3) := by decide +kernel
theorem dX11_meanResidual_33 : decode cX11_meanResidual 33 = .ok (.dconst 0, 1) := by decide +kernel
theorem dX11_meanResidual_34 : decode cX11_meanResidual 34 = .ok (.dreturn, 1) := by decide +kernel
theorem dX11_meanResidual_35 : decode cX11_meanResidual 35 = .ok (.lconst 0, 1) := by decide +kernel
theorem dX11_meanResidual_36 : decode cX11_meanResidual 36 = .ok (.lstore_n 2, 1) := by decide +kernel
theorem dX11_meanResidual_37 : decode cX11_meanResidual 37 = .ok (.iconst 0, 1) := by decide +kernel
theorem dX11_meanResidual_38 : decode cX11_meanResidual 38 = .ok (.istore 4, 2) := by decide +kernel
theorem dX11_meanResidual_40 : decode cX11_meanResidual 40 = .ok (.iload 4, 2) := by decide +kernel
theorem dX11_meanResidual_42 : decode cX11_meanResidual 42 = .ok (.aload_n 0, 1) := by decide +kernel
theorem dX11_meanResidual_43 : decode cX11_meanResidual 43 = .ok (.getfield 29, 3) := by decide +kernel
theorem dX11_meanResidual_46 : decode cX11_meanResidual 46 = .ok (.getfield 112, 3) := by decide +kernel
theorem dX11_meanResidual_49 : decode cX11_meanResidual 49 = .ok (.if_icmp .ge 35, 3) := by decide +kernel
theorem dX11_meanResidual_52 : decode cX11_meanResidual 52 = .ok (.lload_n 2, 1) := by decide +kernel
theorem dX11_meanResidual_53 : decode cX11_meanResidual 53 = .ok (.aload_n 0, 1) := by decide +kernel
theorem dX11_meanResidual_54 : decode cX11_meanResidual 54 = .ok (.getfield 43, 3) := by decide +kernel
theorem dX11_meanResidual_57 : decode cX11_meanResidual 57 = .ok (.iload 4, 2) := by decide +kernel
theorem dX11_meanResidual_59 : decode cX11_meanResidual 59 = .ok (.invokevirtual 257, 3) := by decide +kernel
theorem dX11_meanResidual_62 : decode cX11_meanResidual 62 = .ok (.aload_n 0, 1) := by decide +kernel
theorem dX11_meanResidual_63 : decode cX11_meanResidual 63 = .ok (.getfield 43, 3) := by decide +kernel
theorem dX11_meanResidual_66 : decode cX11_meanResidual 66 = .ok (.getfield 350, 3) := by decide +kernel
theorem dX11_meanResidual_69 : decode cX11_meanResidual 69 = .ok (.invokevirtual 353, 3) := by decide +kernel
theorem dX11_meanResidual_72 : decode cX11_meanResidual 72 = .ok (.invokestatic 357, 3) := by decide +kernel
theorem dX11_meanResidual_75 : decode cX11_meanResidual 75 = .ok (.i2l, 1) := by decide +kernel
theorem dX11_meanResidual_76 : decode cX11_meanResidual 76 = .ok (.ladd, 1) := by decide +kernel
theorem dX11_meanResidual_77 : decode cX11_meanResidual 77 = .ok (.lstore_n 2, 1) := by decide +kernel
theorem dX11_meanResidual_78 : decode cX11_meanResidual 78 = .ok (.iinc 4 1, 3) := by decide +kernel
theorem dX11_meanResidual_81 : decode cX11_meanResidual 81 = .ok (.goto (-41), 3) := by decide +kernel
theorem dX11_meanResidual_84 : decode cX11_meanResidual 84 = .ok (.lload_n 2, 1) := by decide +kernel
theorem dX11_meanResidual_85 : decode cX11_meanResidual 85 = .ok (.l2d, 1) := by decide +kernel
theorem dX11_meanResidual_86 : decode cX11_meanResidual 86 = .ok (.aload_n 0, 1) := by decide +kernel
theorem dX11_meanResidual_87 : decode cX11_meanResidual 87 = .ok (.getfield 29, 3) := by decide +kernel
theorem dX11_meanResidual_90 : decode cX11_meanResidual 90 = .ok (.getfield 112, 3) := by decide +kernel
theorem dX11_meanResidual_93 : decode cX11_meanResidual 93 = .ok (.i2d, 1) := by decide +kernel
theorem dX11_meanResidual_94 : decode cX11_meanResidual 94 = .ok (.ddiv, 1) := by decide +kernel
theorem dX11_meanResidual_95 : decode cX11_meanResidual 95 = .ok (.dreturn, 1) := by decide +kernel
theorem dX11_meanIntercept_0 : decode cX11_meanIntercept 0 = .ok (.aload_n 0, 1) := by decide +kernel
theorem dX11_meanIntercept_1 : decode cX11_meanIntercept 1 = .ok (.getfield 29, 3) := by decide +kernel
theorem dX11_meanIntercept_4 : decode cX11_meanIntercept 4 = .ok (.getfield 112, 3) := by decide +kernel
theorem dX11_meanIntercept_7 : decode cX11_meanIntercept 7 = .ok (.ifCond .ne 5, 3) := by decide +kernel
theorem dX11_meanIntercept_10 : decode cX11_meanIntercept 10 = .ok (.fconst 0, 1) := by decide +kernel
theorem dX11_meanIntercept_11 : decode cX11_meanIntercept 11 = .ok (.freturn, 1) := by decide +kernel
theorem dX11_meanIntercept_12 : decode cX11_meanIntercept 12 = .ok (.aload_n 0, 1) := by decide +kernel
theorem dX11_meanIntercept_13 : decode cX11_meanIntercept 13 = .ok (.getfield 43, 3) := by decide +kernel
theorem dX11_meanIntercept_16 : decode cX11_meanIntercept 16 = .ok (.aload_n 0, 1) := by decide +kernel
theorem dX11_meanIntercept_17 : decode cX11_meanIntercept 17 = .ok (.getfield 25, 3) := by decide +kernel
theorem dX11_meanIntercept_20 : decode cX11_meanIntercept 20 = .ok (.aload_n 0, 1) := by decide +kernel
theorem dX11_meanIntercept_21 : decode cX11_meanIntercept 21 = .ok (.getfield 29, 3) := by decide +kernel
theorem dX11_meanIntercept_24 : decode cX11_meanIntercept 24 = .ok (.iconst 0, 1) := by decide +kernel
theorem dX11_meanIntercept_25 : decode cX11_meanIntercept 25 = .ok (.invokevirtual 118, 3) := by decide +kernel
theorem dX11_meanIntercept_28 : decode cX11_meanIntercept 28 = .ok (.iconst 0, 1) := by decide +kernel
theorem dX11_meanIntercept_29 : decode cX11_meanIntercept 29 = .ok (.istore_n 1, 1) := by decide +kernel
theorem dX11_meanIntercept_30 : decode cX11_meanIntercept 30 = .ok (.iconst 0, 1) := by decide +kernel
theorem dX11_meanIntercept_31 : decode cX11_meanIntercept 31 = .ok (.istore_n 2, 1) := by decide +kernel
theorem dX11_meanIntercept_32 : decode cX11_meanIntercept 32 = .ok (.iload_n 2, 1) := by decide +kernel
theorem dX11_meanIntercept_33 : decode cX11_meanIntercept 33 = .ok (.aload_n 0, 1) := by decide +kernel
theorem dX11_meanIntercept_34 : decode cX11_meanIntercept 34 = .ok (.getfield 29, 3) := by decide +kernel
theorem dX11_meanIntercept_37 : decode cX11_meanIntercept 37 = .ok (.getfield 112, 3) := by decide +kernel
theorem dX11_meanIntercept_40 : decode cX11_meanIntercept 40 = .ok (.if_icmp .ge 23, 3) := by decide +kernel
theorem dX11_meanIntercept_43 : decode cX11_meanIntercept 43 = .ok (.iload_n 1, 1) := by decide +kernel
theorem dX11_meanIntercept_44 : decode cX11_meanIntercept 44 = .ok (.aload_n 0, 1) := by decide +kernel
theorem dX11_meanIntercept_45 : decode cX11_meanIntercept 45 = .ok (.getfield 43, 3) := by decide +kernel
theorem dX11_meanIntercept_48 : decode cX11_meanIntercept 48 = .ok (.iload_n 2, 1) := by decide +kernel
theorem dX11_meanIntercept_49 : decode cX11_meanIntercept 49 = .ok (.invokevirtual 257, 3) := by decide +kernel
theorem dX11_meanIntercept_52 : decode cX11_meanIntercept 52 = .ok (.getfield 284, 3) := by decide +kernel
theorem dX11_meanIntercept_55 : decode cX11_meanIntercept 55 = .ok (.iadd, 1) := by decide +kernel
theorem dX11_meanIntercept_56 : decode cX11_meanIntercept 56 = .ok (.istore_n 1, 1) := by decide +kernel
theorem dX11_meanIntercept_57 : decode cX11_meanIntercept 57 = .ok (.iinc 2 1, 3) := by decide +kernel
theorem dX11_meanIntercept_60 : decode cX11_meanIntercept 60 = .ok (.goto (-28), 3) := by decide +kernel
theorem dX11_meanIntercept_63 : decode cX11_meanIntercept 63 = .ok (.iload_n 1, 1) := by decide +kernel
theorem dX11_meanIntercept_64 : decode cX11_meanIntercept 64 = .ok (.i2f, 1) := by decide +kernel
theorem dX11_meanIntercept_65 : decode cX11_meanIntercept 65 = .ok (.aload_n 0, 1) := by decide +kernel
theorem dX11_meanIntercept_66 : decode cX11_meanIntercept 66 = .ok (.getfield 29, 3) := by decide +kernel
theorem dX11_meanIntercept_69 : decode cX11_meanIntercept 69 = .ok (.getfield 112, 3) := by decide +kernel
theorem dX11_meanIntercept_72 : decode cX11_meanIntercept 72 = .ok (.i2f, 1) := by decide +kernel
theorem dX11_meanIntercept_73 : decode cX11_meanIntercept 73 = .ok (.fdiv, 1) := by decide +kernel
theorem dX11_meanIntercept_74 : decode cX11_meanIntercept 74 = .ok (.freturn, 1) := by decide +kernel
theorem dX11_observe_0 : decode cX11_observe 0 = .ok (.aload_n 0, 1) := by decide +kernel
theorem dX11_observe_1 : decode cX11_observe 1 = .ok (.iload_n 1, 1) := by decide +kernel
theorem dX11_observe_2 : decode cX11_observe 2 = .ok (.invokevirtual 191, 3) := by decide +kernel
theorem dX11_observe_5 : decode cX11_observe 5 = .ok (.iload_n 2, 1) := by decide +kernel
theorem dX11_observe_6 : decode cX11_observe 6 = .ok (.invokestatic 226, 3) := by decide +kernel
theorem dX11_observe_9 : decode cX11_observe 9 = .ok (.iload_n 3, 1) := by decide +kernel
theorem dX11_observe_10 : decode cX11_observe 10 = .ok (.sipush 300, 3) := by decide +kernel
theorem dX11_observe_13 : decode cX11_observe 13 = .ok (.if_icmp .lt 10, 3) := by decide +kernel
theorem dX11_observe_16 : decode cX11_observe 16 = .ok (.iload_n 3, 1) := by decide +kernel
theorem dX11_observe_17 : decode cX11_observe 17 = .ok (.sipush 5100, 3) := by decide +kernel
theorem dX11_observe_20 : decode cX11_observe 20 = .ok (.if_icmp .le 14, 3) := by decide +kernel
theorem dX11_observe_23 : decode cX11_observe 23 = .ok (.new 80, 3) := by decide +kernel
theorem dX11_observe_26 : decode cX11_observe 26 = .ok (.dup, 1) := by decide +kernel
theorem dX11_observe_27 : decode cX11_observe 27 = .ok (.ldc_w 376, 3) := by decide +kernel
theorem dX11_observe_30 : decode cX11_observe 30 = .ok (.invokespecial 84, 3) := by decide +kernel
theorem dX11_observe_33 : decode cX11_observe 33 = .ok (.athrow, 1) := by decide +kernel
theorem dX11_observe_34 : decode cX11_observe 34 = .ok (.aload_n 0, 1) := by decide +kernel
theorem dX11_observe_35 : decode cX11_observe 35 = .ok (.getfield 29, 3) := by decide +kernel
theorem dX11_observe_38 : decode cX11_observe 38 = .ok (.getfield 112, 3) := by decide +kernel
theorem dX11_observe_41 : decode cX11_observe 41 = .ok (.bipush 12, 2) := by decide +kernel
theorem dX11_observe_43 : decode cX11_observe 43 = .ok (.if_icmp .lt 6, 3) := by decide +kernel
theorem dX11_observe_46 : decode cX11_observe 46 = .ok (.bipush (-2), 2) := by decide +kernel
theorem dX11_observe_48 : decode cX11_observe 48 = .ok (.ireturn, 1) := by decide +kernel
theorem dX11_observe_49 : decode cX11_observe 49 = .ok (.aload_n 0, 1) := by decide +kernel
theorem dX11_observe_50 : decode cX11_observe 50 = .ok (.getfield 39, 3) := by decide +kernel
theorem dX11_observe_53 : decode cX11_observe 53 = .ok (.aload_n 0, 1) := by decide +kernel
theorem dX11_observe_54 : decode cX11_observe 54 = .ok (.getfield 29, 3) := by decide +kernel
theorem dX11_observe_57 : decode cX11_observe 57 = .ok (.invokevirtual 378, 3) := by decide +kernel
theorem dX11_observe_60 : decode cX11_observe 60 = .ok (.aload_n 0, 1) := by decide +kernel
theorem dX11_observe_61 : decode cX11_observe 61 = .ok (.getfield 29, 3) := by decide +kernel
theorem dX11_observe_64 : decode cX11_observe 64 = .ok (.iload_n 1, 1) := by decide +kernel
theorem dX11_observe_65 : decode cX11_observe 65 = .ok (.iload_n 2, 1) := by decide +kernel
theorem dX11_observe_66 : decode cX11_observe 66 = .ok (.iload_n 3, 1) := by decide +kernel
theorem dX11_observe_67 : decode cX11_observe 67 = .ok (.invokevirtual 381, 3) := by decide +kernel
theorem dX11_observe_70 : decode cX11_observe 70 = .ok (.aload_n 0, 1) := by decide +kernel
theorem dX11_observe_71 : decode cX11_observe 71 = .ok (.getfield 29, 3) := by decide +kernel
theorem dX11_observe_74 : decode cX11_observe 74 = .ok (.getfield 112, 3) := by decide +kernel
theorem dX11_observe_77 : decode cX11_observe 77 = .ok (.iconst 1, 1) := by decide +kernel
theorem dX11_observe_78 : decode cX11_observe 78 = .ok (.isub, 1) := by decide +kernel
theorem dX11_observe_79 : decode cX11_observe 79 = .ok (.ireturn, 1) := by decide +kernel
theorem dX11_drop_0 : decode cX11_drop 0 = .ok (.aload_n 0, 1) := by decide +kernel
theorem dX11_drop_1 : decode cX11_drop 1 = .ok (.iload_n 1, 1) := by decide +kernel
theorem dX11_drop_2 : decode cX11_drop 2 = .ok (.invokevirtual 250, 3) := by decide +kernel
theorem dX11_drop_5 : decode cX11_drop 5 = .ok (.aload_n 0, 1) := by decide +kernel
theorem dX11_drop_6 : decode cX11_drop 6 = .ok (.getfield 39, 3) := by decide +kernel
theorem dX11_drop_9 : decode cX11_drop 9 = .ok (.aload_n 0, 1) := by decide +kernel
theorem dX11_drop_10 : decode cX11_drop 10 = .ok (.getfield 29, 3) := by decide +kernel
theorem dX11_drop_13 : decode cX11_drop 13 = .ok (.invokevirtual 378, 3) := by decide +kernel
theorem dX11_drop_16 : decode cX11_drop 16 = .ok (.aload_n 0, 1) := by decide +kernel
theorem dX11_drop_17 : decode cX11_drop 17 = .ok (.getfield 29, 3) := by decide +kernel
theorem dX11_drop_20 : decode cX11_drop 20 = .ok (.iload_n 1, 1) := by decide +kernel
theorem dX11_drop_21 : decode cX11_drop 21 = .ok (.invokevirtual 384, 3) := by decide +kernel
theorem dX11_drop_24 : decode cX11_drop 24 = .ok (.aload_n 0, 1) := by decide +kernel
theorem dX11_drop_25 : decode cX11_drop 25 = .ok (.getfield 29, 3) := by decide +kernel
theorem dX11_drop_28 : decode cX11_drop 28 = .ok (.getfield 112, 3) := by decide +kernel
theorem dX11_drop_31 : decode cX11_drop 31 = .ok (.ireturn, 1) := by decide +kernel
theorem dX11_steer_0 : decode cX11_steer 0 = .ok (.iload_n 1, 1) := by decide +kernel
theorem dX11_steer_1 : decode cX11_steer 1 = .ok (.invokestatic 226, 3) := by decide +kernel
theorem dX11_steer_4 : decode cX11_steer 4 = .ok (.iload_n 2, 1) := by decide +kernel
theorem dX11_steer_5 : decode cX11_steer 5 = .ok (.invokestatic 387, 3) := by decide +kernel
theorem dX11_steer_8 : decode cX11_steer 8 = .ok (.iload_n 3, 1) := by decide +kernel
theorem dX11_steer_9 : decode cX11_steer 9 = .ok (.ifCond .lt 10, 3) := by decide +kernel
theorem dX11_steer_12 : decode cX11_steer 12 = .ok (.iload_n 3, 1) := by decide +kernel
theorem dX11_steer_13 : decode cX11_steer 13 = .ok (.sipush 400, 3) := by decide +kernel
theorem dX11_steer_16 : decode cX11_steer 16 = .ok (.if_icmp .le 14, 3) := by decide +kernel
theorem dX11_steer_19 : decode cX11_steer 19 = .ok (.new 80, 3) := by decide +kernel
theorem dX11_steer_22 : decode cX11_steer 22 = .ok (.dup, 1) := by decide +kernel
theorem dX11_steer_23 : decode cX11_steer 23 = .ok (.ldc_w 390, 3) := by decide +kernel
theorem dX11_steer_26 : decode cX11_steer 26 = .ok (.invokespecial 84, 3) := by decide +kernel
theorem dX11_steer_29 : decode cX11_steer 29 = .ok (.athrow, 1) := by decide +kernel
theorem dX11_steer_30 : decode cX11_steer 30 = .ok (.aload_n 0, 1) := by decide +kernel
theorem dX11_steer_31 : decode cX11_steer 31 = .ok (.getfield 29, 3) := by decide +kernel
theorem dX11_steer_34 : decode cX11_steer 34 = .ok (.getfield 165, 3) := by decide +kernel
theorem dX11_steer_37 : decode cX11_steer 37 = .ok (.bipush 8, 2) := by decide +kernel
theorem dX11_steer_39 : decode cX11_steer 39 = .ok (.if_icmp .lt 6, 3) := by decide +kernel
theorem dX11_steer_42 : decode cX11_steer 42 = .ok (.bipush (-2), 2) := by decide +kernel
theorem dX11_steer_44 : decode cX11_steer 44 = .ok (.ireturn, 1) := by decide +kernel
theorem dX11_steer_45 : decode cX11_steer 45 = .ok (.iload_n 1, 1) := by decide +kernel
theorem dX11_steer_46 : decode cX11_steer 46 = .ok (.aload_n 0, 1) := by decide +kernel
theorem dX11_steer_47 : decode cX11_steer 47 = .ok (.getfield 29, 3) := by decide +kernel
theorem dX11_steer_50 : decode cX11_steer 50 = .ok (.invokevirtual 392, 3) := by decide +kernel
theorem dX11_steer_53 : decode cX11_steer 53 = .ok (.if_icmp .gt 6, 3) := by decide +kernel
theorem dX11_steer_56 : decode cX11_steer 56 = .ok (.bipush (-3), 2) := by decide +kernel
theorem dX11_steer_58 : decode cX11_steer 58 = .ok (.ireturn, 1) := by decide +kernel
theorem dX11_steer_59 : decode cX11_steer 59 = .ok (.aload_n 0, 1) := by decide +kernel
theorem dX11_steer_60 : decode cX11_steer 60 = .ok (.getfield 39, 3) := by decide +kernel
theorem dX11_steer_63 : decode cX11_steer 63 = .ok (.aload_n 0, 1) := by decide +kernel
theorem dX11_steer_64 : decode cX11_steer 64 = .ok (.getfield 29, 3) := by decide +kernel
theorem dX11_steer_67 : decode cX11_steer 67 = .ok (.invokevirtual 378, 3) := by decide +kernel
theorem dX11_steer_70 : decode cX11_steer 70 = .ok (.aload_n 0, 1) := by decide +kernel
theorem dX11_steer_71 : decode cX11_steer 71 = .ok (.getfield 29, 3) := by decide +kernel
theorem dX11_steer_74 : decode cX11_steer 74 = .ok (.iload_n 1, 1) := by decide +kernel
theorem dX11_steer_75 : decode cX11_steer 75 = .ok (.iload_n 2, 1) := by decide +kernel
theorem dX11_steer_76 : decode cX11_steer 76 = .ok (.iload_n 3, 1) := by decide +kernel
theorem dX11_steer_77 : decode cX11_steer 77 = .ok (.invokevirtual 395, 3) := by decide +kernel
theorem dX11_steer_80 : decode cX11_steer 80 = .ok (.aload_n 0, 1) := by decide +kernel
theorem dX11_steer_81 : decode cX11_steer 81 = .ok (.getfield 29, 3) := by decide +kernel
theorem dX11_steer_84 : decode cX11_steer 84 = .ok (.getfield 165, 3) := by decide +kernel
theorem dX11_steer_87 : decode cX11_steer 87 = .ok (.iconst 1, 1) := by decide +kernel
theorem dX11_steer_88 : decode cX11_steer 88 = .ok (.isub, 1) := by decide +kernel
theorem dX11_steer_89 : decode cX11_steer 89 = .ok (.ireturn, 1) := by decide +kernel
theorem dX11_setCurrent_0 : decode cX11_setCurrent 0 = .ok (.iload_n 1, 1) := by decide +kernel
theorem dX11_setCurrent_1 : decode cX11_setCurrent 1 = .ok (.invokestatic 387, 3) := by decide +kernel
theorem dX11_setCurrent_4 : decode cX11_setCurrent 4 = .ok (.iload_n 2, 1) := by decide +kernel
theorem dX11_setCurrent_5 : decode cX11_setCurrent 5 = .ok (.ifCond .lt 9, 3) := by decide +kernel
theorem dX11_setCurrent_8 : decode cX11_setCurrent 8 = .ok (.iload_n 2, 1) := by decide +kernel
theorem dX11_setCurrent_9 : decode cX11_setCurrent 9 = .ok (.bipush 100, 2) := by decide +kernel
theorem dX11_setCurrent_11 : decode cX11_setCurrent 11 = .ok (.if_icmp .le 14, 3) := by decide +kernel
theorem dX11_setCurrent_14 : decode cX11_setCurrent 14 = .ok (.new 80, 3) := by decide +kernel
theorem dX11_setCurrent_17 : decode cX11_setCurrent 17 = .ok (.dup, 1) := by decide +kernel
theorem dX11_setCurrent_18 : decode cX11_setCurrent 18 = .ok (.ldc_w 398, 3) := by decide +kernel
theorem dX11_setCurrent_21 : decode cX11_setCurrent 21 = .ok (.invokespecial 84, 3) := by decide +kernel
theorem dX11_setCurrent_24 : decode cX11_setCurrent 24 = .ok (.athrow, 1) := by decide +kernel
theorem dX11_setCurrent_25 : decode cX11_setCurrent 25 = .ok (.aload_n 0, 1) := by decide +kernel
theorem dX11_setCurrent_26 : decode cX11_setCurrent 26 = .ok (.getfield 29, 3) := by decide +kernel
theorem dX11_setCurrent_29 : decode cX11_setCurrent 29 = .ok (.getfield 183, 3) := by decide +kernel
theorem dX11_setCurrent_32 : decode cX11_setCurrent 32 = .ok (.istore_n 3, 1) := by decide +kernel
theorem dX11_setCurrent_33 : decode cX11_setCurrent 33 = .ok (.aload_n 0, 1) := by decide +kernel
theorem dX11_setCurrent_34 : decode cX11_setCurrent 34 = .ok (.getfield 39, 3) := by decide +kernel
theorem dX11_setCurrent_37 : decode cX11_setCurrent 37 = .ok (.aload_n 0, 1) := by decide +kernel
theorem dX11_setCurrent_38 : decode cX11_setCurrent 38 = .ok (.getfield 29, 3) := by decide +kernel
theorem dX11_setCurrent_41 : decode cX11_setCurrent 41 = .ok (.invokevirtual 378, 3) := by decide +kernel
theorem dX11_setCurrent_44 : decode cX11_setCurrent 44 = .ok (.aload_n 0, 1) := by decide +kernel
theorem dX11_setCurrent_45 : decode cX11_setCurrent 45 = .ok (.getfield 29, 3) := by decide +kernel
theorem dX11_setCurrent_48 : decode cX11_setCurrent 48 = .ok (.iload_n 1, 1) := by decide +kernel
theorem dX11_setCurrent_49 : decode cX11_setCurrent 49 = .ok (.putfield 180, 3) := by decide +kernel
theorem dX11_setCurrent_52 : decode cX11_setCurrent 52 = .ok (.aload_n 0, 1) := by decide +kernel
theorem dX11_setCurrent_53 : decode cX11_setCurrent 53 = .ok (.getfield 29, 3) := by decide +kernel
theorem dX11_setCurrent_56 : decode cX11_setCurrent 56 = .ok (.iload_n 2, 1) := by decide +kernel
theorem dX11_setCurrent_57 : decode cX11_setCurrent 57 = .ok (.putfield 183, 3) := by decide +kernel
theorem dX11_setCurrent_60 : decode cX11_setCurrent 60 = .ok (.iload_n 3, 1) := by decide +kernel
theorem dX11_setCurrent_61 : decode cX11_setCurrent 61 = .ok (.ireturn, 1) := by decide +kernel
theorem dX11_correct_0 : decode cX11_correct 0 = .ok (.iload_n 1, 1) := by decide +kernel
theorem dX11_correct_1 : decode cX11_correct 1 = .ok (.ifCond .lt 21, 3) := by decide +kernel
theorem dX11_correct_4 : decode cX11_correct 4 = .ok (.iload_n 1, 1) := by decide +kernel
theorem dX11_correct_5 : decode cX11_correct 5 = .ok (.bipush 50, 2) := by decide +kernel
theorem dX11_correct_7 : decode cX11_correct 7 = .ok (.if_icmp .gt 15, 3) := by decide +kernel
theorem dX11_correct_10 : decode cX11_correct 10 = .ok (.iload_n 2, 1) := by decide +kernel
theorem dX11_correct_11 : decode cX11_correct 11 = .ok (.bipush (-60), 2) := by decide +kernel
theorem dX11_correct_13 : decode cX11_correct 13 = .ok (.if_icmp .lt 9, 3) := by decide +kernel
theorem dX11_correct_16 : decode cX11_correct 16 = .ok (.iload_n 2, 1) := by decide +kernel
theorem dX11_correct_17 : decode cX11_correct 17 = .ok (.bipush 60, 2) := by decide +kernel
theorem dX11_correct_19 : decode cX11_correct 19 = .ok (.if_icmp .le 14, 3) := by decide +kernel
theorem dX11_correct_22 : decode cX11_correct 22 = .ok (.new 80, 3) := by decide +kernel
theorem dX11_correct_25 : decode cX11_correct 25 = .ok (.dup, 1) := by decide +kernel
theorem dX11_correct_26 : decode cX11_correct 26 = .ok (.ldc_w 400, 3) := by decide +kernel
theorem dX11_correct_29 : decode cX11_correct 29 = .ok (.invokespecial 84, 3) := by decide +kernel
theorem dX11_correct_32 : decode cX11_correct 32 = .ok (.athrow, 1) := by decide +kernel
theorem dX11_correct_33 : decode cX11_correct 33 = .ok (.aload_n 0, 1) := by decide +kernel
theorem dX11_correct_34 : decode cX11_correct 34 = .ok (.getfield 39, 3) := by decide +kernel
theorem dX11_correct_37 : decode cX11_correct 37 = .ok (.aload_n 0, 1) := by decide +kernel
theorem dX11_correct_38 : decode cX11_correct 38 = .ok (.getfield 29, 3) := by decide +kernel
theorem dX11_correct_41 : decode cX11_correct 41 = .ok (.invokevirtual 378, 3) := by decide +kernel
theorem dX11_correct_44 : decode cX11_correct 44 = .ok (.aload_n 0, 1) := by decide +kernel
theorem dX11_correct_45 : decode cX11_correct 45 = .ok (.getfield 29, 3) := by decide +kernel
theorem dX11_correct_48 : decode cX11_correct 48 = .ok (.iload_n 1, 1) := by decide +kernel
theorem dX11_correct_49 : decode cX11_correct 49 = .ok (.putfield 174, 3) := by decide +kernel
theorem dX11_correct_52 : decode cX11_correct 52 = .ok (.aload_n 0, 1) := by decide +kernel
theorem dX11_correct_53 : decode cX11_correct 53 = .ok (.getfield 29, 3) := by decide +kernel
theorem dX11_correct_56 : decode cX11_correct 56 = .ok (.iload_n 2, 1) := by decide +kernel
theorem dX11_correct_57 : decode cX11_correct 57 = .ok (.putfield 177, 3) := by decide +kernel
theorem dX11_correct_60 : decode cX11_correct 60 = .ok (.aload_n 0, 1) := by decide +kernel
theorem dX11_correct_61 : decode cX11_correct 61 = .ok (.getfield 29, 3) := by decide +kernel
theorem dX11_correct_64 : decode cX11_correct 64 = .ok (.invokevirtual 402, 3) := by decide +kernel
theorem dX11_correct_67 : decode cX11_correct 67 = .ok (.ireturn, 1) := by decide +kernel
theorem dX11_format_0 : decode cX11_format 0 = .ok (.aload_n 0, 1) := by decide +kernel
theorem dX11_format_1 : decode cX11_format 1 = .ok (.iload_n 1, 1) := by decide +kernel
theorem dX11_format_2 : decode cX11_format 2 = .ok (.invokevirtual 250, 3) := by decide +kernel
theorem dX11_format_5 : decode cX11_format 5 = .ok (.aload_n 0, 1) := by decide +kernel
theorem dX11_format_6 : decode cX11_format 6 = .ok (.getfield 43, 3) := by decide +kernel
theorem dX11_format_9 : decode cX11_format 9 = .ok (.aload_n 0, 1) := by decide +kernel
theorem dX11_format_10 : decode cX11_format 10 = .ok (.getfield 25, 3) := by decide +kernel
theorem dX11_format_13 : decode cX11_format 13 = .ok (.aload_n 0, 1) := by decide +kernel
theorem dX11_format_14 : decode cX11_format 14 = .ok (.getfield 29, 3) := by decide +kernel
theorem dX11_format_17 : decode cX11_format 17 = .ok (.iload_n 1, 1) := by decide +kernel
theorem dX11_format_18 : decode cX11_format 18 = .ok (.iconst 0, 1) := by decide +kernel
theorem dX11_format_19 : decode cX11_format 19 = .ok (.invokevirtual 253, 3) := by decide +kernel
theorem dX11_format_22 : decode cX11_format 22 = .ok (.aload_n 0, 1) := by decide +kernel
theorem dX11_format_23 : decode cX11_format 23 = .ok (.getfield 43, 3) := by decide +kernel
theorem dX11_format_26 : decode cX11_format 26 = .ok (.iload_n 1, 1) := by decide +kernel
theorem dX11_format_27 : decode cX11_format 27 = .ok (.invokevirtual 257, 3) := by decide +kernel
theorem dX11_format_30 : decode cX11_format 30 = .ok (.astore_n 2, 1) := by decide +kernel
theorem dX11_format_31 : decode cX11_format 31 = .ok (.aload_n 2, 1) := by decide +kernel
theorem dX11_format_32 : decode cX11_format 32 = .ok (.getfield 275, 3) := by decide +kernel
theorem dX11_format_35 : decode cX11_format 35 = .ok (.invokestatic 357, 3) := by decide +kernel
theorem dX11_format_38 : decode cX11_format 38 = .ok (.istore_n 3, 1) := by decide +kernel
theorem dX11_format_39 : decode cX11_format 39 = .ok (.iload_n 3, 1) := by decide +kernel
theorem dX11_format_40 : decode cX11_format 40 = .ok (.bipush 60, 2) := by decide +kernel
theorem dX11_format_42 : decode cX11_format 42 = .ok (.irem, 1) := by decide +kernel
theorem dX11_format_43 : decode cX11_format 43 = .ok (.istore 4, 2) := by decide +kernel
theorem dX11_format_45 : decode cX11_format 45 = .ok (.aload_n 0, 1) := by decide +kernel
theorem dX11_format_46 : decode cX11_format 46 = .ok (.getfield 68, 3) := by decide +kernel
theorem dX11_format_49 : decode cX11_format 49 = .ok (.iconst 0, 1) := by decide +kernel
theorem dX11_format_50 : decode cX11_format 50 = .ok (.invokevirtual 405, 3) := by decide +kernel
theorem dX11_format_53 : decode cX11_format 53 = .ok (.aload_n 0, 1) := by decide +kernel
theorem dX11_format_54 : decode cX11_format 54 = .ok (.getfield 25, 3) := by decide +kernel
theorem dX11_format_57 : decode cX11_format 57 = .ok (.aload_n 0, 1) := by decide +kernel
theorem dX11_format_58 : decode cX11_format 58 = .ok (.getfield 29, 3) := by decide +kernel
theorem dX11_format_61 : decode cX11_format 61 = .ok (.getfield 261, 3) := by decide +kernel
theorem dX11_format_64 : decode cX11_format 64 = .ok (.iload_n 1, 1) := by decide +kernel
theorem dX11_format_65 : decode cX11_format 65 = .ok (.invokestatic 198, 3) := by decide +kernel
theorem dX11_format_68 : decode cX11_format 68 = .ok (.aload_n 0, 1) := by decide +kernel
theorem dX11_format_69 : decode cX11_format 69 = .ok (.getfield 68, 3) := by decide +kernel
theorem dX11_format_72 : decode cX11_format 72 = .ok (.invokevirtual 408, 3) := by decide +kernel
theorem dX11_format_75 : decode cX11_format 75 = .ok (.aload_n 0, 1) := by decide +kernel
theorem dX11_format_76 : decode cX11_format 76 = .ok (.getfield 68, 3) := by decide +kernel
theorem dX11_format_79 : decode cX11_format 79 = .ok (.bipush 32, 2) := by decide +kernel
theorem dX11_format_81 : decode cX11_format 81 = .ok (.invokevirtual 412, 3) := by decide +kernel
theorem dX11_format_84 : decode cX11_format 84 = .ok (.pop, 1) := by decide +kernel
theorem dX11_format_85 : decode cX11_format 85 = .ok (.aload_n 2, 1) := by decide +kernel
theorem dX11_format_86 : decode cX11_format 86 = .ok (.getfield 275, 3) := by decide +kernel
theorem dX11_format_89 : decode cX11_format 89 = .ok (.ifCond .ge 13, 3) := by decide +kernel
theorem dX11_format_92 : decode cX11_format 92 = .ok (.aload_n 0, 1) := by decide +kernel
theorem dX11_format_93 : decode cX11_format 93 = .ok (.getfield 68, 3) := by decide +kernel
theorem dX11_format_96 : decode cX11_format 96 = .ok (.bipush 45, 2) := by decide +kernel
theorem dX11_format_98 : decode cX11_format 98 = .ok (.invokevirtual 412, 3) := by decide +kernel
theorem dX11_format_101 : decode cX11_format 101 = .ok (.pop, 1) := by decide +kernel
theorem dX11_format_102 : decode cX11_format 102 = .ok (.aload_n 0, 1) := by decide +kernel
theorem dX11_format_103 : decode cX11_format 103 = .ok (.getfield 68, 3) := by decide +kernel
theorem dX11_format_106 : decode cX11_format 106 = .ok (.iload_n 3, 1) := by decide +kernel
theorem dX11_format_107 : decode cX11_format 107 = .ok (.bipush 60, 2) := by decide +kernel
theorem dX11_format_109 : decode cX11_format 109 = .ok (.idiv, 1) := by decide +kernel
theorem dX11_format_110 : decode cX11_format 110 = .ok (.invokevirtual 415, 3) := by decide +kernel
theorem dX11_format_113 : decode cX11_format 113 = .ok (.bipush 39, 2) := by decide +kernel
theorem dX11_format_115 : decode cX11_format 115 = .ok (.invokevirtual 412, 3) := by decide +kernel
theorem dX11_format_118 : decode cX11_format 118 = .ok (.pop, 1) := by decide +kernel
theorem dX11_format_119 : decode cX11_format 119 = .ok (.aload_n 0, 1) := by decide +kernel
theorem dX11_format_120 : decode cX11_format 120 = .ok (.getfield 68, 3) := by decide +kernel
theorem dX11_format_123 : decode cX11_format 123 = .ok (.iload 4, 2) := by decide +kernel
theorem dX11_format_125 : decode cX11_format 125 = .ok (.bipush 10, 2) := by decide +kernel
theorem dX11_format_127 : decode cX11_format 127 = .ok (.idiv, 1) := by decide +kernel
theorem dX11_format_128 : decode cX11_format 128 = .ok (.invokevirtual 415, 3) := by decide +kernel
theorem dX11_format_131 : decode cX11_format 131 = .ok (.iload 4, 2) := by decide +kernel
theorem dX11_format_133 : decode cX11_format 133 = .ok (.bipush 10, 2) := by decide +kernel
theorem dX11_format_135 : decode cX11_format 135 = .ok (.irem, 1) := by decide +kernel
theorem dX11_format_136 : decode cX11_format 136 = .ok (.invokevirtual 415, 3) := by decide +kernel
theorem dX11_format_139 : decode cX11_format 139 = .ok (.pop, 1) := by decide +kernel
theorem dX11_format_140 : decode cX11_format 140 = .ok (.aload_n 0, 1) := by decide +kernel
theorem dX11_format_141 : decode cX11_format 141 = .ok (.getfield 68, 3) := by decide +kernel
theorem dX11_format_144 : decode cX11_format 144 = .ok (.ldc_w 418, 3) := by decide +kernel
theorem dX11_format_147 : decode cX11_format 147 = .ok (.invokevirtual 420, 3) := by decide +kernel
theorem dX11_format_150 : decode cX11_format 150 = .ok (.aload_n 2, 1) := by decide +kernel
theorem dX11_format_151 : decode cX11_format 151 = .ok (.getfield 281, 3) := by decide +kernel
theorem dX11_format_154 : decode cX11_format 154 = .ok (.bipush 60, 2) := by decide +kernel
theorem dX11_format_156 : decode cX11_format 156 = .ok (.idiv, 1) := by decide +kernel
theorem dX11_format_157 : decode cX11_format 157 = .ok (.invokevirtual 415, 3) := by decide +kernel
theorem dX11_format_160 : decode cX11_format 160 = .ok (.pop, 1) := by decide +kernel
theorem dX11_format_161 : decode cX11_format 161 = .ok (.aload_n 0, 1) := by decide +kernel
theorem dX11_format_162 : decode cX11_format 162 = .ok (.getfield 68, 3) := by decide +kernel
theorem dX11_format_165 : decode cX11_format 165 = .ok (.bipush 32, 2) := by decide +kernel
theorem dX11_format_167 : decode cX11_format 167 = .ok (.invokevirtual 412, 3) := by decide +kernel
theorem dX11_format_170 : decode cX11_format 170 = .ok (.aload_n 2, 1) := by decide +kernel
theorem dX11_format_171 : decode cX11_format 171 = .ok (.getfield 284, 3) := by decide +kernel
theorem dX11_format_174 : decode cX11_format 174 = .ok (.ifCond .lt 8, 3) := by decide +kernel
theorem dX11_format_177 : decode cX11_format 177 = .ok (.bipush 116, 2) := by decide +kernel
theorem dX11_format_179 : decode cX11_format 179 = .ok (.goto 5, 3) := by decide +kernel
theorem dX11_format_182 : decode cX11_format 182 = .ok (.bipush 97, 2) := by decide +kernel
theorem dX11_format_184 : decode cX11_format 184 = .ok (.invokevirtual 412, 3) := by decide +kernel
theorem dX11_format_187 : decode cX11_format 187 = .ok (.pop, 1) := by decide +kernel
theorem dX11_format_188 : decode cX11_format 188 = .ok (.aload_n 0, 1) := by decide +kernel
theorem dX11_format_189 : decode cX11_format 189 = .ok (.getfield 68, 3) := by decide +kernel
theorem dX11_format_192 : decode cX11_format 192 = .ok (.aload_n 2, 1) := by decide +kernel
theorem dX11_format_193 : decode cX11_format 193 = .ok (.getfield 284, 3) := by decide +kernel
theorem dX11_format_196 : decode cX11_format 196 = .ok (.invokestatic 357, 3) := by decide +kernel
theorem dX11_format_199 : decode cX11_format 199 = .ok (.invokevirtual 415, 3) := by decide +kernel
theorem dX11_format_202 : decode cX11_format 202 = .ok (.pop, 1) := by decide +kernel
theorem dX11_format_203 : decode cX11_format 203 = .ok (.aload_n 0, 1) := by decide +kernel
theorem dX11_format_204 : decode cX11_format 204 = .ok (.getfield 68, 3) := by decide +kernel
theorem dX11_format_207 : decode cX11_format 207 = .ok (.invokevirtual 423, 3) := by decide +kernel
theorem dX11_format_210 : decode cX11_format 210 = .ok (.ireturn, 1) := by decide +kernel
theorem dX11_formattedByte_0 : decode cX11_formattedByte 0 = .ok (.iload_n 1, 1) := by decide +kernel
theorem dX11_formattedByte_1 : decode cX11_formattedByte 1 = .ok (.ifCond .lt 14, 3) := by decide +kernel
theorem dX11_formattedByte_4 : decode cX11_formattedByte 4 = .ok (.iload_n 1, 1) := by decide +kernel
theorem dX11_formattedByte_5 : decode cX11_formattedByte 5 = .ok (.aload_n 0, 1) := by decide +kernel
theorem dX11_formattedByte_6 : decode cX11_formattedByte 6 = .ok (.getfield 68, 3) := by decide +kernel
theorem dX11_formattedByte_9 : decode cX11_formattedByte 9 = .ok (.invokevirtual 423, 3) := by decide +kernel
theorem dX11_formattedByte_12 : decode cX11_formattedByte 12 = .ok (.if_icmp .lt 7, 3) := by decide +kernel
theorem dX11_formattedByte_15 : decode cX11_formattedByte 15 = .ok (.iconst (-1), 1) := by decide +kernel
theorem dX11_formattedByte_16 : decode cX11_formattedByte 16 = .ok (.goto 11, 3) := by decide +kernel
theorem dX11_formattedByte_19 : decode cX11_formattedByte 19 = .ok (.aload_n 0, 1) := by decide +kernel
theorem dX11_formattedByte_20 : decode cX11_formattedByte 20 = .ok (.getfield 68, 3) := by decide +kernel
theorem dX11_formattedByte_23 : decode cX11_formattedByte 23 = .ok (.iload_n 1, 1) := by decide +kernel
theorem dX11_formattedByte_24 : decode cX11_formattedByte 24 = .ok (.invokevirtual 426, 3) := by decide +kernel
theorem dX11_formattedByte_27 : decode cX11_formattedByte 27 = .ok (.ireturn, 1) := by decide +kernel
theorem dX11_undoCount_0 : decode cX11_undoCount 0 = .ok (.aload_n 0, 1) := by decide +kernel
theorem dX11_undoCount_1 : decode cX11_undoCount 1 = .ok (.getfield 39, 3) := by decide +kernel
theorem dX11_undoCount_4 : decode cX11_undoCount 4 = .ok (.getfield 430, 3) := by decide +kernel
theorem dX11_undoCount_7 : decode cX11_undoCount 7 = .ok (.ireturn, 1) := by decide +kernel
theorem dX11_undo_0 : decode cX11_undo 0 = .ok (.aload_n 0, 1) := by decide +kernel
theorem dX11_undo_1 : decode cX11_undo 1 = .ok (.getfield 39, 3) := by decide +kernel
theorem dX11_undo_4 : decode cX11_undo 4 = .ok (.getfield 430, 3) := by decide +kernel
theorem dX11_undo_7 : decode cX11_undo 7 = .ok (.ifCond .ne 5, 3) := by decide +kernel
theorem dX11_undo_10 : decode cX11_undo 10 = .ok (.iconst (-1), 1) := by decide +kernel
theorem dX11_undo_11 : decode cX11_undo 11 = .ok (.ireturn, 1) := by decide +kernel
theorem dX11_undo_12 : decode cX11_undo 12 = .ok (.aload_n 0, 1) := by decide +kernel
theorem dX11_undo_13 : decode cX11_undo 13 = .ok (.getfield 39, 3) := by decide +kernel
theorem dX11_undo_16 : decode cX11_undo 16 = .ok (.aload_n 0, 1) := by decide +kernel
theorem dX11_undo_17 : decode cX11_undo 17 = .ok (.getfield 29, 3) := by decide +kernel
theorem dX11_undo_20 : decode cX11_undo 20 = .ok (.invokevirtual 431, 3) := by decide +kernel
theorem dX11_undo_23 : decode cX11_undo 23 = .ok (.aload_n 0, 1) := by decide +kernel
theorem dX11_undo_24 : decode cX11_undo 24 = .ok (.getfield 39, 3) := by decide +kernel
theorem dX11_undo_27 : decode cX11_undo 27 = .ok (.getfield 430, 3) := by decide +kernel
theorem dX11_undo_30 : decode cX11_undo 30 = .ok (.ireturn, 1) := by decide +kernel
theorem dX11_saveSnapshot_0 : decode cX11_saveSnapshot 0 = .ok (.aload_n 0, 1) := by decide +kernel
theorem dX11_saveSnapshot_1 : decode cX11_saveSnapshot 1 = .ok (.getfield 33, 3) := by decide +kernel
theorem dX11_saveSnapshot_4 : decode cX11_saveSnapshot 4 = .ok (.aload_n 0, 1) := by decide +kernel
theorem dX11_saveSnapshot_5 : decode cX11_saveSnapshot 5 = .ok (.getfield 29, 3) := by decide +kernel
theorem dX11_saveSnapshot_8 : decode cX11_saveSnapshot 8 = .ok (.invokevirtual 102, 3) := by decide +kernel
theorem dX11_saveSnapshot_11 : decode cX11_saveSnapshot 11 = .ok (.aload_n 0, 1) := by decide +kernel
theorem dX11_saveSnapshot_12 : decode cX11_saveSnapshot 12 = .ok (.iconst 1, 1) := by decide +kernel
theorem dX11_saveSnapshot_13 : decode cX11_saveSnapshot 13 = .ok (.putfield 108, 3) := by decide +kernel
theorem dX11_saveSnapshot_16 : decode cX11_saveSnapshot 16 = .ok (.return_, 1) := by decide +kernel
theorem dX11_restoreSnapshot_0 : decode cX11_restoreSnapshot 0 = .ok (.aload_n 0, 1) := by decide +kernel
theorem dX11_restoreSnapshot_1 : decode cX11_restoreSnapshot 1 = .ok (.getfield 108, 3) := by decide +kernel
theorem dX11_restoreSnapshot_4 : decode cX11_restoreSnapshot 4 = .ok (.ifCond .ne 5, 3) := by decide +kernel
theorem dX11_restoreSnapshot_7 : decode cX11_restoreSnapshot 7 = .ok (.iconst 0, 1) := by decide +kernel
theorem dX11_restoreSnapshot_8 : decode cX11_restoreSnapshot 8 = .ok (.ireturn, 1) := by decide +kernel
theorem dX11_restoreSnapshot_9 : decode cX11_restoreSnapshot 9 = .ok (.aload_n 0, 1) := by decide +kernel
theorem dX11_restoreSnapshot_10 : decode cX11_restoreSnapshot 10 = .ok (.getfield 29, 3) := by decide +kernel
theorem dX11_restoreSnapshot_13 : decode cX11_restoreSnapshot 13 = .ok (.aload_n 0, 1) := by decide +kernel
theorem dX11_restoreSnapshot_14 : decode cX11_restoreSnapshot 14 = .ok (.getfield 33, 3) := by decide +kernel
theorem dX11_restoreSnapshot_17 : decode cX11_restoreSnapshot 17 = .ok (.invokevirtual 102, 3) := by decide +kernel
theorem dX11_restoreSnapshot_20 : decode cX11_restoreSnapshot 20 = .ok (.aload_n 0, 1) := by decide +kernel
theorem dX11_restoreSnapshot_21 : decode cX11_restoreSnapshot 21 = .ok (.getfield 39, 3) := by decide +kernel
theorem dX11_restoreSnapshot_24 : decode cX11_restoreSnapshot 24 = .ok (.invokevirtual 105, 3) := by decide +kernel
theorem dX11_restoreSnapshot_27 : decode cX11_restoreSnapshot 27 = .ok (.iconst 1, 1) := by decide +kernel
theorem dX11_restoreSnapshot_28 : decode cX11_restoreSnapshot 28 = .ok (.ireturn, 1) := by decide +kernel
theorem dX11_needTime_0 : decode cX11_needTime 0 = .ok (.iload_n 0, 1) := by decide +kernel
theorem dX11_needTime_1 : decode cX11_needTime 1 = .ok (.ifCond .lt 10, 3) := by decide +kernel
theorem dX11_needTime_4 : decode cX11_needTime 4 = .ok (.iload_n 0, 1) := by decide +kernel
theorem dX11_needTime_5 : decode cX11_needTime 5 = .ok (.sipush 5000, 3) := by decide +kernel
theorem dX11_needTime_8 : decode cX11_needTime 8 = .ok (.if_icmp .le 14, 3) := by decide +kernel
theorem dX11_needTime_11 : decode cX11_needTime 11 = .ok (.new 80, 3) := by decide +kernel
theorem dX11_needTime_14 : decode cX11_needTime 14 = .ok (.dup, 1) := by decide +kernel
theorem dX11_needTime_15 : decode cX11_needTime 15 = .ok (.ldc_w 365, 3) := by decide +kernel
theorem dX11_needTime_18 : decode cX11_needTime 18 = .ok (.invokespecial 84, 3) := by decide +kernel
theorem dX11_needTime_21 : decode cX11_needTime 21 = .ok (.athrow, 1) := by decide +kernel
theorem dX11_needTime_22 : decode cX11_needTime 22 = .ok (.return_, 1) := by decide +kernel
theorem dX11_needAngle_0 : decode cX11_needAngle 0 = .ok (.iload_n 0, 1) := by decide +kernel
theorem dX11_needAngle_1 : decode cX11_needAngle 1 = .ok (.ifCond .lt 10, 3) := by decide +kernel
theorem dX11_needAngle_4 : decode cX11_needAngle 4 = .ok (.iload_n 0, 1) := by decide +kernel
theorem dX11_needAngle_5 : decode cX11_needAngle 5 = .ok (.sipush 21600, 3) := by decide +kernel
theorem dX11_needAngle_8 : decode cX11_needAngle 8 = .ok (.if_icmp .lt 14, 3) := by decide +kernel
theorem dX11_needAngle_11 : decode cX11_needAngle 11 = .ok (.new 80, 3) := by decide +kernel
theorem dX11_needAngle_14 : decode cX11_needAngle 14 = .ok (.dup, 1) := by decide +kernel
theorem dX11_needAngle_15 : decode cX11_needAngle 15 = .ok (.ldc_w 434, 3) := by decide +kernel
theorem dX11_needAngle_18 : decode cX11_needAngle 18 = .ok (.invokespecial 84, 3) := by decide +kernel
theorem dX11_needAngle_21 : decode cX11_needAngle 21 = .ok (.athrow, 1) := by decide +kernel
theorem dX11_needAngle_22 : decode cX11_needAngle 22 = .ok (.return_, 1) := by decide +kernel
theorem dX11_needBody_0 : decode cX11_needBody 0 = .ok (.iload_n 1, 1) := by decide +kernel
theorem dX11_needBody_1 : decode cX11_needBody 1 = .ok (.ifCond .lt 14, 3) := by decide +kernel
theorem dX11_needBody_4 : decode cX11_needBody 4 = .ok (.iload_n 1, 1) := by decide +kernel
theorem dX11_needBody_5 : decode cX11_needBody 5 = .ok (.aload_n 0, 1) := by decide +kernel
theorem dX11_needBody_6 : decode cX11_needBody 6 = .ok (.getfield 25, 3) := by decide +kernel
theorem dX11_needBody_9 : decode cX11_needBody 9 = .ok (.getfield 162, 3) := by decide +kernel
theorem dX11_needBody_12 : decode cX11_needBody 12 = .ok (.if_icmp .lt 14, 3) := by decide +kernel
theorem dX11_needBody_15 : decode cX11_needBody 15 = .ok (.new 186, 3) := by decide +kernel
theorem dX11_needBody_18 : decode cX11_needBody 18 = .ok (.dup, 1) := by decide +kernel
theorem dX11_needBody_19 : decode cX11_needBody 19 = .ok (.ldc_w 436, 3) := by decide +kernel
theorem dX11_needBody_22 : decode cX11_needBody 22 = .ok (.invokespecial 190, 3) := by decide +kernel
theorem dX11_needBody_25 : decode cX11_needBody 25 = .ok (.athrow, 1) := by decide +kernel
theorem dX11_needBody_26 : decode cX11_needBody 26 = .ok (.return_, 1) := by decide +kernel
theorem dX11_needSight_0 : decode cX11_needSight 0 = .ok (.iload_n 1, 1) := by decide +kernel
theorem dX11_needSight_1 : decode cX11_needSight 1 = .ok (.ifCond .lt 14, 3) := by decide +kernel
theorem dX11_needSight_4 : decode cX11_needSight 4 = .ok (.iload_n 1, 1) := by decide +kernel
theorem dX11_needSight_5 : decode cX11_needSight 5 = .ok (.aload_n 0, 1) := by decide +kernel
theorem dX11_needSight_6 : decode cX11_needSight 6 = .ok (.getfield 29, 3) := by decide +kernel
theorem dX11_needSight_9 : decode cX11_needSight 9 = .ok (.getfield 112, 3) := by decide +kernel
theorem dX11_needSight_12 : decode cX11_needSight 12 = .ok (.if_icmp .lt 14, 3) := by decide +kernel
theorem dX11_needSight_15 : decode cX11_needSight 15 = .ok (.new 186, 3) := by decide +kernel
theorem dX11_needSight_18 : decode cX11_needSight 18 = .ok (.dup, 1) := by decide +kernel
theorem dX11_needSight_19 : decode cX11_needSight 19 = .ok (.ldc_w 438, 3) := by decide +kernel
theorem dX11_needSight_22 : decode cX11_needSight 22 = .ok (.invokespecial 190, 3) := by decide +kernel
theorem dX11_needSight_25 : decode cX11_needSight 25 = .ok (.athrow, 1) := by decide +kernel
theorem dX11_needSight_26 : decode cX11_needSight 26 = .ok (.return_, 1) := by decide +kernel
theorem dX11_needThreeSights_0 : decode cX11_needThreeSights 0 = .ok (.aload_n 0, 1) := by decide +kernel
theorem dX11_needThreeSights_1 : decode cX11_needThreeSights 1 = .ok (.iload_n 1, 1) := by decide +kernel
theorem dX11_needThreeSights_2 : decode cX11_needThreeSights 2 = .ok (.invokevirtual 250, 3) := by decide +kernel
theorem dX11_needThreeSights_5 : decode cX11_needThreeSights 5 = .ok (.aload_n 0, 1) := by decide +kernel
theorem dX11_needThreeSights_6 : decode cX11_needThreeSights 6 = .ok (.iload_n 2, 1) := by decide +kernel
theorem dX11_needThreeSights_7 : decode cX11_needThreeSights 7 = .ok (.invokevirtual 250, 3) := by decide +kernel
theorem dX11_needThreeSights_10 : decode cX11_needThreeSights 10 = .ok (.aload_n 0, 1) := by decide +kernel
theorem dX11_needThreeSights_11 : decode cX11_needThreeSights 11 = .ok (.iload_n 3, 1) := by decide +kernel
theorem dX11_needThreeSights_12 : decode cX11_needThreeSights 12 = .ok (.invokevirtual 250, 3) := by decide +kernel
theorem dX11_needThreeSights_15 : decode cX11_needThreeSights 15 = .ok (.return_, 1) := by decide +kernel
theorem dX11_drawHat_0 : decode cX11_drawHat 0 = .ok (.aload_n 0, 1) := by decide +kernel
theorem dX11_drawHat_1 : decode cX11_drawHat 1 = .ok (.getfield 43, 3) := by decide +kernel
theorem dX11_drawHat_4 : decode cX11_drawHat 4 = .ok (.aload_n 0, 1) := by decide +kernel
theorem dX11_drawHat_5 : decode cX11_drawHat 5 = .ok (.getfield 25, 3) := by decide +kernel
theorem dX11_drawHat_8 : decode cX11_drawHat 8 = .ok (.aload_n 0, 1) := by decide +kernel
theorem dX11_drawHat_9 : decode cX11_drawHat 9 = .ok (.getfield 29, 3) := by decide +kernel
theorem dX11_drawHat_12 : decode cX11_drawHat 12 = .ok (.iload_n 1, 1) := by decide +kernel
theorem dX11_drawHat_13 : decode cX11_drawHat 13 = .ok (.iload 4, 2) := by decide +kernel
theorem dX11_drawHat_15 : decode cX11_drawHat 15 = .ok (.invokevirtual 253, 3) := by decide +kernel
theorem dX11_drawHat_18 : decode cX11_drawHat 18 = .ok (.aload_n 0, 1) := by decide +kernel
theorem dX11_drawHat_19 : decode cX11_drawHat 19 = .ok (.getfield 43, 3) := by decide +kernel
theorem dX11_drawHat_22 : decode cX11_drawHat 22 = .ok (.aload_n 0, 1) := by decide +kernel
theorem dX11_drawHat_23 : decode cX11_drawHat 23 = .ok (.getfield 25, 3) := by decide +kernel
theorem dX11_drawHat_26 : decode cX11_drawHat 26 = .ok (.aload_n 0, 1) := by decide +kernel
theorem dX11_drawHat_27 : decode cX11_drawHat 27 = .ok (.getfield 29, 3) := by decide +kernel
theorem dX11_drawHat_30 : decode cX11_drawHat 30 = .ok (.iload_n 2, 1) := by decide +kernel
theorem dX11_drawHat_31 : decode cX11_drawHat 31 = .ok (.iload 4, 2) := by decide +kernel
theorem dX11_drawHat_33 : decode cX11_drawHat 33 = .ok (.invokevirtual 253, 3) := by decide +kernel
theorem dX11_drawHat_36 : decode cX11_drawHat 36 = .ok (.aload_n 0, 1) := by decide +kernel
theorem dX11_drawHat_37 : decode cX11_drawHat 37 = .ok (.getfield 43, 3) := by decide +kernel
theorem dX11_drawHat_40 : decode cX11_drawHat 40 = .ok (.aload_n 0, 1) := by decide +kernel
theorem dX11_drawHat_41 : decode cX11_drawHat 41 = .ok (.getfield 25, 3) := by decide +kernel
theorem dX11_drawHat_44 : decode cX11_drawHat 44 = .ok (.aload_n 0, 1) := by decide +kernel
theorem dX11_drawHat_45 : decode cX11_drawHat 45 = .ok (.getfield 29, 3) := by decide +kernel
theorem dX11_drawHat_48 : decode cX11_drawHat 48 = .ok (.iload_n 3, 1) := by decide +kernel
theorem dX11_drawHat_49 : decode cX11_drawHat 49 = .ok (.iload 4, 2) := by decide +kernel
theorem dX11_drawHat_51 : decode cX11_drawHat 51 = .ok (.invokevirtual 253, 3) := by decide +kernel
theorem dX11_drawHat_54 : decode cX11_drawHat 54 = .ok (.aload_n 0, 1) := by decide +kernel
theorem dX11_drawHat_55 : decode cX11_drawHat 55 = .ok (.getfield 43, 3) := by decide +kernel
theorem dX11_drawHat_58 : decode cX11_drawHat 58 = .ok (.getfield 320, 3) := by decide +kernel
theorem dX11_drawHat_61 : decode cX11_drawHat 61 = .ok (.aload_n 0, 1) := by decide +kernel
theorem dX11_drawHat_62 : decode cX11_drawHat 62 = .ok (.getfield 43, 3) := by decide +kernel
theorem dX11_drawHat_65 : decode cX11_drawHat 65 = .ok (.iload_n 1, 1) := by decide +kernel
theorem dX11_drawHat_66 : decode cX11_drawHat 66 = .ok (.invokevirtual 257, 3) := by decide +kernel
theorem dX11_drawHat_69 : decode cX11_drawHat 69 = .ok (.aload_n 0, 1) := by decide +kernel
theorem dX11_drawHat_70 : decode cX11_drawHat 70 = .ok (.getfield 43, 3) := by decide +kernel
theorem dX11_drawHat_73 : decode cX11_drawHat 73 = .ok (.iload_n 2, 1) := by decide +kernel
theorem dX11_drawHat_74 : decode cX11_drawHat 74 = .ok (.invokevirtual 257, 3) := by decide +kernel
theorem dX11_drawHat_77 : decode cX11_drawHat 77 = .ok (.aload_n 0, 1) := by decide +kernel
theorem dX11_drawHat_78 : decode cX11_drawHat 78 = .ok (.getfield 43, 3) := by decide +kernel
theorem dX11_drawHat_81 : decode cX11_drawHat 81 = .ok (.iload_n 3, 1) := by decide +kernel
theorem dX11_drawHat_82 : decode cX11_drawHat 82 = .ok (.invokevirtual 257, 3) := by decide +kernel
theorem dX11_drawHat_85 : decode cX11_drawHat 85 = .ok (.invokevirtual 440, 3) := by decide +kernel
theorem dX11_drawHat_88 : decode cX11_drawHat 88 = .ok (.return_, 1) := by decide +kernel
theorem dX11_down_0 : decode cX11_down 0 = .ok (.lload_n 2, 1) := by decide +kernel
theorem dX11_down_1 : decode cX11_down 1 = .ok (.lconst 0, 1) := by decide +kernel
theorem dX11_down_2 : decode cX11_down 2 = .ok (.lcmp, 1) := by decide +kernel
theorem dX11_down_3 : decode cX11_down 3 = .ok (.ifCond .ne 7, 3) := by decide +kernel
theorem dX11_down_6 : decode cX11_down 6 = .ok (.lconst 0, 1) := by decide +kernel
theorem dX11_down_7 : decode cX11_down 7 = .ok (.goto 8, 3) := by decide +kernel
theorem dX11_down_10 : decode cX11_down 10 = .ok (.lload_n 0, 1) := by decide +kernel
theorem dX11_down_11 : decode cX11_down 11 = .ok (.lload_n 2, 1) := by decide +kernel
theorem dX11_down_12 : decode cX11_down 12 = .ok (.invokestatic 444, 3) := by decide +kernel
theorem dX11_down_15 : decode cX11_down 15 = .ok (.lreturn, 1) := by decide +kernel
theorem dX11_product_0 : decode cX11_product 0 = .ok (.lload_n 0, 1) := by decide +kernel
theorem dX11_product_1 : decode cX11_product 1 = .ok (.lload_n 2, 1) := by decide +kernel
theorem dX11_product_2 : decode cX11_product 2 = .ok (.lmul, 1) := by decide +kernel
theorem dX11_product_3 : decode cX11_product 3 = .ok (.ldc2_w 447, 3) := by decide +kernel
theorem dX11_product_6 : decode cX11_product 6 = .ok (.invokestatic 444, 3) := by decide +kernel
theorem dX11_product_9 : decode cX11_product 9 = .ok (.lreturn, 1) := by decide +kernel
theorem dX11_limited_0 : decode cX11_limited 0 = .ok (.ldc2_w 449, 3) := by decide +kernel
theorem dX11_limited_3 : decode cX11_limited 3 = .ok (.ldc2_w 447, 3) := by decide +kernel
theorem dX11_limited_6 : decode cX11_limited 6 = .ok (.lload_n 0, 1) := by decide +kernel
theorem dX11_limited_7 : decode cX11_limited 7 = .ok (.invokestatic 451, 3) := by decide +kernel
theorem dX11_limited_10 : decode cX11_limited 10 = .ok (.invokestatic 454, 3) := by decide +kernel
theorem dX11_limited_13 : decode cX11_limited 13 = .ok (.l2i, 1) := by decide +kernel
theorem dX11_limited_14 : decode cX11_limited 14 = .ok (.ireturn, 1) := by decide +kernel
theorem dX11_sineOf_0 : decode cX11_sineOf 0 = .ok (.iload_n 0, 1) := by decide +kernel
theorem dX11_sineOf_1 : decode cX11_sineOf 1 = .ok (.sipush 21600, 3) := by decide +kernel
theorem dX11_sineOf_4 : decode cX11_sineOf 4 = .ok (.invokestatic 457, 3) := by decide +kernel
theorem dX11_sineOf_7 : decode cX11_sineOf 7 = .ok (.istore_n 1, 1) := by decide +kernel
theorem dX11_sineOf_8 : decode cX11_sineOf 8 = .ok (.iload_n 1, 1) := by decide +kernel
theorem dX11_sineOf_9 : decode cX11_sineOf 9 = .ok (.sipush 10800, 3) := by decide +kernel
theorem dX11_sineOf_12 : decode cX11_sineOf 12 = .ok (.if_icmp .lt 7, 3) := by decide +kernel
theorem dX11_sineOf_15 : decode cX11_sineOf 15 = .ok (.iconst 1, 1) := by decide +kernel
theorem dX11_sineOf_16 : decode cX11_sineOf 16 = .ok (.goto 4, 3) := by decide +kernel
theorem dX11_sineOf_19 : decode cX11_sineOf 19 = .ok (.iconst 0, 1) := by decide +kernel
theorem dX11_sineOf_20 : decode cX11_sineOf 20 = .ok (.istore_n 2, 1) := by decide +kernel
theorem dX11_sineOf_21 : decode cX11_sineOf 21 = .ok (.iload_n 2, 1) := by decide +kernel
theorem dX11_sineOf_22 : decode cX11_sineOf 22 = .ok (.ifCond .eq 12, 3) := by decide +kernel
theorem dX11_sineOf_25 : decode cX11_sineOf 25 = .ok (.iload_n 1, 1) := by decide +kernel
theorem dX11_sineOf_26 : decode cX11_sineOf 26 = .ok (.sipush 10800, 3) := by decide +kernel
theorem dX11_sineOf_29 : decode cX11_sineOf 29 = .ok (.isub, 1) := by decide +kernel
theorem dX11_sineOf_30 : decode cX11_sineOf 30 = .ok (.i2l, 1) := by decide +kernel
theorem dX11_sineOf_31 : decode cX11_sineOf 31 = .ok (.goto 5, 3) := by decide +kernel
theorem dX11_sineOf_34 : decode cX11_sineOf 34 = .ok (.iload_n 1, 1) := by decide +kernel
theorem dX11_sineOf_35 : decode cX11_sineOf 35 = .ok (.i2l, 1) := by decide +kernel
theorem dX11_sineOf_36 : decode cX11_sineOf 36 = .ok (.lstore_n 3, 1) := by decide +kernel
theorem dX11_sineOf_37 : decode cX11_sineOf 37 = .ok (.lload_n 3, 1) := by decide +kernel
theorem dX11_sineOf_38 : decode cX11_sineOf 38 = .ok (.ldc2_w 461, 3) := by decide +kernel
theorem dX11_sineOf_41 : decode cX11_sineOf 41 = .ok (.lload_n 3, 1) := by decide +kernel
theorem dX11_sineOf_42 : decode cX11_sineOf 42 = .ok (.lsub, 1) := by decide +kernel
theorem dX11_sineOf_43 : decode cX11_sineOf 43 = .ok (.lmul, 1) := by decide +kernel
theorem dX11_sineOf_44 : decode cX11_sineOf 44 = .ok (.lstore 5, 2) := by decide +kernel
theorem dX11_sineOf_46 : decode cX11_sineOf 46 = .ok (.ldc2_w 463, 3) := by decide +kernel
theorem dX11_sineOf_49 : decode cX11_sineOf 49 = .ok (.lload 5, 2) := by decide +kernel
theorem dX11_sineOf_51 : decode cX11_sineOf 51 = .ok (.lsub, 1) := by decide +kernel
theorem dX11_sineOf_52 : decode cX11_sineOf 52 = .ok (.lstore 7, 2) := by decide +kernel
theorem dX11_sineOf_54 : decode cX11_sineOf 54 = .ok (.lload 7, 2) := by decide +kernel
theorem dX11_sineOf_56 : decode cX11_sineOf 56 = .ok (.lconst 0, 1) := by decide +kernel
theorem dX11_sineOf_57 : decode cX11_sineOf 57 = .ok (.lcmp, 1) := by decide +kernel
theorem dX11_sineOf_58 : decode cX11_sineOf 58 = .ok (.ifCond .gt 7, 3) := by decide +kernel
theorem dX11_sineOf_61 : decode cX11_sineOf 61 = .ok (.iconst 0, 1) := by decide +kernel
theorem dX11_sineOf_62 : decode cX11_sineOf 62 = .ok (.goto 13, 3) := by decide +kernel
theorem dX11_sineOf_65 : decode cX11_sineOf 65 = .ok (.ldc2_w 465, 3) := by decide +kernel
theorem dX11_sineOf_68 : decode cX11_sineOf 68 = .ok (.lload 5, 2) := by decide +kernel
theorem dX11_sineOf_70 : decode cX11_sineOf 70 = .ok (.lmul, 1) := by decide +kernel
theorem dX11_sineOf_71 : decode cX11_sineOf 71 = .ok (.lload 7, 2) := by decide +kernel
theorem dX11_sineOf_73 : decode cX11_sineOf 73 = .ok (.ldiv, 1) := by decide +kernel
theorem dX11_sineOf_74 : decode cX11_sineOf 74 = .ok (.l2i, 1) := by decide +kernel
theorem dX11_sineOf_75 : decode cX11_sineOf 75 = .ok (.istore 9, 2) := by decide +kernel
theorem dX11_sineOf_77 : decode cX11_sineOf 77 = .ok (.iload_n 2, 1) := by decide +kernel
theorem dX11_sineOf_78 : decode cX11_sineOf 78 = .ok (.ifCond .eq 9, 3) := by decide +kernel
theorem dX11_sineOf_81 : decode cX11_sineOf 81 = .ok (.iload 9, 2) := by decide +kernel
theorem dX11_sineOf_83 : decode cX11_sineOf 83 = .ok (.ineg, 1) := by decide +kernel
theorem dX11_sineOf_84 : decode cX11_sineOf 84 = .ok (.goto 5, 3) := by decide +kernel
theorem dX11_sineOf_87 : decode cX11_sineOf 87 = .ok (.iload 9, 2) := by decide +kernel
theorem dX11_sineOf_89 : decode cX11_sineOf 89 = .ok (.ireturn, 1) := by decide +kernel
theorem dX11_cosineOf_0 : decode cX11_cosineOf 0 = .ok (.iload_n 0, 1) := by decide +kernel
theorem dX11_cosineOf_1 : decode cX11_cosineOf 1 = .ok (.sipush 5400, 3) := by decide +kernel
theorem dX11_cosineOf_4 : decode cX11_cosineOf 4 = .ok (.iadd, 1) := by decide +kernel
theorem dX11_cosineOf_5 : decode cX11_cosineOf 5 = .ok (.invokestatic 152, 3) := by decide +kernel
theorem dX11_cosineOf_8 : decode cX11_cosineOf 8 = .ok (.ireturn, 1) := by decide +kernel
theorem dX11_arcOf_0 : decode cX11_arcOf 0 = .ok (.iload_n 0, 1) := by decide +kernel
theorem dX11_arcOf_1 : decode cX11_arcOf 1 = .ok (.invokestatic 357, 3) := by decide +kernel
theorem dX11_arcOf_4 : decode cX11_arcOf 4 = .ok (.istore_n 1, 1) := by decide +kernel
theorem dX11_arcOf_5 : decode cX11_arcOf 5 = .ok (.iconst 0, 1) := by decide +kernel
theorem dX11_arcOf_6 : decode cX11_arcOf 6 = .ok (.istore_n 2, 1) := by decide +kernel
theorem dX11_arcOf_7 : decode cX11_arcOf 7 = .ok (.sipush 4096, 3) := by decide +kernel
theorem dX11_arcOf_10 : decode cX11_arcOf 10 = .ok (.istore_n 3, 1) := by decide +kernel
theorem dX11_arcOf_11 : decode cX11_arcOf 11 = .ok (.iload_n 3, 1) := by decide +kernel
theorem dX11_arcOf_12 : decode cX11_arcOf 12 = .ok (.ifCond .le 35, 3) := by decide +kernel
theorem dX11_arcOf_15 : decode cX11_arcOf 15 = .ok (.iload_n 2, 1) := by decide +kernel
theorem dX11_arcOf_16 : decode cX11_arcOf 16 = .ok (.iload_n 3, 1) := by decide +kernel
theorem dX11_arcOf_17 : decode cX11_arcOf 17 = .ok (.iadd, 1) := by decide +kernel
theorem dX11_arcOf_18 : decode cX11_arcOf 18 = .ok (.istore 4, 2) := by decide +kernel
theorem dX11_arcOf_20 : decode cX11_arcOf 20 = .ok (.iload 4, 2) := by decide +kernel
theorem dX11_arcOf_22 : decode cX11_arcOf 22 = .ok (.sipush 5400, 3) := by decide +kernel
theorem dX11_arcOf_25 : decode cX11_arcOf 25 = .ok (.if_icmp .gt 15, 3) := by decide +kernel
theorem dX11_arcOf_28 : decode cX11_arcOf 28 = .ok (.iload 4, 2) := by decide +kernel
theorem dX11_arcOf_30 : decode cX11_arcOf 30 = .ok (.invokestatic 152, 3) := by decide +kernel
theorem dX11_arcOf_33 : decode cX11_arcOf 33 = .ok (.iload_n 1, 1) := by decide +kernel
theorem dX11_arcOf_34 : decode cX11_arcOf 34 = .ok (.if_icmp .gt 6, 3) := by decide +kernel
theorem dX11_arcOf_37 : decode cX11_arcOf 37 = .ok (.iload 4, 2) := by decide +kernel
theorem dX11_arcOf_39 : decode cX11_arcOf 39 = .ok (.istore_n 2, 1) := by decide +kernel
theorem dX11_arcOf_40 : decode cX11_arcOf 40 = .ok (.iload_n 3, 1) := by decide +kernel
theorem dX11_arcOf_41 : decode cX11_arcOf 41 = .ok (.iconst 2, 1) := by decide +kernel
theorem dX11_arcOf_42 : decode cX11_arcOf 42 = .ok (.idiv, 1) := by decide +kernel
theorem dX11_arcOf_43 : decode cX11_arcOf 43 = .ok (.istore_n 3, 1) := by decide +kernel
theorem dX11_arcOf_44 : decode cX11_arcOf 44 = .ok (.goto (-33), 3) := by decide +kernel
theorem dX11_arcOf_47 : decode cX11_arcOf 47 = .ok (.iload_n 0, 1) := by decide +kernel
theorem dX11_arcOf_48 : decode cX11_arcOf 48 = .ok (.ifCond .ge 8, 3) := by decide +kernel
theorem dX11_arcOf_51 : decode cX11_arcOf 51 = .ok (.iload_n 2, 1) := by decide +kernel
theorem dX11_arcOf_52 : decode cX11_arcOf 52 = .ok (.ineg, 1) := by decide +kernel
theorem dX11_arcOf_53 : decode cX11_arcOf 53 = .ok (.goto 4, 3) := by decide +kernel
theorem dX11_arcOf_56 : decode cX11_arcOf 56 = .ok (.iload_n 2, 1) := by decide +kernel
theorem dX11_arcOf_57 : decode cX11_arcOf 57 = .ok (.ireturn, 1) := by decide +kernel
theorem dX11_rootOf_0 : decode cX11_rootOf 0 = .ok (.lconst 0, 1) := by decide +kernel
theorem dX11_rootOf_1 : decode cX11_rootOf 1 = .ok (.lstore_n 2, 1) := by decide +kernel
theorem dX11_rootOf_2 : decode cX11_rootOf 2 = .ok (.bipush 30, 2) := by decide +kernel
theorem dX11_rootOf_4 : decode cX11_rootOf 4 = .ok (.istore 4, 2) := by decide +kernel
theorem dX11_rootOf_6 : decode cX11_rootOf 6 = .ok (.iload 4, 2) := by decide +kernel
theorem dX11_rootOf_8 : decode cX11_rootOf 8 = .ok (.ifCond .lt 30, 3) := by decide +kernel
theorem dX11_rootOf_11 : decode cX11_rootOf 11 = .ok (.lload_n 2, 1) := by decide +kernel
theorem dX11_rootOf_12 : decode cX11_rootOf 12 = .ok (.lconst 1, 1) := by decide +kernel
theorem dX11_rootOf_13 : decode cX11_rootOf 13 = .ok (.iload 4, 2) := by decide +kernel
theorem dX11_rootOf_15 : decode cX11_rootOf 15 = .ok (.lshl, 1) := by decide +kernel
theorem dX11_rootOf_16 : decode cX11_rootOf 16 = .ok (.ladd, 1) := by decide +kernel
theorem dX11_rootOf_17 : decode cX11_rootOf 17 = .ok (.lstore 5, 2) := by decide +kernel
theorem dX11_rootOf_19 : decode cX11_rootOf 19 = .ok (.lload 5, 2) := by decide +kernel
theorem dX11_rootOf_21 : decode cX11_rootOf 21 = .ok (.lload 5, 2) := by decide +kernel
theorem dX11_rootOf_23 : decode cX11_rootOf 23 = .ok (.lmul, 1) := by decide +kernel
theorem dX11_rootOf_24 : decode cX11_rootOf 24 = .ok (.lload_n 0, 1) := by decide +kernel
theorem dX11_rootOf_25 : decode cX11_rootOf 25 = .ok (.lcmp, 1) := by decide +kernel
theorem dX11_rootOf_26 : decode cX11_rootOf 26 = .ok (.ifCond .gt 6, 3) := by decide +kernel
theorem dX11_rootOf_29 : decode cX11_rootOf 29 = .ok (.lload 5, 2) := by decide +kernel
theorem dX11_rootOf_31 : decode cX11_rootOf 31 = .ok (.lstore_n 2, 1) := by decide +kernel
theorem dX11_rootOf_32 : decode cX11_rootOf 32 = .ok (.iinc 4 (-1), 3) := by decide +kernel
theorem dX11_rootOf_35 : decode cX11_rootOf 35 = .ok (.goto (-29), 3) := by decide +kernel
theorem dX11_rootOf_38 : decode cX11_rootOf 38 = .ok (.lload_n 2, 1) := by decide +kernel
theorem dX11_rootOf_39 : decode cX11_rootOf 39 = .ok (.l2i, 1) := by decide +kernel
theorem dX11_rootOf_40 : decode cX11_rootOf 40 = .ok (.ireturn, 1) := by decide +kernel
theorem dX11_longitudeOf_0 : decode cX11_longitudeOf 0 = .ok (.lload_n 0, 1) := by decide +kernel
theorem dX11_longitudeOf_1 : decode cX11_longitudeOf 1 = .ok (.ldc2_w 461, 3) := by decide +kernel
theorem dX11_longitudeOf_4 : decode cX11_longitudeOf 4 = .ok (.ladd, 1) := by decide +kernel
theorem dX11_longitudeOf_5 : decode cX11_longitudeOf 5 = .ok (.ldc2_w 467, 3) := by decide +kernel
theorem dX11_longitudeOf_8 : decode cX11_longitudeOf 8 = .ok (.invokestatic 469, 3) := by decide +kernel
theorem dX11_longitudeOf_11 : decode cX11_longitudeOf 11 = .ok (.ldc2_w 461, 3) := by decide +kernel
theorem dX11_longitudeOf_14 : decode cX11_longitudeOf 14 = .ok (.lsub, 1) := by decide +kernel
theorem dX11_longitudeOf_15 : decode cX11_longitudeOf 15 = .ok (.l2i, 1) := by decide +kernel
theorem dX11_longitudeOf_16 : decode cX11_longitudeOf 16 = .ok (.ireturn, 1) := by decide +kernel
theorem dX11_at_0 : decode cX11_at 0 = .ok (.iload_n 1, 1) := by decide +kernel
theorem dX11_at_1 : decode cX11_at 1 = .ok (.ifCond .lt 9, 3) := by decide +kernel
theorem dX11_at_4 : decode cX11_at 4 = .ok (.iload_n 1, 1) := by decide +kernel
theorem dX11_at_5 : decode cX11_at 5 = .ok (.aload_n 0, 1) := by decide +kernel
theorem dX11_at_6 : decode cX11_at 6 = .ok (.arraylength, 1) := by decide +kernel
theorem dX11_at_7 : decode cX11_at 7 = .ok (.if_icmp .lt 7, 3) := by decide +kernel
theorem dX11_at_10 : decode cX11_at 10 = .ok (.iconst 0, 1) := by decide +kernel
theorem dX11_at_11 : decode cX11_at 11 = .ok (.goto 6, 3) := by decide +kernel
theorem dX11_at_14 : decode cX11_at 14 = .ok (.aload_n 0, 1) := by decide +kernel
theorem dX11_at_15 : decode cX11_at 15 = .ok (.iload_n 1, 1) := by decide +kernel
theorem dX11_at_16 : decode cX11_at 16 = .ok (.iaload, 1) := by decide +kernel
theorem dX11_at_17 : decode cX11_at 17 = .ok (.ireturn, 1) := by decide +kernel
theorem dX11_put_0 : decode cX11_put 0 = .ok (.iload_n 1, 1) := by decide +kernel
theorem dX11_put_1 : decode cX11_put 1 = .ok (.ifCond .lt 13, 3) := by decide +kernel
theorem dX11_put_4 : decode cX11_put 4 = .ok (.iload_n 1, 1) := by decide +kernel
theorem dX11_put_5 : decode cX11_put 5 = .ok (.aload_n 0, 1) := by decide +kernel
theorem dX11_put_6 : decode cX11_put 6 = .ok (.arraylength, 1) := by decide +kernel
theorem dX11_put_7 : decode cX11_put 7 = .ok (.if_icmp .ge 7, 3) := by decide +kernel
theorem dX11_put_10 : decode cX11_put 10 = .ok (.aload_n 0, 1) := by decide +kernel
theorem dX11_put_11 : decode cX11_put 11 = .ok (.iload_n 1, 1) := by decide +kernel
theorem dX11_put_12 : decode cX11_put 12 = .ok (.iload_n 2, 1) := by decide +kernel
theorem dX11_put_13 : decode cX11_put 13 = .ok (.iastore, 1) := by decide +kernel
theorem dX11_put_14 : decode cX11_put 14 = .ok (.return_, 1) := by decide +kernel
theorem dX11_copyRow_0 : decode cX11_copyRow 0 = .ok (.aload_n 0, 1) := by decide +kernel
theorem dX11_copyRow_1 : decode cX11_copyRow 1 = .ok (.iconst 0, 1) := by decide +kernel
theorem dX11_copyRow_2 : decode cX11_copyRow 2 = .ok (.aload_n 1, 1) := by decide +kernel
theorem dX11_copyRow_3 : decode cX11_copyRow 3 = .ok (.iconst 0, 1) := by decide +kernel
theorem dX11_copyRow_4 : decode cX11_copyRow 4 = .ok (.aload_n 0, 1) := by decide +kernel
theorem dX11_copyRow_5 : decode cX11_copyRow 5 = .ok (.arraylength, 1) := by decide +kernel
theorem dX11_copyRow_6 : decode cX11_copyRow 6 = .ok (.aload_n 1, 1) := by decide +kernel
theorem dX11_copyRow_7 : decode cX11_copyRow 7 = .ok (.arraylength, 1) := by decide +kernel
theorem dX11_copyRow_8 : decode cX11_copyRow 8 = .ok (.invokestatic 471, 3) := by decide +kernel
theorem dX11_copyRow_11 : decode cX11_copyRow 11 = .ok (.invokestatic 473, 3) := by decide +kernel
theorem dX11_copyRow_14 : decode cX11_copyRow 14 = .ok (.return_, 1) := by decide +kernel
theorem dX12_init_0 : decode cX12_init 0 = .ok (.aload_n 0, 1) := by decide +kernel
theorem dX12_init_1 : decode cX12_init 1 = .ok (.invokespecial 1, 3) := by decide +kernel
theorem dX12_init_4 : decode cX12_init 4 = .ok (.aload_n 0, 1) := by decide +kernel
theorem dX12_init_5 : decode cX12_init 5 = .ok (.bipush 93, 2) := by decide +kernel
theorem dX12_init_7 : decode cX12_init 7 = .ok (.newarray .long, 2) := by decide +kernel
theorem dX12_init_9 : decode cX12_init 9 = .ok (.putfield 9, 3) := by decide +kernel
theorem dX12_init_12 : decode cX12_init 12 = .ok (.aload_n 0, 1) := by decide +kernel
theorem dX12_init_13 : decode cX12_init 13 = .ok (.bipush 93, 2) := by decide +kernel
theorem dX12_init_15 : decode cX12_init 15 = .ok (.newarray .long, 2) := by decide +kernel
theorem dX12_init_17 : decode cX12_init 17 = .ok (.putfield 13, 3) := by decide +kernel
theorem dX12_init_20 : decode cX12_init 20 = .ok (.aload_n 0, 1) := by decide +kernel
theorem dX12_init_21 : decode cX12_init 21 = .ok (.bipush 93, 2) := by decide +kernel
theorem dX12_init_23 : decode cX12_init 23 = .ok (.newarray .long, 2) := by decide +kernel
theorem dX12_init_25 : decode cX12_init 25 = .ok (.putfield 16, 3) := by decide +kernel
theorem dX12_init_28 : decode cX12_init 28 = .ok (.aload_n 0, 1) := by decide +kernel
theorem dX12_init_29 : decode cX12_init 29 = .ok (.sipush 930, 3) := by decide +kernel
theorem dX12_init_32 : decode cX12_init 32 = .ok (.newarray .long, 2) := by decide +kernel
theorem dX12_init_34 : decode cX12_init 34 = .ok (.putfield 19, 3) := by decide +kernel
theorem dX12_init_37 : decode cX12_init 37 = .ok (.aload_n 0, 1) := by decide +kernel
theorem dX12_init_38 : decode cX12_init 38 = .ok (.bipush 12, 2) := by decide +kernel
theorem dX12_init_40 : decode cX12_init 40 = .ok (.newarray .long, 2) := by decide +kernel
theorem dX12_init_42 : decode cX12_init 42 = .ok (.putfield 22, 3) := by decide +kernel
theorem dX12_init_45 : decode cX12_init 45 = .ok (.aload_n 0, 1) := by decide +kernel
theorem dX12_init_46 : decode cX12_init 46 = .ok (.bipush 12, 2) := by decide +kernel
theorem dX12_init_48 : decode cX12_init 48 = .ok (.newarray .long, 2) := by decide +kernel
theorem dX12_init_50 : decode cX12_init 50 = .ok (.putfield 25, 3) := by decide +kernel
theorem dX12_init_53 : decode cX12_init 53 = .ok (.aload_n 0, 1) := by decide +kernel
theorem dX12_init_54 : decode cX12_init 54 = .ok (.bipush 12, 2) := by decide +kernel
theorem dX12_init_56 : decode cX12_init 56 = .ok (.newarray .long, 2) := by decide +kernel
theorem dX12_init_58 : decode cX12_init 58 = .ok (.putfield 28, 3) := by decide +kernel
theorem dX12_init_61 : decode cX12_init 61 = .ok (.aload_n 0, 1) := by decide +kernel
theorem dX12_init_62 : decode cX12_init 62 = .ok (.iconst 3, 1) := by decide +kernel
theorem dX12_init_63 : decode cX12_init 63 = .ok (.newarray .long, 2) := by decide +kernel
theorem dX12_init_65 : decode cX12_init 65 = .ok (.putfield 31, 3) := by decide +kernel
theorem dX12_init_68 : decode cX12_init 68 = .ok (.aload_n 0, 1) := by decide +kernel
theorem dX12_init_69 : decode cX12_init 69 = .ok (.iconst 3, 1) := by decide +kernel
theorem dX12_init_70 : decode cX12_init 70 = .ok (.newarray .long, 2) := by decide +kernel
theorem dX12_init_72 : decode cX12_init 72 = .ok (.putfield 34, 3) := by decide +kernel
theorem dX12_init_75 : decode cX12_init 75 = .ok (.aload_n 0, 1) := by decide +kernel
theorem dX12_init_76 : decode cX12_init 76 = .ok (.bipush 80, 2) := by decide +kernel
theorem dX12_init_78 : decode cX12_init 78 = .ok (.newarray .int, 2) := by decide +kernel
theorem dX12_init_80 : decode cX12_init 80 = .ok (.putfield 37, 3) := by decide +kernel
theorem dX12_init_83 : decode cX12_init 83 = .ok (.aload_n 0, 1) := by decide +kernel
theorem dX12_init_84 : decode cX12_init 84 = .ok (.sipush 700, 3) := by decide +kernel
theorem dX12_init_87 : decode cX12_init 87 = .ok (.newarray .int, 2) := by decide +kernel
theorem dX12_init_89 : decode cX12_init 89 = .ok (.putfield 41, 3) := by decide +kernel
theorem dX12_init_92 : decode cX12_init 92 = .ok (.aload_n 0, 1) := by decide +kernel
theorem dX12_init_93 : decode cX12_init 93 = .ok (.iconst (-1), 1) := by decide +kernel
theorem dX12_init_94 : decode cX12_init 94 = .ok (.putfield 44, 3) := by decide +kernel
theorem dX12_init_97 : decode cX12_init 97 = .ok (.aload_n 0, 1) := by decide +kernel
theorem dX12_init_98 : decode cX12_init 98 = .ok (.bipush 7, 2) := by decide +kernel
theorem dX12_init_100 : decode cX12_init 100 = .ok (.anewarray 48, 3) := by decide +kernel
theorem dX12_init_103 : decode cX12_init 103 = .ok (.dup, 1) := by decide +kernel
theorem dX12_init_104 : decode cX12_init 104 = .ok (.iconst 0, 1) := by decide +kernel
theorem dX12_init_105 : decode cX12_init 105 = .ok (.ldc 50, 2) := by decide +kernel
theorem dX12_init_107 : decode cX12_init 107 = .ok (.aastore, 1) := by decide +kernel
theorem dX12_init_108 : decode cX12_init 108 = .ok (.dup, 1) := by decide +kernel
theorem dX12_init_109 : decode cX12_init 109 = .ok (.iconst 1, 1) := by decide +kernel
theorem dX12_init_110 : decode cX12_init 110 = .ok (.ldc 52, 2) := by decide +kernel
theorem dX12_init_112 : decode cX12_init 112 = .ok (.aastore, 1) := by decide +kernel
theorem dX12_init_113 : decode cX12_init 113 = .ok (.dup, 1) := by decide +kernel
theorem dX12_init_114 : decode cX12_init 114 = .ok (.iconst 2, 1) := by decide +kernel
theorem dX12_init_115 : decode cX12_init 115 = .ok (.ldc 54, 2) := by decide +kernel
theorem dX12_init_117 : decode cX12_init 117 = .ok (.aastore, 1) := by decide +kernel
theorem dX12_init_118 : decode cX12_init 118 = .ok (.dup, 1) := by decide +kernel
theorem dX12_init_119 : decode cX12_init 119 = .ok (.iconst 3, 1) := by decide +kernel
theorem dX12_init_120 : decode cX12_init 120 = .ok (.ldc 56, 2) := by decide +kernel
theorem dX12_init_122 : decode cX12_init 122 = .ok (.aastore, 1) := by decide +kernel
theorem dX12_init_123 : decode cX12_init 123 = .ok (.dup, 1) := by decide +kernel
theorem dX12_init_124 : decode cX12_init 124 = .ok (.iconst 4, 1) := by decide +kernel
theorem dX12_init_125 : decode cX12_init 125 = .ok (.ldc 58, 2) := by decide +kernel
theorem dX12_init_127 : decode cX12_init 127 = .ok (.aastore, 1) := by decide +kernel
theorem dX12_init_128 : decode cX12_init 128 = .ok (.dup, 1) := by decide +kernel
theorem dX12_init_129 : decode cX12_init 129 = .ok (.iconst 5, 1) := by decide +kernel
theorem dX12_init_130 : decode cX12_init 130 = .ok (.ldc 60, 2) := by decide +kernel
theorem dX12_init_132 : decode cX12_init 132 = .ok (.aastore, 1) := by decide +kernel
theorem dX12_init_133 : decode cX12_init 133 = .ok (.dup, 1) := by decide +kernel
theorem dX12_init_134 : decode cX12_init 134 = .ok (.bipush 6, 2) := by decide +kernel
theorem dX12_init_136 : decode cX12_init 136 = .ok (.ldc 62, 2) := by decide +kernel
theorem dX12_init_138 : decode cX12_init 138 = .ok (.aastore, 1) := by decide +kernel
theorem dX12_init_139 : decode cX12_init 139 = .ok (.putfield 64, 3) := by decide +kernel
theorem dX12_init_142 : decode cX12_init 142 = .ok (.aload_n 0, 1) := by decide +kernel
theorem dX12_init_143 : decode cX12_init 143 = .ok (.sipush 200, 3) := by decide +kernel
theorem dX12_init_146 : decode cX12_init 146 = .ok (.newarray .int, 2) := by decide +kernel
theorem dX12_init_148 : decode cX12_init 148 = .ok (.putfield 68, 3) := by decide +kernel
theorem dX12_init_151 : decode cX12_init 151 = .ok (.aload_n 0, 1) := by decide +kernel
theorem dX12_init_152 : decode cX12_init 152 = .ok (.sipush 200, 3) := by decide +kernel
theorem dX12_init_155 : decode cX12_init 155 = .ok (.newarray .long, 2) := by decide +kernel
theorem dX12_init_157 : decode cX12_init 157 = .ok (.putfield 71, 3) := by decide +kernel
theorem dX12_init_160 : decode cX12_init 160 = .ok (.return_, 1) := by decide +kernel
theorem dX12_thrown_0 : decode cX12_thrown 0 = .ok (.aload_n 0, 1) := by decide +kernel
theorem dX12_thrown_1 : decode cX12_thrown 1 = .ok (.getfield 74, 3) := by decide +kernel
theorem dX12_thrown_4 : decode cX12_thrown 4 = .ok (.ireturn, 1) := by decide +kernel
theorem dX12_raise_0 : decode cX12_raise 0 = .ok (.aload_n 0, 1) := by decide +kernel
theorem dX12_raise_1 : decode cX12_raise 1 = .ok (.iload_n 1, 1) := by decide +kernel
theorem dX12_raise_2 : decode cX12_raise 2 = .ok (.putfield 74, 3) := by decide +kernel
theorem dX12_raise_5 : decode cX12_raise 5 = .ok (.iconst 0, 1) := by decide +kernel
theorem dX12_raise_6 : decode cX12_raise 6 = .ok (.ireturn, 1) := by decide +kernel
theorem dX12_inRange_0 : decode cX12_inRange 0 = .ok (.lload_n 0, 1) := by decide +kernel
theorem dX12_inRange_1 : decode cX12_inRange 1 = .ok (.lload_n 2, 1) := by decide +kernel
theorem dX12_inRange_2 : decode cX12_inRange 2 = .ok (.lcmp, 1) := by decide +kernel
theorem dX12_inRange_3 : decode cX12_inRange 3 = .ok (.ifCond .lt 14, 3) := by decide +kernel
theorem dX12_inRange_6 : decode cX12_inRange 6 = .ok (.lload_n 0, 1) := by decide +kernel
theorem dX12_inRange_7 : decode cX12_inRange 7 = .ok (.lload 4, 2) := by decide +kernel
theorem dX12_inRange_9 : decode cX12_inRange 9 = .ok (.lcmp, 1) := by decide +kernel
theorem dX12_inRange_10 : decode cX12_inRange 10 = .ok (.ifCond .gt 7, 3) := by decide +kernel
theorem dX12_inRange_13 : decode cX12_inRange 13 = .ok (.iconst 1, 1) := by decide +kernel
theorem dX12_inRange_14 : decode cX12_inRange 14 = .ok (.goto 4, 3) := by decide +kernel
theorem dX12_inRange_17 : decode cX12_inRange 17 = .ok (.iconst 0, 1) := by decide +kernel
theorem dX12_inRange_18 : decode cX12_inRange 18 = .ok (.ireturn, 1) := by decide +kernel
theorem dX12_bounded_0 : decode cX12_bounded 0 = .ok (.lload_n 2, 1) := by decide +kernel
theorem dX12_bounded_1 : decode cX12_bounded 1 = .ok (.lneg, 1) := by decide +kernel
theorem dX12_bounded_2 : decode cX12_bounded 2 = .ok (.lload_n 2, 1) := by decide +kernel
theorem dX12_bounded_3 : decode cX12_bounded 3 = .ok (.lload_n 0, 1) := by decide +kernel
theorem dX12_bounded_4 : decode cX12_bounded 4 = .ok (.invokestatic 77, 3) := by decide +kernel
theorem dX12_bounded_7 : decode cX12_bounded 7 = .ok (.invokestatic 83, 3) := by decide +kernel
theorem dX12_bounded_10 : decode cX12_bounded 10 = .ok (.lreturn, 1) := by decide +kernel
theorem dX12_floor_0 : decode cX12_floor 0 = .ok (.lload_n 0, 1) := by decide +kernel
theorem dX12_floor_1 : decode cX12_floor 1 = .ok (.lload_n 2, 1) := by decide +kernel
theorem dX12_floor_2 : decode cX12_floor 2 = .ok (.ldiv, 1) := by decide +kernel
theorem dX12_floor_3 : decode cX12_floor 3 = .ok (.lstore 4, 2) := by decide +kernel
theorem dX12_floor_5 : decode cX12_floor 5 = .ok (.lload 4, 2) := by decide +kernel
theorem dX12_floor_7 : decode cX12_floor 7 = .ok (.lload_n 2, 1) := by decide +kernel
theorem dX12_floor_8 : decode cX12_floor 8 = .ok (.lmul, 1) := by decide +kernel
theorem dX12_floor_9 : decode cX12_floor 9 = .ok (.lload_n 0, 1) := by decide +kernel
theorem dX12_floor_10 : decode cX12_floor 10 = .ok (.lcmp, 1) := by decide +kernel
theorem dX12_floor_11 : decode cX12_floor 11 = .ok (.ifCond .eq 35, 3) := by decide +kernel
theorem dX12_floor_14 : decode cX12_floor 14 = .ok (.lload_n 0, 1) := by decide +kernel
theorem dX12_floor_15 : decode cX12_floor 15 = .ok (.lconst 0, 1) := by decide +kernel
theorem dX12_floor_16 : decode cX12_floor 16 = .ok (.lcmp, 1) := by decide +kernel
theorem dX12_floor_17 : decode cX12_floor 17 = .ok (.ifCond .ge 7, 3) := by decide +kernel
theorem dX12_floor_20 : decode cX12_floor 20 = .ok (.iconst 1, 1) := by decide +kernel
theorem dX12_floor_21 : decode cX12_floor 21 = .ok (.goto 4, 3) := by decide +kernel
theorem dX12_floor_24 : decode cX12_floor 24 = .ok (.iconst 0, 1) := by decide +kernel
theorem dX12_floor_25 : decode cX12_floor 25 = .ok (.lload_n 2, 1) := by decide +kernel
theorem dX12_floor_26 : decode cX12_floor 26 = .ok (.lconst 0, 1) := by decide +kernel
theorem dX12_floor_27 : decode cX12_floor 27 = .ok (.lcmp, 1) := by decide +kernel
theorem dX12_floor_28 : decode cX12_floor 28 = .ok (.ifCond .ge 7, 3) := by decide +kernel
theorem dX12_floor_31 : decode cX12_floor 31 = .ok (.iconst 1, 1) := by decide +kernel
theorem dX12_floor_32 : decode cX12_floor 32 = .ok (.goto 4, 3) := by decide +kernel
theorem dX12_floor_35 : decode cX12_floor 35 = .ok (.iconst 0, 1) := by decide +kernel
theorem dX12_floor_36 : decode cX12_floor 36 = .ok (.if_icmp .eq 10, 3) := by decide +kernel
theorem dX12_floor_39 : decode cX12_floor 39 = .ok (.lload 4, 2) := by decide +kernel
theorem dX12_floor_41 : decode cX12_floor 41 = .ok (.lconst 1, 1) := by decide +kernel
theorem dX12_floor_42 : decode cX12_floor 42 = .ok (.lsub, 1) := by decide +kernel
theorem dX12_floor_43 : decode cX12_floor 43 = .ok (.goto 5, 3) := by decide +kernel
theorem dX12_floor_46 : decode cX12_floor 46 = .ok (.lload 4, 2) := by decide +kernel
theorem dX12_floor_48 : decode cX12_floor 48 = .ok (.lreturn, 1) := by decide +kernel
theorem dX12_root_0 : decode cX12_root 0 = .ok (.lconst 0, 1) := by decide +kernel
theorem dX12_root_1 : decode cX12_root 1 = .ok (.lstore_n 2, 1) := by decide +kernel
theorem dX12_root_2 : decode cX12_root 2 = .ok (.ldc2_w 86, 3) := by decide +kernel
theorem dX12_root_5 : decode cX12_root 5 = .ok (.lstore 4, 2) := by decide +kernel
theorem dX12_root_7 : decode cX12_root 7 = .ok (.lload_n 2, 1) := by decide +kernel
theorem dX12_root_8 : decode cX12_root 8 = .ok (.lload 4, 2) := by decide +kernel
theorem dX12_root_10 : decode cX12_root 10 = .ok (.lcmp, 1) := by decide +kernel
theorem dX12_root_11 : decode cX12_root 11 = .ok (.ifCond .ge 40, 3) := by decide +kernel
theorem dX12_root_14 : decode cX12_root 14 = .ok (.lload_n 2, 1) := by decide +kernel
theorem dX12_root_15 : decode cX12_root 15 = .ok (.lload 4, 2) := by decide +kernel
theorem dX12_root_17 : decode cX12_root 17 = .ok (.ladd, 1) := by decide +kernel
theorem dX12_root_18 : decode cX12_root 18 = .ok (.lconst 1, 1) := by decide +kernel
theorem dX12_root_19 : decode cX12_root 19 = .ok (.ladd, 1) := by decide +kernel
theorem dX12_root_20 : decode cX12_root 20 = .ok (.ldc2_w 88, 3) := by decide +kernel
theorem dX12_root_23 : decode cX12_root 23 = .ok (.ldiv, 1) := by decide +kernel
theorem dX12_root_24 : decode cX12_root 24 = .ok (.lstore 6, 2) := by decide +kernel
theorem dX12_root_26 : decode cX12_root 26 = .ok (.lload 6, 2) := by decide +kernel
theorem dX12_root_28 : decode cX12_root 28 = .ok (.lload 6, 2) := by decide +kernel
theorem dX12_root_30 : decode cX12_root 30 = .ok (.lmul, 1) := by decide +kernel
theorem dX12_root_31 : decode cX12_root 31 = .ok (.lload_n 0, 1) := by decide +kernel
theorem dX12_root_32 : decode cX12_root 32 = .ok (.lcmp, 1) := by decide +kernel
theorem dX12_root_33 : decode cX12_root 33 = .ok (.ifCond .gt 9, 3) := by decide +kernel
theorem dX12_root_36 : decode cX12_root 36 = .ok (.lload 6, 2) := by decide +kernel
theorem dX12_root_38 : decode cX12_root 38 = .ok (.lstore_n 2, 1) := by decide +kernel
theorem dX12_root_39 : decode cX12_root 39 = .ok (.goto 9, 3) := by decide +kernel
theorem dX12_root_42 : decode cX12_root 42 = .ok (.lload 6, 2) := by decide +kernel
theorem dX12_root_44 : decode cX12_root 44 = .ok (.lconst 1, 1) := by decide +kernel
theorem dX12_root_45 : decode cX12_root 45 = .ok (.lsub, 1) := by decide +kernel
theorem dX12_root_46 : decode cX12_root 46 = .ok (.lstore 4, 2) := by decide +kernel
theorem dX12_root_48 : decode cX12_root 48 = .ok (.goto (-41), 3) := by decide +kernel
theorem dX12_root_51 : decode cX12_root 51 = .ok (.lload_n 2, 1) := by decide +kernel
theorem dX12_root_52 : decode cX12_root 52 = .ok (.lreturn, 1) := by decide +kernel
theorem dX12_turned_0 : decode cX12_turned 0 = .ok (.lload_n 0, 1) := by decide +kernel
theorem dX12_turned_1 : decode cX12_turned 1 = .ok (.ldc2_w 90, 3) := by decide +kernel
theorem dX12_turned_4 : decode cX12_turned 4 = .ok (.lload_n 0, 1) := by decide +kernel
theorem dX12_turned_5 : decode cX12_turned 5 = .ok (.ldc2_w 90, 3) := by decide +kernel
theorem dX12_turned_8 : decode cX12_turned 8 = .ok (.invokestatic 92, 3) := by decide +kernel
theorem dX12_turned_11 : decode cX12_turned 11 = .ok (.lmul, 1) := by decide +kernel
theorem dX12_turned_12 : decode cX12_turned 12 = .ok (.lsub, 1) := by decide +kernel
theorem dX12_turned_13 : decode cX12_turned 13 = .ok (.lreturn, 1) := by decide +kernel
theorem dX12_sineOf_0 : decode cX12_sineOf 0 = .ok (.lload_n 0, 1) := by decide +kernel
theorem dX12_sineOf_1 : decode cX12_sineOf 1 = .ok (.invokestatic 95, 3) := by decide +kernel
theorem dX12_sineOf_4 : decode cX12_sineOf 4 = .ok (.lstore_n 2, 1) := by decide +kernel
theorem dX12_sineOf_5 : decode cX12_sineOf 5 = .ok (.lload_n 2, 1) := by decide +kernel
theorem dX12_sineOf_6 : decode cX12_sineOf 6 = .ok (.ldc2_w 99, 3) := by decide +kernel
theorem dX12_sineOf_9 : decode cX12_sineOf 9 = .ok (.lcmp, 1) := by decide +kernel
theorem dX12_sineOf_10 : decode cX12_sineOf 10 = .ok (.ifCond .le 13, 3) := by decide +kernel
theorem dX12_sineOf_13 : decode cX12_sineOf 13 = .ok (.lload_n 2, 1) := by decide +kernel
theorem dX12_sineOf_14 : decode cX12_sineOf 14 = .ok (.ldc2_w 99, 3) := by decide +kernel
theorem dX12_sineOf_17 : decode cX12_sineOf 17 = .ok (.lsub, 1) := by decide +kernel
theorem dX12_sineOf_18 : decode cX12_sineOf 18 = .ok (.invokestatic 101, 3) := by decide +kernel
theorem dX12_sineOf_21 : decode cX12_sineOf 21 = .ok (.lneg, 1) := by decide +kernel
theorem dX12_sineOf_22 : decode cX12_sineOf 22 = .ok (.lreturn, 1) := by decide +kernel
theorem dX12_sineOf_23 : decode cX12_sineOf 23 = .ok (.lload_n 2, 1) := by decide +kernel
theorem dX12_sineOf_24 : decode cX12_sineOf 24 = .ok (.ldc2_w 99, 3) := by decide +kernel
theorem dX12_sineOf_27 : decode cX12_sineOf 27 = .ok (.lload_n 2, 1) := by decide +kernel
theorem dX12_sineOf_28 : decode cX12_sineOf 28 = .ok (.lsub, 1) := by decide +kernel
theorem dX12_sineOf_29 : decode cX12_sineOf 29 = .ok (.lmul, 1) := by decide +kernel
theorem dX12_sineOf_30 : decode cX12_sineOf 30 = .ok (.lstore 4, 2) := by decide +kernel
theorem dX12_sineOf_32 : decode cX12_sineOf 32 = .ok (.ldc2_w 104, 3) := by decide +kernel
theorem dX12_sineOf_35 : decode cX12_sineOf 35 = .ok (.lload 4, 2) := by decide +kernel
theorem dX12_sineOf_37 : decode cX12_sineOf 37 = .ok (.lmul, 1) := by decide +kernel
theorem dX12_sineOf_38 : decode cX12_sineOf 38 = .ok (.ldc2_w 106, 3) := by decide +kernel
theorem dX12_sineOf_41 : decode cX12_sineOf 41 = .ok (.lload 4, 2) := by decide +kernel
theorem dX12_sineOf_43 : decode cX12_sineOf 43 = .ok (.lsub, 1) := by decide +kernel
theorem dX12_sineOf_44 : decode cX12_sineOf 44 = .ok (.ldiv, 1) := by decide +kernel
theorem dX12_sineOf_45 : decode cX12_sineOf 45 = .ok (.lreturn, 1) := by decide +kernel
theorem dX12_cosineOf_0 : decode cX12_cosineOf 0 = .ok (.lload_n 0, 1) := by decide +kernel
theorem dX12_cosineOf_1 : decode cX12_cosineOf 1 = .ok (.ldc2_w 108, 3) := by decide +kernel
theorem dX12_cosineOf_4 : decode cX12_cosineOf 4 = .ok (.ladd, 1) := by decide +kernel
theorem dX12_cosineOf_5 : decode cX12_cosineOf 5 = .ok (.invokestatic 101, 3) := by decide +kernel
theorem dX12_cosineOf_8 : decode cX12_cosineOf 8 = .ok (.lreturn, 1) := by decide +kernel
theorem dX12_arcOf_0 : decode cX12_arcOf 0 = .ok (.lload_n 0, 1) := by decide +kernel
theorem dX12_arcOf_1 : decode cX12_arcOf 1 = .ok (.lconst 0, 1) := by decide +kernel
theorem dX12_arcOf_2 : decode cX12_arcOf 2 = .ok (.lcmp, 1) := by decide +kernel
theorem dX12_arcOf_3 : decode cX12_arcOf 3 = .ok (.ifCond .ge 10, 3) := by decide +kernel
theorem dX12_arcOf_6 : decode cX12_arcOf 6 = .ok (.lload_n 0, 1) := by decide +kernel
theorem dX12_arcOf_7 : decode cX12_arcOf 7 = .ok (.lneg, 1) := by decide +kernel
theorem dX12_arcOf_8 : decode cX12_arcOf 8 = .ok (.invokestatic 110, 3) := by decide +kernel
theorem dX12_arcOf_11 : decode cX12_arcOf 11 = .ok (.lneg, 1) := by decide +kernel
theorem dX12_arcOf_12 : decode cX12_arcOf 12 = .ok (.lreturn, 1) := by decide +kernel
theorem dX12_arcOf_13 : decode cX12_arcOf 13 = .ok (.lconst 0, 1) := by decide +kernel
theorem dX12_arcOf_14 : decode cX12_arcOf 14 = .ok (.lstore_n 2, 1) := by decide +kernel
theorem dX12_arcOf_15 : decode cX12_arcOf 15 = .ok (.ldc2_w 108, 3) := by decide +kernel
theorem dX12_arcOf_18 : decode cX12_arcOf 18 = .ok (.lstore 4, 2) := by decide +kernel
theorem dX12_arcOf_20 : decode cX12_arcOf 20 = .ok (.lload_n 2, 1) := by decide +kernel
theorem dX12_arcOf_21 : decode cX12_arcOf 21 = .ok (.lload 4, 2) := by decide +kernel
theorem dX12_arcOf_23 : decode cX12_arcOf 23 = .ok (.lcmp, 1) := by decide +kernel
theorem dX12_arcOf_24 : decode cX12_arcOf 24 = .ok (.ifCond .ge 40, 3) := by decide +kernel
theorem dX12_arcOf_27 : decode cX12_arcOf 27 = .ok (.lload_n 2, 1) := by decide +kernel
theorem dX12_arcOf_28 : decode cX12_arcOf 28 = .ok (.lload 4, 2) := by decide +kernel
theorem dX12_arcOf_30 : decode cX12_arcOf 30 = .ok (.ladd, 1) := by decide +kernel
theorem dX12_arcOf_31 : decode cX12_arcOf 31 = .ok (.lconst 1, 1) := by decide +kernel
theorem dX12_arcOf_32 : decode cX12_arcOf 32 = .ok (.ladd, 1) := by decide +kernel
theorem dX12_arcOf_33 : decode cX12_arcOf 33 = .ok (.ldc2_w 88, 3) := by decide +kernel
theorem dX12_arcOf_36 : decode cX12_arcOf 36 = .ok (.ldiv, 1) := by decide +kernel
theorem dX12_arcOf_37 : decode cX12_arcOf 37 = .ok (.lstore 6, 2) := by decide +kernel
theorem dX12_arcOf_39 : decode cX12_arcOf 39 = .ok (.lload 6, 2) := by decide +kernel
theorem dX12_arcOf_41 : decode cX12_arcOf 41 = .ok (.invokestatic 101, 3) := by decide +kernel
theorem dX12_arcOf_44 : decode cX12_arcOf 44 = .ok (.lload_n 0, 1) := by decide +kernel
theorem dX12_arcOf_45 : decode cX12_arcOf 45 = .ok (.lcmp, 1) := by decide +kernel
theorem dX12_arcOf_46 : decode cX12_arcOf 46 = .ok (.ifCond .gt 9, 3) := by decide +kernel
theorem dX12_arcOf_49 : decode cX12_arcOf 49 = .ok (.lload 6, 2) := by decide +kernel
theorem dX12_arcOf_51 : decode cX12_arcOf 51 = .ok (.lstore_n 2, 1) := by decide +kernel
theorem dX12_arcOf_52 : decode cX12_arcOf 52 = .ok (.goto 9, 3) := by decide +kernel
theorem dX12_arcOf_55 : decode cX12_arcOf 55 = .ok (.lload 6, 2) := by decide +kernel
theorem dX12_arcOf_57 : decode cX12_arcOf 57 = .ok (.lconst 1, 1) := by decide +kernel
theorem dX12_arcOf_58 : decode cX12_arcOf 58 = .ok (.lsub, 1) := by decide +kernel
theorem dX12_arcOf_59 : decode cX12_arcOf 59 = .ok (.lstore 4, 2) := by decide +kernel
theorem dX12_arcOf_61 : decode cX12_arcOf 61 = .ok (.goto (-41), 3) := by decide +kernel
theorem dX12_arcOf_64 : decode cX12_arcOf 64 = .ok (.lload_n 2, 1) := by decide +kernel
theorem dX12_arcOf_65 : decode cX12_arcOf 65 = .ok (.lreturn, 1) := by decide +kernel
theorem dX12_product_0 : decode cX12_product 0 = .ok (.lload_n 0, 1) := by decide +kernel
theorem dX12_product_1 : decode cX12_product 1 = .ok (.lload_n 2, 1) := by decide +kernel
theorem dX12_product_2 : decode cX12_product 2 = .ok (.lmul, 1) := by decide +kernel
theorem dX12_product_3 : decode cX12_product 3 = .ok (.ldc2_w 113, 3) := by decide +kernel
theorem dX12_product_6 : decode cX12_product 6 = .ok (.invokestatic 92, 3) := by decide +kernel
theorem dX12_product_9 : decode cX12_product 9 = .ok (.lreturn, 1) := by decide +kernel
theorem dX12_ofLeg_0 : decode cX12_ofLeg 0 = .ok (.aload_n 0, 1) := by decide +kernel
theorem dX12_ofLeg_1 : decode cX12_ofLeg 1 = .ok (.getfield 9, 3) := by decide +kernel
theorem dX12_ofLeg_4 : decode cX12_ofLeg 4 = .ok (.bipush 33, 2) := by decide +kernel
theorem dX12_ofLeg_6 : decode cX12_ofLeg 6 = .ok (.iconst 3, 1) := by decide +kernel
theorem dX12_ofLeg_7 : decode cX12_ofLeg 7 = .ok (.iload_n 1, 1) := by decide +kernel
theorem dX12_ofLeg_8 : decode cX12_ofLeg 8 = .ok (.imul, 1) := by decide +kernel
theorem dX12_ofLeg_9 : decode cX12_ofLeg 9 = .ok (.iadd, 1) := by decide +kernel
theorem dX12_ofLeg_10 : decode cX12_ofLeg 10 = .ok (.iload_n 2, 1) := by decide +kernel
theorem dX12_ofLeg_11 : decode cX12_ofLeg 11 = .ok (.iadd, 1) := by decide +kernel
theorem dX12_ofLeg_12 : decode cX12_ofLeg 12 = .ok (.laload, 1) := by decide +kernel
theorem dX12_ofLeg_13 : decode cX12_ofLeg 13 = .ok (.lreturn, 1) := by decide +kernel
theorem dX12_part_0 : decode cX12_part 0 = .ok (.lload_n 0, 1) := by decide +kernel
theorem dX12_part_1 : decode cX12_part 1 = .ok (.lload_n 2, 1) := by decide +kernel
theorem dX12_part_2 : decode cX12_part 2 = .ok (.lmul, 1) := by decide +kernel
theorem dX12_part_3 : decode cX12_part 3 = .ok (.ldc2_w 115, 3) := by decide +kernel
theorem dX12_part_6 : decode cX12_part 6 = .ok (.ldiv, 1) := by decide +kernel
theorem dX12_part_7 : decode cX12_part 7 = .ok (.lstore 7, 2) := by decide +kernel
theorem dX12_part_9 : decode cX12_part 9 = .ok (.lload 7, 2) := by decide +kernel
theorem dX12_part_11 : decode cX12_part 11 = .ok (.iload 6, 2) := by decide +kernel
theorem dX12_part_13 : decode cX12_part 13 = .ok (.ifCond .eq 11, 3) := by decide +kernel
theorem dX12_part_16 : decode cX12_part 16 = .ok (.lload 4, 2) := by decide +kernel
theorem dX12_part_18 : decode cX12_part 18 = .ok (.invokestatic 117, 3) := by decide +kernel
theorem dX12_part_21 : decode cX12_part 21 = .ok (.goto 8, 3) := by decide +kernel
theorem dX12_part_24 : decode cX12_part 24 = .ok (.lload 4, 2) := by decide +kernel
theorem dX12_part_26 : decode cX12_part 26 = .ok (.invokestatic 101, 3) := by decide +kernel
theorem dX12_part_29 : decode cX12_part 29 = .ok (.invokestatic 120, 3) := by decide +kernel
theorem dX12_part_32 : decode cX12_part 32 = .ok (.lreturn, 1) := by decide +kernel
theorem dX12_displaced_0 : decode cX12_displaced 0 = .ok (.aload_n 0, 1) := by decide +kernel
theorem dX12_displaced_1 : decode cX12_displaced 1 = .ok (.getfield 9, 3) := by decide +kernel
theorem dX12_displaced_4 : decode cX12_displaced 4 = .ok (.bipush 8, 2) := by decide +kernel
theorem dX12_displaced_6 : decode cX12_displaced 6 = .ok (.laload, 1) := by decide +kernel
theorem dX12_displaced_7 : decode cX12_displaced 7 = .ok (.lload_n 1, 1) := by decide +kernel
theorem dX12_displaced_8 : decode cX12_displaced 8 = .ok (.aload_n 0, 1) := by decide +kernel
theorem dX12_displaced_9 : decode cX12_displaced 9 = .ok (.getfield 9, 3) := by decide +kernel
theorem dX12_displaced_12 : decode cX12_displaced 12 = .ok (.bipush 7, 2) := by decide +kernel
theorem dX12_displaced_14 : decode cX12_displaced 14 = .ok (.laload, 1) := by decide +kernel
theorem dX12_displaced_15 : decode cX12_displaced 15 = .ok (.iload_n 3, 1) := by decide +kernel
theorem dX12_displaced_16 : decode cX12_displaced 16 = .ok (.invokestatic 123, 3) := by decide +kernel
theorem dX12_displaced_19 : decode cX12_displaced 19 = .ok (.lstore 4, 2) := by decide +kernel
theorem dX12_displaced_21 : decode cX12_displaced 21 = .ok (.iconst 0, 1) := by decide +kernel
theorem dX12_displaced_22 : decode cX12_displaced 22 = .ok (.istore 6, 2) := by decide +kernel
theorem dX12_displaced_24 : decode cX12_displaced 24 = .ok (.iload 6, 2) := by decide +kernel
theorem dX12_displaced_26 : decode cX12_displaced 26 = .ok (.i2l, 1) := by decide +kernel
theorem dX12_displaced_27 : decode cX12_displaced 27 = .ok (.aload_n 0, 1) := by decide +kernel
theorem dX12_displaced_28 : decode cX12_displaced 28 = .ok (.getfield 9, 3) := by decide +kernel
theorem dX12_displaced_31 : decode cX12_displaced 31 = .ok (.iconst 1, 1) := by decide +kernel
theorem dX12_displaced_32 : decode cX12_displaced 32 = .ok (.laload, 1) := by decide +kernel
theorem dX12_displaced_33 : decode cX12_displaced 33 = .ok (.lcmp, 1) := by decide +kernel
theorem dX12_displaced_34 : decode cX12_displaced 34 = .ok (.ifCond .ge 88, 3) := by decide +kernel
theorem dX12_displaced_37 : decode cX12_displaced 37 = .ok (.aload_n 0, 1) := by decide +kernel
theorem dX12_displaced_38 : decode cX12_displaced 38 = .ok (.iload 6, 2) := by decide +kernel
theorem dX12_displaced_40 : decode cX12_displaced 40 = .ok (.iconst 0, 1) := by decide +kernel
theorem dX12_displaced_41 : decode cX12_displaced 41 = .ok (.invokevirtual 127, 3) := by decide +kernel
theorem dX12_displaced_44 : decode cX12_displaced 44 = .ok (.lload_n 1, 1) := by decide +kernel
theorem dX12_displaced_45 : decode cX12_displaced 45 = .ok (.lcmp, 1) := by decide +kernel
theorem dX12_displaced_46 : decode cX12_displaced 46 = .ok (.ifCond .ge 76, 3) := by decide +kernel
theorem dX12_displaced_49 : decode cX12_displaced 49 = .ok (.iload 6, 2) := by decide +kernel
theorem dX12_displaced_51 : decode cX12_displaced 51 = .ok (.iconst 1, 1) := by decide +kernel
theorem dX12_displaced_52 : decode cX12_displaced 52 = .ok (.iadd, 1) := by decide +kernel
theorem dX12_displaced_53 : decode cX12_displaced 53 = .ok (.i2l, 1) := by decide +kernel
theorem dX12_displaced_54 : decode cX12_displaced 54 = .ok (.aload_n 0, 1) := by decide +kernel
theorem dX12_displaced_55 : decode cX12_displaced 55 = .ok (.getfield 9, 3) := by decide +kernel
theorem dX12_displaced_58 : decode cX12_displaced 58 = .ok (.iconst 1, 1) := by decide +kernel
theorem dX12_displaced_59 : decode cX12_displaced 59 = .ok (.laload, 1) := by decide +kernel
theorem dX12_displaced_60 : decode cX12_displaced 60 = .ok (.lcmp, 1) := by decide +kernel
theorem dX12_displaced_61 : decode cX12_displaced 61 = .ok (.ifCond .ge 19, 3) := by decide +kernel
theorem dX12_displaced_64 : decode cX12_displaced 64 = .ok (.lload_n 1, 1) := by decide +kernel
theorem dX12_displaced_65 : decode cX12_displaced 65 = .ok (.aload_n 0, 1) := by decide +kernel
theorem dX12_displaced_66 : decode cX12_displaced 66 = .ok (.iload 6, 2) := by decide +kernel
theorem dX12_displaced_68 : decode cX12_displaced 68 = .ok (.iconst 1, 1) := by decide +kernel
theorem dX12_displaced_69 : decode cX12_displaced 69 = .ok (.iadd, 1) := by decide +kernel
theorem dX12_displaced_70 : decode cX12_displaced 70 = .ok (.iconst 0, 1) := by decide +kernel
theorem dX12_displaced_71 : decode cX12_displaced 71 = .ok (.invokevirtual 127, 3) := by decide +kernel
theorem dX12_displaced_74 : decode cX12_displaced 74 = .ok (.invokestatic 77, 3) := by decide +kernel
theorem dX12_displaced_77 : decode cX12_displaced 77 = .ok (.goto 4, 3) := by decide +kernel
theorem dX12_displaced_80 : decode cX12_displaced 80 = .ok (.lload_n 1, 1) := by decide +kernel
theorem dX12_displaced_81 : decode cX12_displaced 81 = .ok (.lstore 7, 2) := by decide +kernel
theorem dX12_displaced_83 : decode cX12_displaced 83 = .ok (.lload 4, 2) := by decide +kernel
theorem dX12_displaced_85 : decode cX12_displaced 85 = .ok (.aload_n 0, 1) := by decide +kernel
theorem dX12_displaced_86 : decode cX12_displaced 86 = .ok (.iload 6, 2) := by decide +kernel
theorem dX12_displaced_88 : decode cX12_displaced 88 = .ok (.iconst 2, 1) := by decide +kernel
theorem dX12_displaced_89 : decode cX12_displaced 89 = .ok (.invokevirtual 127, 3) := by decide +kernel
theorem dX12_displaced_92 : decode cX12_displaced 92 = .ok (.lload 7, 2) := by decide +kernel
theorem dX12_displaced_94 : decode cX12_displaced 94 = .ok (.aload_n 0, 1) := by decide +kernel
theorem dX12_displaced_95 : decode cX12_displaced 95 = .ok (.iload 6, 2) := by decide +kernel
theorem dX12_displaced_97 : decode cX12_displaced 97 = .ok (.iconst 0, 1) := by decide +kernel
theorem dX12_displaced_98 : decode cX12_displaced 98 = .ok (.invokevirtual 127, 3) := by decide +kernel
theorem dX12_displaced_101 : decode cX12_displaced 101 = .ok (.lsub, 1) := by decide +kernel
theorem dX12_displaced_102 : decode cX12_displaced 102 = .ok (.aload_n 0, 1) := by decide +kernel
theorem dX12_displaced_103 : decode cX12_displaced 103 = .ok (.iload 6, 2) := by decide +kernel
theorem dX12_displaced_105 : decode cX12_displaced 105 = .ok (.iconst 1, 1) := by decide +kernel
theorem dX12_displaced_106 : decode cX12_displaced 106 = .ok (.invokevirtual 127, 3) := by decide +kernel
theorem dX12_displaced_109 : decode cX12_displaced 109 = .ok (.iload_n 3, 1) := by decide +kernel
theorem dX12_displaced_110 : decode cX12_displaced 110 = .ok (.invokestatic 123, 3) := by decide +kernel
theorem dX12_displaced_113 : decode cX12_displaced 113 = .ok (.ladd, 1) := by decide +kernel
theorem dX12_displaced_114 : decode cX12_displaced 114 = .ok (.lstore 4, 2) := by decide +kernel
theorem dX12_displaced_116 : decode cX12_displaced 116 = .ok (.iinc 6 1, 3) := by decide +kernel
theorem dX12_displaced_119 : decode cX12_displaced 119 = .ok (.goto (-95), 3) := by decide +kernel
theorem dX12_displaced_122 : decode cX12_displaced 122 = .ok (.lload 4, 2) := by decide +kernel
theorem dX12_displaced_124 : decode cX12_displaced 124 = .ok (.lreturn, 1) := by decide +kernel
theorem dX12_within_0 : decode cX12_within 0 = .ok (.lload_n 0, 1) := by decide +kernel
theorem dX12_within_1 : decode cX12_within 1 = .ok (.ldc2_w 99, 3) := by decide +kernel
theorem dX12_within_4 : decode cX12_within 4 = .ok (.ladd, 1) := by decide +kernel
theorem dX12_within_5 : decode cX12_within 5 = .ok (.invokestatic 95, 3) := by decide +kernel
theorem dX12_within_8 : decode cX12_within 8 = .ok (.ldc2_w 99, 3) := by decide +kernel
theorem dX12_within_11 : decode cX12_within 11 = .ok (.lsub, 1) := by decide +kernel
theorem dX12_within_12 : decode cX12_within 12 = .ok (.lreturn, 1) := by decide +kernel
theorem dX12_latitudeAt_0 : decode cX12_latitudeAt 0 = .ok (.aload_n 0, 1) := by decide +kernel
theorem dX12_latitudeAt_1 : decode cX12_latitudeAt 1 = .ok (.getfield 9, 3) := by decide +kernel
theorem dX12_latitudeAt_4 : decode cX12_latitudeAt 4 = .ok (.iconst 3, 1) := by decide +kernel
theorem dX12_latitudeAt_5 : decode cX12_latitudeAt 5 = .ok (.laload, 1) := by decide +kernel
theorem dX12_latitudeAt_6 : decode cX12_latitudeAt 6 = .ok (.aload_n 0, 1) := by decide +kernel
theorem dX12_latitudeAt_7 : decode cX12_latitudeAt 7 = .ok (.lload_n 1, 1) := by decide +kernel
theorem dX12_latitudeAt_8 : decode cX12_latitudeAt 8 = .ok (.iconst 1, 1) := by decide +kernel
theorem dX12_latitudeAt_9 : decode cX12_latitudeAt 9 = .ok (.invokevirtual 131, 3) := by decide +kernel
theorem dX12_latitudeAt_12 : decode cX12_latitudeAt 12 = .ok (.ldc2_w 135, 3) := by decide +kernel
theorem dX12_latitudeAt_15 : decode cX12_latitudeAt 15 = .ok (.invokestatic 92, 3) := by decide +kernel
theorem dX12_latitudeAt_18 : decode cX12_latitudeAt 18 = .ok (.ladd, 1) := by decide +kernel
theorem dX12_latitudeAt_19 : decode cX12_latitudeAt 19 = .ok (.lreturn, 1) := by decide +kernel
theorem dX12_longitudeAt_0 : decode cX12_longitudeAt 0 = .ok (.aload_n 0, 1) := by decide +kernel
theorem dX12_longitudeAt_1 : decode cX12_longitudeAt 1 = .ok (.getfield 9, 3) := by decide +kernel
theorem dX12_longitudeAt_4 : decode cX12_longitudeAt 4 = .ok (.iconst 4, 1) := by decide +kernel
theorem dX12_longitudeAt_5 : decode cX12_longitudeAt 5 = .ok (.laload, 1) := by decide +kernel
theorem dX12_longitudeAt_6 : decode cX12_longitudeAt 6 = .ok (.aload_n 0, 1) := by decide +kernel
theorem dX12_longitudeAt_7 : decode cX12_longitudeAt 7 = .ok (.lload_n 1, 1) := by decide +kernel
theorem dX12_longitudeAt_8 : decode cX12_longitudeAt 8 = .ok (.iconst 0, 1) := by decide +kernel
theorem dX12_longitudeAt_9 : decode cX12_longitudeAt 9 = .ok (.invokevirtual 131, 3) := by decide +kernel
theorem dX12_longitudeAt_12 : decode cX12_longitudeAt 12 = .ok (.ldc2_w 137, 3) := by decide +kernel
theorem dX12_longitudeAt_15 : decode cX12_longitudeAt 15 = .ok (.lmul, 1) := by decide +kernel
theorem dX12_longitudeAt_16 : decode cX12_longitudeAt 16 = .ok (.aload_n 0, 1) := by decide +kernel
theorem dX12_longitudeAt_17 : decode cX12_longitudeAt 17 = .ok (.getfield 9, 3) := by decide +kernel
theorem dX12_longitudeAt_20 : decode cX12_longitudeAt 20 = .ok (.iconst 3, 1) := by decide +kernel
theorem dX12_longitudeAt_21 : decode cX12_longitudeAt 21 = .ok (.laload, 1) := by decide +kernel
theorem dX12_longitudeAt_22 : decode cX12_longitudeAt 22 = .ok (.invokestatic 117, 3) := by decide +kernel
theorem dX12_longitudeAt_25 : decode cX12_longitudeAt 25 = .ok (.invokestatic 92, 3) := by decide +kernel
theorem dX12_longitudeAt_28 : decode cX12_longitudeAt 28 = .ok (.ladd, 1) := by decide +kernel
theorem dX12_longitudeAt_29 : decode cX12_longitudeAt 29 = .ok (.invokestatic 139, 3) := by decide +kernel
theorem dX12_longitudeAt_32 : decode cX12_longitudeAt 32 = .ok (.lreturn, 1) := by decide +kernel
theorem dX12_ofSight_0 : decode cX12_ofSight 0 = .ok (.aload_n 0, 1) := by decide +kernel
theorem dX12_ofSight_1 : decode cX12_ofSight 1 = .ok (.getfield 9, 3) := by decide +kernel
theorem dX12_ofSight_4 : decode cX12_ofSight 4 = .ok (.bipush 57, 2) := by decide +kernel
theorem dX12_ofSight_6 : decode cX12_ofSight 6 = .ok (.iconst 3, 1) := by decide +kernel
theorem dX12_ofSight_7 : decode cX12_ofSight 7 = .ok (.iload_n 1, 1) := by decide +kernel
theorem dX12_ofSight_8 : decode cX12_ofSight 8 = .ok (.imul, 1) := by decide +kernel
theorem dX12_ofSight_9 : decode cX12_ofSight 9 = .ok (.iadd, 1) := by decide +kernel
theorem dX12_ofSight_10 : decode cX12_ofSight 10 = .ok (.iload_n 2, 1) := by decide +kernel
theorem dX12_ofSight_11 : decode cX12_ofSight 11 = .ok (.iadd, 1) := by decide +kernel
theorem dX12_ofSight_12 : decode cX12_ofSight 12 = .ok (.laload, 1) := by decide +kernel
theorem dX12_ofSight_13 : decode cX12_ofSight 13 = .ok (.lreturn, 1) := by decide +kernel
theorem dX12_ofBody_0 : decode cX12_ofBody 0 = .ok (.aload_n 0, 1) := by decide +kernel
theorem dX12_ofBody_1 : decode cX12_ofBody 1 = .ok (.getfield 9, 3) := by decide +kernel
theorem dX12_ofBody_4 : decode cX12_ofBody 4 = .ok (.bipush 9, 2) := by decide +kernel
theorem dX12_ofBody_6 : decode cX12_ofBody 6 = .ok (.iconst 4, 1) := by decide +kernel
theorem dX12_ofBody_7 : decode cX12_ofBody 7 = .ok (.lload_n 1, 1) := by decide +kernel
theorem dX12_ofBody_8 : decode cX12_ofBody 8 = .ok (.l2i, 1) := by decide +kernel
theorem dX12_ofBody_9 : decode cX12_ofBody 9 = .ok (.imul, 1) := by decide +kernel
theorem dX12_ofBody_10 : decode cX12_ofBody 10 = .ok (.iadd, 1) := by decide +kernel
theorem dX12_ofBody_11 : decode cX12_ofBody 11 = .ok (.iload_n 3, 1) := by decide +kernel
theorem dX12_ofBody_12 : decode cX12_ofBody 12 = .ok (.iadd, 1) := by decide +kernel
theorem dX12_ofBody_13 : decode cX12_ofBody 13 = .ok (.laload, 1) := by decide +kernel
theorem dX12_ofBody_14 : decode cX12_ofBody 14 = .ok (.lreturn, 1) := by decide +kernel
theorem dX12_dip_0 : decode cX12_dip 0 = .ok (.ldc2_w 142, 3) := by decide +kernel
theorem dX12_dip_3 : decode cX12_dip 3 = .ok (.aload_n 0, 1) := by decide +kernel
theorem dX12_dip_4 : decode cX12_dip 4 = .ok (.getfield 9, 3) := by decide +kernel
theorem dX12_dip_7 : decode cX12_dip 7 = .ok (.iconst 5, 1) := by decide +kernel
theorem dX12_dip_8 : decode cX12_dip 8 = .ok (.laload, 1) := by decide +kernel
theorem dX12_dip_9 : decode cX12_dip 9 = .ok (.lmul, 1) := by decide +kernel
theorem dX12_dip_10 : decode cX12_dip 10 = .ok (.invokestatic 144, 3) := by decide +kernel
theorem dX12_dip_13 : decode cX12_dip 13 = .ok (.lreturn, 1) := by decide +kernel
theorem dX12_apparent_0 : decode cX12_apparent 0 = .ok (.aload_n 0, 1) := by decide +kernel
theorem dX12_apparent_1 : decode cX12_apparent 1 = .ok (.iload_n 1, 1) := by decide +kernel
theorem dX12_apparent_2 : decode cX12_apparent 2 = .ok (.iconst 2, 1) := by decide +kernel
theorem dX12_apparent_3 : decode cX12_apparent 3 = .ok (.invokevirtual 147, 3) := by decide +kernel
theorem dX12_apparent_6 : decode cX12_apparent 6 = .ok (.aload_n 0, 1) := by decide +kernel
theorem dX12_apparent_7 : decode cX12_apparent 7 = .ok (.getfield 9, 3) := by decide +kernel
theorem dX12_apparent_10 : decode cX12_apparent 10 = .ok (.bipush 6, 2) := by decide +kernel
theorem dX12_apparent_12 : decode cX12_apparent 12 = .ok (.laload, 1) := by decide +kernel
theorem dX12_apparent_13 : decode cX12_apparent 13 = .ok (.ladd, 1) := by decide +kernel
theorem dX12_apparent_14 : decode cX12_apparent 14 = .ok (.aload_n 0, 1) := by decide +kernel
theorem dX12_apparent_15 : decode cX12_apparent 15 = .ok (.invokevirtual 150, 3) := by decide +kernel
theorem dX12_apparent_18 : decode cX12_apparent 18 = .ok (.lsub, 1) := by decide +kernel
theorem dX12_apparent_19 : decode cX12_apparent 19 = .ok (.lreturn, 1) := by decide +kernel
theorem dX12_observed_0 : decode cX12_observed 0 = .ok (.aload_n 0, 1) := by decide +kernel
theorem dX12_observed_1 : decode cX12_observed 1 = .ok (.iload_n 1, 1) := by decide +kernel
theorem dX12_observed_2 : decode cX12_observed 2 = .ok (.invokevirtual 154, 3) := by decide +kernel
theorem dX12_observed_5 : decode cX12_observed 5 = .ok (.lstore_n 2, 1) := by decide +kernel
theorem dX12_observed_6 : decode cX12_observed 6 = .ok (.lload_n 2, 1) := by decide +kernel
theorem dX12_observed_7 : decode cX12_observed 7 = .ok (.lload_n 2, 1) := by decide +kernel
theorem dX12_observed_8 : decode cX12_observed 8 = .ok (.invokestatic 117, 3) := by decide +kernel
theorem dX12_observed_11 : decode cX12_observed 11 = .ok (.lload_n 2, 1) := by decide +kernel
theorem dX12_observed_12 : decode cX12_observed 12 = .ok (.invokestatic 101, 3) := by decide +kernel
theorem dX12_observed_15 : decode cX12_observed 15 = .ok (.invokestatic 92, 3) := by decide +kernel
theorem dX12_observed_18 : decode cX12_observed 18 = .ok (.lsub, 1) := by decide +kernel
theorem dX12_observed_19 : decode cX12_observed 19 = .ok (.lreturn, 1) := by decide +kernel
theorem dX12_localAngle_0 : decode cX12_localAngle 0 = .ok (.aload_n 0, 1) := by decide +kernel
theorem dX12_localAngle_1 : decode cX12_localAngle 1 = .ok (.iload_n 1, 1) := by decide +kernel
theorem dX12_localAngle_2 : decode cX12_localAngle 2 = .ok (.iconst 1, 1) := by decide +kernel
theorem dX12_localAngle_3 : decode cX12_localAngle 3 = .ok (.invokevirtual 147, 3) := by decide +kernel
theorem dX12_localAngle_6 : decode cX12_localAngle 6 = .ok (.lstore_n 2, 1) := by decide +kernel
theorem dX12_localAngle_7 : decode cX12_localAngle 7 = .ok (.aload_n 0, 1) := by decide +kernel
theorem dX12_localAngle_8 : decode cX12_localAngle 8 = .ok (.aload_n 0, 1) := by decide +kernel
theorem dX12_localAngle_9 : decode cX12_localAngle 9 = .ok (.iload_n 1, 1) := by decide +kernel
theorem dX12_localAngle_10 : decode cX12_localAngle 10 = .ok (.iconst 0, 1) := by decide +kernel
theorem dX12_localAngle_11 : decode cX12_localAngle 11 = .ok (.invokevirtual 147, 3) := by decide +kernel
theorem dX12_localAngle_14 : decode cX12_localAngle 14 = .ok (.iconst 1, 1) := by decide +kernel
theorem dX12_localAngle_15 : decode cX12_localAngle 15 = .ok (.invokevirtual 158, 3) := by decide +kernel
theorem dX12_localAngle_18 : decode cX12_localAngle 18 = .ok (.ldc2_w 162, 3) := by decide +kernel
theorem dX12_localAngle_21 : decode cX12_localAngle 21 = .ok (.lload_n 2, 1) := by decide +kernel
theorem dX12_localAngle_22 : decode cX12_localAngle 22 = .ok (.lmul, 1) := by decide +kernel
theorem dX12_localAngle_23 : decode cX12_localAngle 23 = .ok (.ladd, 1) := by decide +kernel
theorem dX12_localAngle_24 : decode cX12_localAngle 24 = .ok (.aload_n 0, 1) := by decide +kernel
theorem dX12_localAngle_25 : decode cX12_localAngle 25 = .ok (.lload_n 2, 1) := by decide +kernel
theorem dX12_localAngle_26 : decode cX12_localAngle 26 = .ok (.invokevirtual 164, 3) := by decide +kernel
theorem dX12_localAngle_29 : decode cX12_localAngle 29 = .ok (.ladd, 1) := by decide +kernel
theorem dX12_localAngle_30 : decode cX12_localAngle 30 = .ok (.lreturn, 1) := by decide +kernel
theorem dX12_declination_0 : decode cX12_declination 0 = .ok (.aload_n 0, 1) := by decide +kernel
theorem dX12_declination_1 : decode cX12_declination 1 = .ok (.aload_n 0, 1) := by decide +kernel
theorem dX12_declination_2 : decode cX12_declination 2 = .ok (.iload_n 1, 1) := by decide +kernel
theorem dX12_declination_3 : decode cX12_declination 3 = .ok (.iconst 0, 1) := by decide +kernel
theorem dX12_declination_4 : decode cX12_declination 4 = .ok (.invokevirtual 147, 3) := by decide +kernel
theorem dX12_declination_7 : decode cX12_declination 7 = .ok (.iconst 0, 1) := by decide +kernel
theorem dX12_declination_8 : decode cX12_declination 8 = .ok (.invokevirtual 158, 3) := by decide +kernel
theorem dX12_declination_11 : decode cX12_declination 11 = .ok (.lreturn, 1) := by decide +kernel
theorem dX12_expected_0 : decode cX12_expected 0 = .ok (.aload_n 0, 1) := by decide +kernel
theorem dX12_expected_1 : decode cX12_expected 1 = .ok (.aload_n 0, 1) := by decide +kernel
theorem dX12_expected_2 : decode cX12_expected 2 = .ok (.iload_n 1, 1) := by decide +kernel
theorem dX12_expected_3 : decode cX12_expected 3 = .ok (.iconst 1, 1) := by decide +kernel
theorem dX12_expected_4 : decode cX12_expected 4 = .ok (.invokevirtual 147, 3) := by decide +kernel
theorem dX12_expected_7 : decode cX12_expected 7 = .ok (.invokevirtual 167, 3) := by decide +kernel
theorem dX12_expected_10 : decode cX12_expected 10 = .ok (.lstore_n 2, 1) := by decide +kernel
theorem dX12_expected_11 : decode cX12_expected 11 = .ok (.aload_n 0, 1) := by decide +kernel
theorem dX12_expected_12 : decode cX12_expected 12 = .ok (.iload_n 1, 1) := by decide +kernel
theorem dX12_expected_13 : decode cX12_expected 13 = .ok (.invokevirtual 170, 3) := by decide +kernel
theorem dX12_expected_16 : decode cX12_expected 16 = .ok (.lstore 4, 2) := by decide +kernel
theorem dX12_expected_18 : decode cX12_expected 18 = .ok (.lload_n 2, 1) := by decide +kernel
theorem dX12_expected_19 : decode cX12_expected 19 = .ok (.invokestatic 101, 3) := by decide +kernel
theorem dX12_expected_22 : decode cX12_expected 22 = .ok (.lload 4, 2) := by decide +kernel
theorem dX12_expected_24 : decode cX12_expected 24 = .ok (.invokestatic 101, 3) := by decide +kernel
theorem dX12_expected_27 : decode cX12_expected 27 = .ok (.invokestatic 120, 3) := by decide +kernel
theorem dX12_expected_30 : decode cX12_expected 30 = .ok (.lload_n 2, 1) := by decide +kernel
theorem dX12_expected_31 : decode cX12_expected 31 = .ok (.invokestatic 117, 3) := by decide +kernel
theorem dX12_expected_34 : decode cX12_expected 34 = .ok (.lload 4, 2) := by decide +kernel
theorem dX12_expected_36 : decode cX12_expected 36 = .ok (.invokestatic 117, 3) := by decide +kernel
theorem dX12_expected_39 : decode cX12_expected 39 = .ok (.invokestatic 120, 3) := by decide +kernel
theorem dX12_expected_42 : decode cX12_expected 42 = .ok (.aload_n 0, 1) := by decide +kernel
theorem dX12_expected_43 : decode cX12_expected 43 = .ok (.iload_n 1, 1) := by decide +kernel
theorem dX12_expected_44 : decode cX12_expected 44 = .ok (.invokevirtual 173, 3) := by decide +kernel
theorem dX12_expected_47 : decode cX12_expected 47 = .ok (.invokestatic 117, 3) := by decide +kernel
theorem dX12_expected_50 : decode cX12_expected 50 = .ok (.invokestatic 120, 3) := by decide +kernel
theorem dX12_expected_53 : decode cX12_expected 53 = .ok (.ladd, 1) := by decide +kernel
theorem dX12_expected_54 : decode cX12_expected 54 = .ok (.lstore 6, 2) := by decide +kernel
theorem dX12_expected_56 : decode cX12_expected 56 = .ok (.lload 6, 2) := by decide +kernel
theorem dX12_expected_58 : decode cX12_expected 58 = .ok (.ldc2_w 113, 3) := by decide +kernel
theorem dX12_expected_61 : decode cX12_expected 61 = .ok (.invokestatic 176, 3) := by decide +kernel
theorem dX12_expected_64 : decode cX12_expected 64 = .ok (.invokestatic 110, 3) := by decide +kernel
theorem dX12_expected_67 : decode cX12_expected 67 = .ok (.lreturn, 1) := by decide +kernel
theorem dX12_azimuth_0 : decode cX12_azimuth 0 = .ok (.aload_n 0, 1) := by decide +kernel
theorem dX12_azimuth_1 : decode cX12_azimuth 1 = .ok (.aload_n 0, 1) := by decide +kernel
theorem dX12_azimuth_2 : decode cX12_azimuth 2 = .ok (.iload_n 1, 1) := by decide +kernel
theorem dX12_azimuth_3 : decode cX12_azimuth 3 = .ok (.iconst 1, 1) := by decide +kernel
theorem dX12_azimuth_4 : decode cX12_azimuth 4 = .ok (.invokevirtual 147, 3) := by decide +kernel
theorem dX12_azimuth_7 : decode cX12_azimuth 7 = .ok (.invokevirtual 167, 3) := by decide +kernel
theorem dX12_azimuth_10 : decode cX12_azimuth 10 = .ok (.lstore_n 2, 1) := by decide +kernel
theorem dX12_azimuth_11 : decode cX12_azimuth 11 = .ok (.aload_n 0, 1) := by decide +kernel
theorem dX12_azimuth_12 : decode cX12_azimuth 12 = .ok (.iload_n 1, 1) := by decide +kernel
theorem dX12_azimuth_13 : decode cX12_azimuth 13 = .ok (.invokevirtual 179, 3) := by decide +kernel
theorem dX12_azimuth_16 : decode cX12_azimuth 16 = .ok (.lstore 4, 2) := by decide +kernel
theorem dX12_azimuth_18 : decode cX12_azimuth 18 = .ok (.lload_n 2, 1) := by decide +kernel
theorem dX12_azimuth_19 : decode cX12_azimuth 19 = .ok (.invokestatic 117, 3) := by decide +kernel
theorem dX12_azimuth_22 : decode cX12_azimuth 22 = .ok (.lload 4, 2) := by decide +kernel
theorem dX12_azimuth_24 : decode cX12_azimuth 24 = .ok (.invokestatic 117, 3) := by decide +kernel
theorem dX12_azimuth_27 : decode cX12_azimuth 27 = .ok (.invokestatic 120, 3) := by decide +kernel
theorem dX12_azimuth_30 : decode cX12_azimuth 30 = .ok (.lstore 6, 2) := by decide +kernel
theorem dX12_azimuth_32 : decode cX12_azimuth 32 = .ok (.lload 6, 2) := by decide +kernel
theorem dX12_azimuth_34 : decode cX12_azimuth 34 = .ok (.lconst 0, 1) := by decide +kernel
theorem dX12_azimuth_35 : decode cX12_azimuth 35 = .ok (.lcmp, 1) := by decide +kernel
theorem dX12_azimuth_36 : decode cX12_azimuth 36 = .ok (.ifCond .gt 9, 3) := by decide +kernel
theorem dX12_azimuth_39 : decode cX12_azimuth 39 = .ok (.ldc2_w 113, 3) := by decide +kernel
theorem dX12_azimuth_42 : decode cX12_azimuth 42 = .ok (.goto 39, 3) := by decide +kernel
theorem dX12_azimuth_45 : decode cX12_azimuth 45 = .ok (.aload_n 0, 1) := by decide +kernel
theorem dX12_azimuth_46 : decode cX12_azimuth 46 = .ok (.iload_n 1, 1) := by decide +kernel
theorem dX12_azimuth_47 : decode cX12_azimuth 47 = .ok (.invokevirtual 170, 3) := by decide +kernel
theorem dX12_azimuth_50 : decode cX12_azimuth 50 = .ok (.invokestatic 101, 3) := by decide +kernel
theorem dX12_azimuth_53 : decode cX12_azimuth 53 = .ok (.lload_n 2, 1) := by decide +kernel
theorem dX12_azimuth_54 : decode cX12_azimuth 54 = .ok (.invokestatic 101, 3) := by decide +kernel
theorem dX12_azimuth_57 : decode cX12_azimuth 57 = .ok (.lload 4, 2) := by decide +kernel
theorem dX12_azimuth_59 : decode cX12_azimuth 59 = .ok (.invokestatic 101, 3) := by decide +kernel
theorem dX12_azimuth_62 : decode cX12_azimuth 62 = .ok (.invokestatic 120, 3) := by decide +kernel
theorem dX12_azimuth_65 : decode cX12_azimuth 65 = .ok (.lsub, 1) := by decide +kernel
theorem dX12_azimuth_66 : decode cX12_azimuth 66 = .ok (.ldc2_w 113, 3) := by decide +kernel
theorem dX12_azimuth_69 : decode cX12_azimuth 69 = .ok (.lmul, 1) := by decide +kernel
theorem dX12_azimuth_70 : decode cX12_azimuth 70 = .ok (.lload 6, 2) := by decide +kernel
theorem dX12_azimuth_72 : decode cX12_azimuth 72 = .ok (.invokestatic 92, 3) := by decide +kernel
theorem dX12_azimuth_75 : decode cX12_azimuth 75 = .ok (.ldc2_w 113, 3) := by decide +kernel
theorem dX12_azimuth_78 : decode cX12_azimuth 78 = .ok (.invokestatic 176, 3) := by decide +kernel
theorem dX12_azimuth_81 : decode cX12_azimuth 81 = .ok (.lstore 8, 2) := by decide +kernel
theorem dX12_azimuth_83 : decode cX12_azimuth 83 = .ok (.ldc2_w 108, 3) := by decide +kernel
theorem dX12_azimuth_86 : decode cX12_azimuth 86 = .ok (.lload 8, 2) := by decide +kernel
theorem dX12_azimuth_88 : decode cX12_azimuth 88 = .ok (.invokestatic 110, 3) := by decide +kernel
theorem dX12_azimuth_91 : decode cX12_azimuth 91 = .ok (.lsub, 1) := by decide +kernel
theorem dX12_azimuth_92 : decode cX12_azimuth 92 = .ok (.lstore 10, 2) := by decide +kernel
theorem dX12_azimuth_94 : decode cX12_azimuth 94 = .ok (.aload_n 0, 1) := by decide +kernel
theorem dX12_azimuth_95 : decode cX12_azimuth 95 = .ok (.iload_n 1, 1) := by decide +kernel
theorem dX12_azimuth_96 : decode cX12_azimuth 96 = .ok (.invokevirtual 173, 3) := by decide +kernel
theorem dX12_azimuth_99 : decode cX12_azimuth 99 = .ok (.invokestatic 101, 3) := by decide +kernel
theorem dX12_azimuth_102 : decode cX12_azimuth 102 = .ok (.lconst 0, 1) := by decide +kernel
theorem dX12_azimuth_103 : decode cX12_azimuth 103 = .ok (.lcmp, 1) := by decide +kernel
theorem dX12_azimuth_104 : decode cX12_azimuth 104 = .ok (.ifCond .gt 8, 3) := by decide +kernel
theorem dX12_azimuth_107 : decode cX12_azimuth 107 = .ok (.lload 10, 2) := by decide +kernel
theorem dX12_azimuth_109 : decode cX12_azimuth 109 = .ok (.goto 12, 3) := by decide +kernel
theorem dX12_azimuth_112 : decode cX12_azimuth 112 = .ok (.ldc2_w 90, 3) := by decide +kernel
theorem dX12_azimuth_115 : decode cX12_azimuth 115 = .ok (.lload 10, 2) := by decide +kernel
theorem dX12_azimuth_117 : decode cX12_azimuth 117 = .ok (.lsub, 1) := by decide +kernel
theorem dX12_azimuth_118 : decode cX12_azimuth 118 = .ok (.invokestatic 95, 3) := by decide +kernel
theorem dX12_azimuth_121 : decode cX12_azimuth 121 = .ok (.lreturn, 1) := by decide +kernel
theorem dX12_intercept_0 : decode cX12_intercept 0 = .ok (.aload_n 0, 1) := by decide +kernel
theorem dX12_intercept_1 : decode cX12_intercept 1 = .ok (.iload_n 1, 1) := by decide +kernel
theorem dX12_intercept_2 : decode cX12_intercept 2 = .ok (.invokevirtual 181, 3) := by decide +kernel
theorem dX12_intercept_5 : decode cX12_intercept 5 = .ok (.aload_n 0, 1) := by decide +kernel
theorem dX12_intercept_6 : decode cX12_intercept 6 = .ok (.iload_n 1, 1) := by decide +kernel
theorem dX12_intercept_7 : decode cX12_intercept 7 = .ok (.invokevirtual 179, 3) := by decide +kernel
theorem dX12_intercept_10 : decode cX12_intercept 10 = .ok (.lsub, 1) := by decide +kernel
theorem dX12_intercept_11 : decode cX12_intercept 11 = .ok (.lreturn, 1) := by decide +kernel
theorem dX12_along_0 : decode cX12_along 0 = .ok (.lload_n 0, 1) := by decide +kernel
theorem dX12_along_1 : decode cX12_along 1 = .ok (.lload 4, 2) := by decide +kernel
theorem dX12_along_3 : decode cX12_along 3 = .ok (.lmul, 1) := by decide +kernel
theorem dX12_along_4 : decode cX12_along 4 = .ok (.lload_n 2, 1) := by decide +kernel
theorem dX12_along_5 : decode cX12_along 5 = .ok (.lload 6, 2) := by decide +kernel
theorem dX12_along_7 : decode cX12_along 7 = .ok (.lmul, 1) := by decide +kernel
theorem dX12_along_8 : decode cX12_along 8 = .ok (.ladd, 1) := by decide +kernel
theorem dX12_along_9 : decode cX12_along 9 = .ok (.ldc2_w 113, 3) := by decide +kernel
theorem dX12_along_12 : decode cX12_along 12 = .ok (.invokestatic 92, 3) := by decide +kernel
theorem dX12_along_15 : decode cX12_along 15 = .ok (.lreturn, 1) := by decide +kernel
theorem dX12_layLine_0 : decode cX12_layLine 0 = .ok (.aload_n 0, 1) := by decide +kernel
theorem dX12_layLine_1 : decode cX12_layLine 1 = .ok (.iload_n 1, 1) := by decide +kernel
theorem dX12_layLine_2 : decode cX12_layLine 2 = .ok (.iconst 1, 1) := by decide +kernel
theorem dX12_layLine_3 : decode cX12_layLine 3 = .ok (.invokevirtual 147, 3) := by decide +kernel
theorem dX12_layLine_6 : decode cX12_layLine 6 = .ok (.lstore_n 2, 1) := by decide +kernel
theorem dX12_layLine_7 : decode cX12_layLine 7 = .ok (.aload_n 0, 1) := by decide +kernel
theorem dX12_layLine_8 : decode cX12_layLine 8 = .ok (.iload_n 1, 1) := by decide +kernel
theorem dX12_layLine_9 : decode cX12_layLine 9 = .ok (.invokevirtual 184, 3) := by decide +kernel
theorem dX12_layLine_12 : decode cX12_layLine 12 = .ok (.lstore 4, 2) := by decide +kernel
theorem dX12_layLine_14 : decode cX12_layLine 14 = .ok (.aload_n 0, 1) := by decide +kernel
theorem dX12_layLine_15 : decode cX12_layLine 15 = .ok (.getfield 22, 3) := by decide +kernel
theorem dX12_layLine_18 : decode cX12_layLine 18 = .ok (.iload_n 1, 1) := by decide +kernel
theorem dX12_layLine_19 : decode cX12_layLine 19 = .ok (.lload 4, 2) := by decide +kernel
theorem dX12_layLine_21 : decode cX12_layLine 21 = .ok (.invokestatic 101, 3) := by decide +kernel
theorem dX12_layLine_24 : decode cX12_layLine 24 = .ok (.lastore, 1) := by decide +kernel
theorem dX12_layLine_25 : decode cX12_layLine 25 = .ok (.aload_n 0, 1) := by decide +kernel
theorem dX12_layLine_26 : decode cX12_layLine 26 = .ok (.getfield 25, 3) := by decide +kernel
theorem dX12_layLine_29 : decode cX12_layLine 29 = .ok (.iload_n 1, 1) := by decide +kernel
theorem dX12_layLine_30 : decode cX12_layLine 30 = .ok (.lload 4, 2) := by decide +kernel
theorem dX12_layLine_32 : decode cX12_layLine 32 = .ok (.invokestatic 117, 3) := by decide +kernel
theorem dX12_layLine_35 : decode cX12_layLine 35 = .ok (.lastore, 1) := by decide +kernel
theorem dX12_layLine_36 : decode cX12_layLine 36 = .ok (.aload_n 0, 1) := by decide +kernel
theorem dX12_layLine_37 : decode cX12_layLine 37 = .ok (.lload_n 2, 1) := by decide +kernel
theorem dX12_layLine_38 : decode cX12_layLine 38 = .ok (.invokevirtual 164, 3) := by decide +kernel
theorem dX12_layLine_41 : decode cX12_layLine 41 = .ok (.aload_n 0, 1) := by decide +kernel
theorem dX12_layLine_42 : decode cX12_layLine 42 = .ok (.getfield 9, 3) := by decide +kernel
theorem dX12_layLine_45 : decode cX12_layLine 45 = .ok (.iconst 4, 1) := by decide +kernel
theorem dX12_layLine_46 : decode cX12_layLine 46 = .ok (.laload, 1) := by decide +kernel
theorem dX12_layLine_47 : decode cX12_layLine 47 = .ok (.lsub, 1) := by decide +kernel
theorem dX12_layLine_48 : decode cX12_layLine 48 = .ok (.invokestatic 139, 3) := by decide +kernel
theorem dX12_layLine_51 : decode cX12_layLine 51 = .ok (.aload_n 0, 1) := by decide +kernel
theorem dX12_layLine_52 : decode cX12_layLine 52 = .ok (.getfield 9, 3) := by decide +kernel
theorem dX12_layLine_55 : decode cX12_layLine 55 = .ok (.iconst 3, 1) := by decide +kernel
theorem dX12_layLine_56 : decode cX12_layLine 56 = .ok (.laload, 1) := by decide +kernel
theorem dX12_layLine_57 : decode cX12_layLine 57 = .ok (.invokestatic 117, 3) := by decide +kernel
theorem dX12_layLine_60 : decode cX12_layLine 60 = .ok (.lmul, 1) := by decide +kernel
theorem dX12_layLine_61 : decode cX12_layLine 61 = .ok (.ldc2_w 137, 3) := by decide +kernel
theorem dX12_layLine_64 : decode cX12_layLine 64 = .ok (.invokestatic 92, 3) := by decide +kernel
theorem dX12_layLine_67 : decode cX12_layLine 67 = .ok (.lstore 6, 2) := by decide +kernel
theorem dX12_layLine_69 : decode cX12_layLine 69 = .ok (.ldc2_w 135, 3) := by decide +kernel
theorem dX12_layLine_72 : decode cX12_layLine 72 = .ok (.aload_n 0, 1) := by decide +kernel
theorem dX12_layLine_73 : decode cX12_layLine 73 = .ok (.lload_n 2, 1) := by decide +kernel
theorem dX12_layLine_74 : decode cX12_layLine 74 = .ok (.invokevirtual 167, 3) := by decide +kernel
theorem dX12_layLine_77 : decode cX12_layLine 77 = .ok (.aload_n 0, 1) := by decide +kernel
theorem dX12_layLine_78 : decode cX12_layLine 78 = .ok (.getfield 9, 3) := by decide +kernel
theorem dX12_layLine_81 : decode cX12_layLine 81 = .ok (.iconst 3, 1) := by decide +kernel
theorem dX12_layLine_82 : decode cX12_layLine 82 = .ok (.laload, 1) := by decide +kernel
theorem dX12_layLine_83 : decode cX12_layLine 83 = .ok (.lsub, 1) := by decide +kernel
theorem dX12_layLine_84 : decode cX12_layLine 84 = .ok (.lmul, 1) := by decide +kernel
theorem dX12_layLine_85 : decode cX12_layLine 85 = .ok (.lstore 8, 2) := by decide +kernel
theorem dX12_layLine_87 : decode cX12_layLine 87 = .ok (.aload_n 0, 1) := by decide +kernel
theorem dX12_layLine_88 : decode cX12_layLine 88 = .ok (.getfield 28, 3) := by decide +kernel
theorem dX12_layLine_91 : decode cX12_layLine 91 = .ok (.iload_n 1, 1) := by decide +kernel
theorem dX12_layLine_92 : decode cX12_layLine 92 = .ok (.lload 6, 2) := by decide +kernel
theorem dX12_layLine_94 : decode cX12_layLine 94 = .ok (.lload 8, 2) := by decide +kernel
theorem dX12_layLine_96 : decode cX12_layLine 96 = .ok (.aload_n 0, 1) := by decide +kernel
theorem dX12_layLine_97 : decode cX12_layLine 97 = .ok (.getfield 22, 3) := by decide +kernel
theorem dX12_layLine_100 : decode cX12_layLine 100 = .ok (.iload_n 1, 1) := by decide +kernel
theorem dX12_layLine_101 : decode cX12_layLine 101 = .ok (.laload, 1) := by decide +kernel
theorem dX12_layLine_102 : decode cX12_layLine 102 = .ok (.aload_n 0, 1) := by decide +kernel
theorem dX12_layLine_103 : decode cX12_layLine 103 = .ok (.getfield 25, 3) := by decide +kernel
theorem dX12_layLine_106 : decode cX12_layLine 106 = .ok (.iload_n 1, 1) := by decide +kernel
theorem dX12_layLine_107 : decode cX12_layLine 107 = .ok (.laload, 1) := by decide +kernel
theorem dX12_layLine_108 : decode cX12_layLine 108 = .ok (.invokestatic 186, 3) := by decide +kernel
theorem dX12_layLine_111 : decode cX12_layLine 111 = .ok (.ldc2_w 135, 3) := by decide +kernel
theorem dX12_layLine_114 : decode cX12_layLine 114 = .ok (.aload_n 0, 1) := by decide +kernel
theorem dX12_layLine_115 : decode cX12_layLine 115 = .ok (.iload_n 1, 1) := by decide +kernel
theorem dX12_layLine_116 : decode cX12_layLine 116 = .ok (.invokevirtual 190, 3) := by decide +kernel
theorem dX12_layLine_119 : decode cX12_layLine 119 = .ok (.lmul, 1) := by decide +kernel
theorem dX12_layLine_120 : decode cX12_layLine 120 = .ok (.ladd, 1) := by decide +kernel
theorem dX12_layLine_121 : decode cX12_layLine 121 = .ok (.lastore, 1) := by decide +kernel
theorem dX12_layLine_122 : decode cX12_layLine 122 = .ok (.return_, 1) := by decide +kernel
theorem dX12_carry_0 : decode cX12_carry 0 = .ok (.aload_n 0, 1) := by decide +kernel
theorem dX12_carry_1 : decode cX12_carry 1 = .ok (.iload_n 1, 1) := by decide +kernel
theorem dX12_carry_2 : decode cX12_carry 2 = .ok (.invokevirtual 193, 3) := by decide +kernel
theorem dX12_carry_5 : decode cX12_carry 5 = .ok (.aload_n 0, 1) := by decide +kernel
theorem dX12_carry_6 : decode cX12_carry 6 = .ok (.iload_n 1, 1) := by decide +kernel
theorem dX12_carry_7 : decode cX12_carry 7 = .ok (.iconst 1, 1) := by decide +kernel
theorem dX12_carry_8 : decode cX12_carry 8 = .ok (.invokevirtual 147, 3) := by decide +kernel
theorem dX12_carry_11 : decode cX12_carry 11 = .ok (.lstore 4, 2) := by decide +kernel
theorem dX12_carry_13 : decode cX12_carry 13 = .ok (.aload_n 0, 1) := by decide +kernel
theorem dX12_carry_14 : decode cX12_carry 14 = .ok (.lload_n 2, 1) := by decide +kernel
theorem dX12_carry_15 : decode cX12_carry 15 = .ok (.iconst 0, 1) := by decide +kernel
theorem dX12_carry_16 : decode cX12_carry 16 = .ok (.invokevirtual 131, 3) := by decide +kernel
theorem dX12_carry_19 : decode cX12_carry 19 = .ok (.aload_n 0, 1) := by decide +kernel
theorem dX12_carry_20 : decode cX12_carry 20 = .ok (.lload 4, 2) := by decide +kernel
theorem dX12_carry_22 : decode cX12_carry 22 = .ok (.iconst 0, 1) := by decide +kernel
theorem dX12_carry_23 : decode cX12_carry 23 = .ok (.invokevirtual 131, 3) := by decide +kernel
theorem dX12_carry_26 : decode cX12_carry 26 = .ok (.lsub, 1) := by decide +kernel
theorem dX12_carry_27 : decode cX12_carry 27 = .ok (.lstore 6, 2) := by decide +kernel
theorem dX12_carry_29 : decode cX12_carry 29 = .ok (.aload_n 0, 1) := by decide +kernel
theorem dX12_carry_30 : decode cX12_carry 30 = .ok (.lload_n 2, 1) := by decide +kernel
theorem dX12_carry_31 : decode cX12_carry 31 = .ok (.iconst 1, 1) := by decide +kernel
theorem dX12_carry_32 : decode cX12_carry 32 = .ok (.invokevirtual 131, 3) := by decide +kernel
theorem dX12_carry_35 : decode cX12_carry 35 = .ok (.aload_n 0, 1) := by decide +kernel
theorem dX12_carry_36 : decode cX12_carry 36 = .ok (.lload 4, 2) := by decide +kernel
theorem dX12_carry_38 : decode cX12_carry 38 = .ok (.iconst 1, 1) := by decide +kernel
theorem dX12_carry_39 : decode cX12_carry 39 = .ok (.invokevirtual 131, 3) := by decide +kernel
theorem dX12_carry_42 : decode cX12_carry 42 = .ok (.lsub, 1) := by decide +kernel
theorem dX12_carry_43 : decode cX12_carry 43 = .ok (.lstore 8, 2) := by decide +kernel
theorem dX12_carry_45 : decode cX12_carry 45 = .ok (.aload_n 0, 1) := by decide +kernel
theorem dX12_carry_46 : decode cX12_carry 46 = .ok (.getfield 28, 3) := by decide +kernel
theorem dX12_carry_49 : decode cX12_carry 49 = .ok (.iload_n 1, 1) := by decide +kernel
theorem dX12_carry_50 : decode cX12_carry 50 = .ok (.dup2, 1) := by decide +kernel
theorem dX12_carry_51 : decode cX12_carry 51 = .ok (.laload, 1) := by decide +kernel
theorem dX12_carry_52 : decode cX12_carry 52 = .ok (.lload 6, 2) := by decide +kernel
theorem dX12_carry_54 : decode cX12_carry 54 = .ok (.lload 8, 2) := by decide +kernel
theorem dX12_carry_56 : decode cX12_carry 56 = .ok (.aload_n 0, 1) := by decide +kernel
theorem dX12_carry_57 : decode cX12_carry 57 = .ok (.getfield 22, 3) := by decide +kernel
theorem dX12_carry_60 : decode cX12_carry 60 = .ok (.iload_n 1, 1) := by decide +kernel
theorem dX12_carry_61 : decode cX12_carry 61 = .ok (.laload, 1) := by decide +kernel
theorem dX12_carry_62 : decode cX12_carry 62 = .ok (.aload_n 0, 1) := by decide +kernel
theorem dX12_carry_63 : decode cX12_carry 63 = .ok (.getfield 25, 3) := by decide +kernel
theorem dX12_carry_66 : decode cX12_carry 66 = .ok (.iload_n 1, 1) := by decide +kernel
theorem dX12_carry_67 : decode cX12_carry 67 = .ok (.laload, 1) := by decide +kernel
theorem dX12_carry_68 : decode cX12_carry 68 = .ok (.invokestatic 186, 3) := by decide +kernel
theorem dX12_carry_71 : decode cX12_carry 71 = .ok (.ladd, 1) := by decide +kernel
theorem dX12_carry_72 : decode cX12_carry 72 = .ok (.lastore, 1) := by decide +kernel
theorem dX12_carry_73 : decode cX12_carry 73 = .ok (.return_, 1) := by decide +kernel
theorem dX12_carryAll_0 : decode cX12_carryAll 0 = .ok (.iconst 0, 1) := by decide +kernel
theorem dX12_carryAll_1 : decode cX12_carryAll 1 = .ok (.istore_n 3, 1) := by decide +kernel
theorem dX12_carryAll_2 : decode cX12_carryAll 2 = .ok (.iload_n 3, 1) := by decide +kernel
theorem dX12_carryAll_3 : decode cX12_carryAll 3 = .ok (.i2l, 1) := by decide +kernel
theorem dX12_carryAll_4 : decode cX12_carryAll 4 = .ok (.aload_n 0, 1) := by decide +kernel
theorem dX12_carryAll_5 : decode cX12_carryAll 5 = .ok (.getfield 9, 3) := by decide +kernel
theorem dX12_carryAll_8 : decode cX12_carryAll 8 = .ok (.iconst 2, 1) := by decide +kernel
theorem dX12_carryAll_9 : decode cX12_carryAll 9 = .ok (.laload, 1) := by decide +kernel
theorem dX12_carryAll_10 : decode cX12_carryAll 10 = .ok (.lcmp, 1) := by decide +kernel
theorem dX12_carryAll_11 : decode cX12_carryAll 11 = .ok (.ifCond .ge 15, 3) := by decide +kernel
theorem dX12_carryAll_14 : decode cX12_carryAll 14 = .ok (.aload_n 0, 1) := by decide +kernel
theorem dX12_carryAll_15 : decode cX12_carryAll 15 = .ok (.iload_n 3, 1) := by decide +kernel
theorem dX12_carryAll_16 : decode cX12_carryAll 16 = .ok (.lload_n 1, 1) := by decide +kernel
theorem dX12_carryAll_17 : decode cX12_carryAll 17 = .ok (.invokevirtual 197, 3) := by decide +kernel
theorem dX12_carryAll_20 : decode cX12_carryAll 20 = .ok (.iinc 3 1, 3) := by decide +kernel
theorem dX12_carryAll_23 : decode cX12_carryAll 23 = .ok (.goto (-21), 3) := by decide +kernel
theorem dX12_carryAll_26 : decode cX12_carryAll 26 = .ok (.return_, 1) := by decide +kernel
theorem dX12_determinant_0 : decode cX12_determinant 0 = .ok (.aload_n 0, 1) := by decide +kernel
theorem dX12_determinant_1 : decode cX12_determinant 1 = .ok (.getfield 22, 3) := by decide +kernel
theorem dX12_determinant_4 : decode cX12_determinant 4 = .ok (.iload_n 1, 1) := by decide +kernel
theorem dX12_determinant_5 : decode cX12_determinant 5 = .ok (.laload, 1) := by decide +kernel
theorem dX12_determinant_6 : decode cX12_determinant 6 = .ok (.aload_n 0, 1) := by decide +kernel
theorem dX12_determinant_7 : decode cX12_determinant 7 = .ok (.getfield 25, 3) := by decide +kernel
theorem dX12_determinant_10 : decode cX12_determinant 10 = .ok (.iload_n 2, 1) := by decide +kernel
theorem dX12_determinant_11 : decode cX12_determinant 11 = .ok (.laload, 1) := by decide +kernel
theorem dX12_determinant_12 : decode cX12_determinant 12 = .ok (.lmul, 1) := by decide +kernel
theorem dX12_determinant_13 : decode cX12_determinant 13 = .ok (.aload_n 0, 1) := by decide +kernel
theorem dX12_determinant_14 : decode cX12_determinant 14 = .ok (.getfield 22, 3) := by decide +kernel
theorem dX12_determinant_17 : decode cX12_determinant 17 = .ok (.iload_n 2, 1) := by decide +kernel
theorem dX12_determinant_18 : decode cX12_determinant 18 = .ok (.laload, 1) := by decide +kernel
theorem dX12_determinant_19 : decode cX12_determinant 19 = .ok (.aload_n 0, 1) := by decide +kernel
theorem dX12_determinant_20 : decode cX12_determinant 20 = .ok (.getfield 25, 3) := by decide +kernel
theorem dX12_determinant_23 : decode cX12_determinant 23 = .ok (.iload_n 1, 1) := by decide +kernel
theorem dX12_determinant_24 : decode cX12_determinant 24 = .ok (.laload, 1) := by decide +kernel
theorem dX12_determinant_25 : decode cX12_determinant 25 = .ok (.lmul, 1) := by decide +kernel
theorem dX12_determinant_26 : decode cX12_determinant 26 = .ok (.lsub, 1) := by decide +kernel
theorem dX12_determinant_27 : decode cX12_determinant 27 = .ok (.lreturn, 1) := by decide +kernel
theorem dX12_crossWell_0 : decode cX12_crossWell 0 = .ok (.aload_n 0, 1) := by decide +kernel
theorem dX12_crossWell_1 : decode cX12_crossWell 1 = .ok (.iload_n 1, 1) := by decide +kernel
theorem dX12_crossWell_2 : decode cX12_crossWell 2 = .ok (.iload_n 2, 1) := by decide +kernel
theorem dX12_crossWell_3 : decode cX12_crossWell 3 = .ok (.invokevirtual 201, 3) := by decide +kernel
theorem dX12_crossWell_6 : decode cX12_crossWell 6 = .ok (.invokestatic 204, 3) := by decide +kernel
theorem dX12_crossWell_9 : decode cX12_crossWell 9 = .ok (.ldc2_w 207, 3) := by decide +kernel
theorem dX12_crossWell_12 : decode cX12_crossWell 12 = .ok (.lcmp, 1) := by decide +kernel
theorem dX12_crossWell_13 : decode cX12_crossWell 13 = .ok (.ifCond .lt 7, 3) := by decide +kernel
theorem dX12_crossWell_16 : decode cX12_crossWell 16 = .ok (.iconst 1, 1) := by decide +kernel
theorem dX12_crossWell_17 : decode cX12_crossWell 17 = .ok (.goto 4, 3) := by decide +kernel
theorem dX12_crossWell_20 : decode cX12_crossWell 20 = .ok (.iconst 0, 1) := by decide +kernel
theorem dX12_crossWell_21 : decode cX12_crossWell 21 = .ok (.ireturn, 1) := by decide +kernel
theorem dX12_crossingOf_0 : decode cX12_crossingOf 0 = .ok (.aload_n 0, 1) := by decide +kernel
theorem dX12_crossingOf_1 : decode cX12_crossingOf 1 = .ok (.getfield 28, 3) := by decide +kernel
theorem dX12_crossingOf_4 : decode cX12_crossingOf 4 = .ok (.iload_n 1, 1) := by decide +kernel
theorem dX12_crossingOf_5 : decode cX12_crossingOf 5 = .ok (.laload, 1) := by decide +kernel
theorem dX12_crossingOf_6 : decode cX12_crossingOf 6 = .ok (.lstore 4, 2) := by decide +kernel
theorem dX12_crossingOf_8 : decode cX12_crossingOf 8 = .ok (.aload_n 0, 1) := by decide +kernel
theorem dX12_crossingOf_9 : decode cX12_crossingOf 9 = .ok (.getfield 28, 3) := by decide +kernel
theorem dX12_crossingOf_12 : decode cX12_crossingOf 12 = .ok (.iload_n 2, 1) := by decide +kernel
theorem dX12_crossingOf_13 : decode cX12_crossingOf 13 = .ok (.laload, 1) := by decide +kernel
theorem dX12_crossingOf_14 : decode cX12_crossingOf 14 = .ok (.lstore 6, 2) := by decide +kernel
theorem dX12_crossingOf_16 : decode cX12_crossingOf 16 = .ok (.iload_n 3, 1) := by decide +kernel
theorem dX12_crossingOf_17 : decode cX12_crossingOf 17 = .ok (.ifCond .eq 25, 3) := by decide +kernel
theorem dX12_crossingOf_20 : decode cX12_crossingOf 20 = .ok (.lload 6, 2) := by decide +kernel
theorem dX12_crossingOf_22 : decode cX12_crossingOf 22 = .ok (.aload_n 0, 1) := by decide +kernel
theorem dX12_crossingOf_23 : decode cX12_crossingOf 23 = .ok (.getfield 22, 3) := by decide +kernel
theorem dX12_crossingOf_26 : decode cX12_crossingOf 26 = .ok (.iload_n 1, 1) := by decide +kernel
theorem dX12_crossingOf_27 : decode cX12_crossingOf 27 = .ok (.laload, 1) := by decide +kernel
theorem dX12_crossingOf_28 : decode cX12_crossingOf 28 = .ok (.lmul, 1) := by decide +kernel
theorem dX12_crossingOf_29 : decode cX12_crossingOf 29 = .ok (.lload 4, 2) := by decide +kernel
theorem dX12_crossingOf_31 : decode cX12_crossingOf 31 = .ok (.aload_n 0, 1) := by decide +kernel
theorem dX12_crossingOf_32 : decode cX12_crossingOf 32 = .ok (.getfield 22, 3) := by decide +kernel
theorem dX12_crossingOf_35 : decode cX12_crossingOf 35 = .ok (.iload_n 2, 1) := by decide +kernel
theorem dX12_crossingOf_36 : decode cX12_crossingOf 36 = .ok (.laload, 1) := by decide +kernel
theorem dX12_crossingOf_37 : decode cX12_crossingOf 37 = .ok (.lmul, 1) := by decide +kernel
theorem dX12_crossingOf_38 : decode cX12_crossingOf 38 = .ok (.lsub, 1) := by decide +kernel
theorem dX12_crossingOf_39 : decode cX12_crossingOf 39 = .ok (.goto 22, 3) := by decide +kernel
theorem dX12_crossingOf_42 : decode cX12_crossingOf 42 = .ok (.lload 4, 2) := by decide +kernel
theorem dX12_crossingOf_44 : decode cX12_crossingOf 44 = .ok (.aload_n 0, 1) := by decide +kernel
theorem dX12_crossingOf_45 : decode cX12_crossingOf 45 = .ok (.getfield 25, 3) := by decide +kernel
theorem dX12_crossingOf_48 : decode cX12_crossingOf 48 = .ok (.iload_n 2, 1) := by decide +kernel
theorem dX12_crossingOf_49 : decode cX12_crossingOf 49 = .ok (.laload, 1) := by decide +kernel
theorem dX12_crossingOf_50 : decode cX12_crossingOf 50 = .ok (.lmul, 1) := by decide +kernel
theorem dX12_crossingOf_51 : decode cX12_crossingOf 51 = .ok (.lload 6, 2) := by decide +kernel
theorem dX12_crossingOf_53 : decode cX12_crossingOf 53 = .ok (.aload_n 0, 1) := by decide +kernel
theorem dX12_crossingOf_54 : decode cX12_crossingOf 54 = .ok (.getfield 25, 3) := by decide +kernel
theorem dX12_crossingOf_57 : decode cX12_crossingOf 57 = .ok (.iload_n 1, 1) := by decide +kernel
theorem dX12_crossingOf_58 : decode cX12_crossingOf 58 = .ok (.laload, 1) := by decide +kernel
theorem dX12_crossingOf_59 : decode cX12_crossingOf 59 = .ok (.lmul, 1) := by decide +kernel
theorem dX12_crossingOf_60 : decode cX12_crossingOf 60 = .ok (.lsub, 1) := by decide +kernel
theorem dX12_crossingOf_61 : decode cX12_crossingOf 61 = .ok (.lstore 8, 2) := by decide +kernel
theorem dX12_crossingOf_63 : decode cX12_crossingOf 63 = .ok (.lload 8, 2) := by decide +kernel
theorem dX12_crossingOf_65 : decode cX12_crossingOf 65 = .ok (.aload_n 0, 1) := by decide +kernel
theorem dX12_crossingOf_66 : decode cX12_crossingOf 66 = .ok (.iload_n 1, 1) := by decide +kernel
theorem dX12_crossingOf_67 : decode cX12_crossingOf 67 = .ok (.iload_n 2, 1) := by decide +kernel
theorem dX12_crossingOf_68 : decode cX12_crossingOf 68 = .ok (.invokevirtual 201, 3) := by decide +kernel
theorem dX12_crossingOf_71 : decode cX12_crossingOf 71 = .ok (.invokestatic 209, 3) := by decide +kernel
theorem dX12_crossingOf_74 : decode cX12_crossingOf 74 = .ok (.ldc2_w 113, 3) := by decide +kernel
theorem dX12_crossingOf_77 : decode cX12_crossingOf 77 = .ok (.invokestatic 176, 3) := by decide +kernel
theorem dX12_crossingOf_80 : decode cX12_crossingOf 80 = .ok (.lreturn, 1) := by decide +kernel
theorem dX12_floorBig_0 : decode cX12_floorBig 0 = .ok (.lload_n 0, 1) := by decide +kernel
theorem dX12_floorBig_1 : decode cX12_floorBig 1 = .ok (.lload_n 2, 1) := by decide +kernel
theorem dX12_floorBig_2 : decode cX12_floorBig 2 = .ok (.invokestatic 92, 3) := by decide +kernel
theorem dX12_floorBig_5 : decode cX12_floorBig 5 = .ok (.lstore 4, 2) := by decide +kernel
theorem dX12_floorBig_7 : decode cX12_floorBig 7 = .ok (.lload_n 0, 1) := by decide +kernel
theorem dX12_floorBig_8 : decode cX12_floorBig 8 = .ok (.lload 4, 2) := by decide +kernel
theorem dX12_floorBig_10 : decode cX12_floorBig 10 = .ok (.lload_n 2, 1) := by decide +kernel
theorem dX12_floorBig_11 : decode cX12_floorBig 11 = .ok (.lmul, 1) := by decide +kernel
theorem dX12_floorBig_12 : decode cX12_floorBig 12 = .ok (.lsub, 1) := by decide +kernel
theorem dX12_floorBig_13 : decode cX12_floorBig 13 = .ok (.lstore 6, 2) := by decide +kernel
theorem dX12_floorBig_15 : decode cX12_floorBig 15 = .ok (.lload 4, 2) := by decide +kernel
theorem dX12_floorBig_17 : decode cX12_floorBig 17 = .ok (.ldc2_w 212, 3) := by decide +kernel
theorem dX12_floorBig_20 : decode cX12_floorBig 20 = .ok (.invokestatic 176, 3) := by decide +kernel
theorem dX12_floorBig_23 : decode cX12_floorBig 23 = .ok (.ldc2_w 113, 3) := by decide +kernel
theorem dX12_floorBig_26 : decode cX12_floorBig 26 = .ok (.lmul, 1) := by decide +kernel
theorem dX12_floorBig_27 : decode cX12_floorBig 27 = .ok (.lload 6, 2) := by decide +kernel
theorem dX12_floorBig_29 : decode cX12_floorBig 29 = .ok (.ldc2_w 113, 3) := by decide +kernel
theorem dX12_floorBig_32 : decode cX12_floorBig 32 = .ok (.lmul, 1) := by decide +kernel
theorem dX12_floorBig_33 : decode cX12_floorBig 33 = .ok (.lload_n 2, 1) := by decide +kernel
theorem dX12_floorBig_34 : decode cX12_floorBig 34 = .ok (.invokestatic 92, 3) := by decide +kernel
theorem dX12_floorBig_37 : decode cX12_floorBig 37 = .ok (.ladd, 1) := by decide +kernel
theorem dX12_floorBig_38 : decode cX12_floorBig 38 = .ok (.lreturn, 1) := by decide +kernel
theorem dX12_layHat_0 : decode cX12_layHat 0 = .ok (.aload_n 0, 1) := by decide +kernel
theorem dX12_layHat_1 : decode cX12_layHat 1 = .ok (.iload_n 1, 1) := by decide +kernel
theorem dX12_layHat_2 : decode cX12_layHat 2 = .ok (.iload_n 2, 1) := by decide +kernel
theorem dX12_layHat_3 : decode cX12_layHat 3 = .ok (.invokevirtual 214, 3) := by decide +kernel
theorem dX12_layHat_6 : decode cX12_layHat 6 = .ok (.ifCond .eq 21, 3) := by decide +kernel
theorem dX12_layHat_9 : decode cX12_layHat 9 = .ok (.aload_n 0, 1) := by decide +kernel
theorem dX12_layHat_10 : decode cX12_layHat 10 = .ok (.iload_n 1, 1) := by decide +kernel
theorem dX12_layHat_11 : decode cX12_layHat 11 = .ok (.iload_n 3, 1) := by decide +kernel
theorem dX12_layHat_12 : decode cX12_layHat 12 = .ok (.invokevirtual 214, 3) := by decide +kernel
theorem dX12_layHat_15 : decode cX12_layHat 15 = .ok (.ifCond .eq 12, 3) := by decide +kernel
theorem dX12_layHat_18 : decode cX12_layHat 18 = .ok (.aload_n 0, 1) := by decide +kernel
theorem dX12_layHat_19 : decode cX12_layHat 19 = .ok (.iload_n 2, 1) := by decide +kernel
theorem dX12_layHat_20 : decode cX12_layHat 20 = .ok (.iload_n 3, 1) := by decide +kernel
theorem dX12_layHat_21 : decode cX12_layHat 21 = .ok (.invokevirtual 214, 3) := by decide +kernel
theorem dX12_layHat_24 : decode cX12_layHat 24 = .ok (.ifCond .ne 5, 3) := by decide +kernel
theorem dX12_layHat_27 : decode cX12_layHat 27 = .ok (.iconst 0, 1) := by decide +kernel
theorem dX12_layHat_28 : decode cX12_layHat 28 = .ok (.ireturn, 1) := by decide +kernel
theorem dX12_layHat_29 : decode cX12_layHat 29 = .ok (.aload_n 0, 1) := by decide +kernel
theorem dX12_layHat_30 : decode cX12_layHat 30 = .ok (.getfield 31, 3) := by decide +kernel
theorem dX12_layHat_33 : decode cX12_layHat 33 = .ok (.iconst 0, 1) := by decide +kernel
theorem dX12_layHat_34 : decode cX12_layHat 34 = .ok (.aload_n 0, 1) := by decide +kernel
theorem dX12_layHat_35 : decode cX12_layHat 35 = .ok (.iload_n 1, 1) := by decide +kernel
theorem dX12_layHat_36 : decode cX12_layHat 36 = .ok (.iload_n 2, 1) := by decide +kernel
theorem dX12_layHat_37 : decode cX12_layHat 37 = .ok (.iconst 0, 1) := by decide +kernel
theorem dX12_layHat_38 : decode cX12_layHat 38 = .ok (.invokevirtual 218, 3) := by decide +kernel
theorem dX12_layHat_41 : decode cX12_layHat 41 = .ok (.lastore, 1) := by decide +kernel
theorem dX12_layHat_42 : decode cX12_layHat 42 = .ok (.aload_n 0, 1) := by decide +kernel
theorem dX12_layHat_43 : decode cX12_layHat 43 = .ok (.getfield 34, 3) := by decide +kernel
theorem dX12_layHat_46 : decode cX12_layHat 46 = .ok (.iconst 0, 1) := by decide +kernel
theorem dX12_layHat_47 : decode cX12_layHat 47 = .ok (.aload_n 0, 1) := by decide +kernel
theorem dX12_layHat_48 : decode cX12_layHat 48 = .ok (.iload_n 1, 1) := by decide +kernel
theorem dX12_layHat_49 : decode cX12_layHat 49 = .ok (.iload_n 2, 1) := by decide +kernel
theorem dX12_layHat_50 : decode cX12_layHat 50 = .ok (.iconst 1, 1) := by decide +kernel
theorem dX12_layHat_51 : decode cX12_layHat 51 = .ok (.invokevirtual 218, 3) := by decide +kernel
theorem dX12_layHat_54 : decode cX12_layHat 54 = .ok (.lastore, 1) := by decide +kernel
theorem dX12_layHat_55 : decode cX12_layHat 55 = .ok (.aload_n 0, 1) := by decide +kernel
theorem dX12_layHat_56 : decode cX12_layHat 56 = .ok (.getfield 31, 3) := by decide +kernel
theorem dX12_layHat_59 : decode cX12_layHat 59 = .ok (.iconst 1, 1) := by decide +kernel
theorem dX12_layHat_60 : decode cX12_layHat 60 = .ok (.aload_n 0, 1) := by decide +kernel
theorem dX12_layHat_61 : decode cX12_layHat 61 = .ok (.iload_n 1, 1) := by decide +kernel
theorem dX12_layHat_62 : decode cX12_layHat 62 = .ok (.iload_n 3, 1) := by decide +kernel
theorem dX12_layHat_63 : decode cX12_layHat 63 = .ok (.iconst 0, 1) := by decide +kernel
theorem dX12_layHat_64 : decode cX12_layHat 64 = .ok (.invokevirtual 218, 3) := by decide +kernel
theorem dX12_layHat_67 : decode cX12_layHat 67 = .ok (.lastore, 1) := by decide +kernel
theorem dX12_layHat_68 : decode cX12_layHat 68 = .ok (.aload_n 0, 1) := by decide +kernel
theorem dX12_layHat_69 : decode cX12_layHat 69 = .ok (.getfield 34, 3) := by decide +kernel
theorem dX12_layHat_72 : decode cX12_layHat 72 = .ok (.iconst 1, 1) := by decide +kernel
theorem dX12_layHat_73 : decode cX12_layHat 73 = .ok (.aload_n 0, 1) := by decide +kernel
theorem dX12_layHat_74 : decode cX12_layHat 74 = .ok (.iload_n 1, 1) := by decide +kernel
theorem dX12_layHat_75 : decode cX12_layHat 75 = .ok (.iload_n 3, 1) := by decide +kernel
theorem dX12_layHat_76 : decode cX12_layHat 76 = .ok (.iconst 1, 1) := by decide +kernel
theorem dX12_layHat_77 : decode cX12_layHat 77 = .ok (.invokevirtual 218, 3) := by decide +kernel
theorem dX12_layHat_80 : decode cX12_layHat 80 = .ok (.lastore, 1) := by decide +kernel
theorem dX12_layHat_81 : decode cX12_layHat 81 = .ok (.aload_n 0, 1) := by decide +kernel
theorem dX12_layHat_82 : decode cX12_layHat 82 = .ok (.getfield 31, 3) := by decide +kernel
theorem dX12_layHat_85 : decode cX12_layHat 85 = .ok (.iconst 2, 1) := by decide +kernel
theorem dX12_layHat_86 : decode cX12_layHat 86 = .ok (.aload_n 0, 1) := by decide +kernel
theorem dX12_layHat_87 : decode cX12_layHat 87 = .ok (.iload_n 2, 1) := by decide +kernel
theorem dX12_layHat_88 : decode cX12_layHat 88 = .ok (.iload_n 3, 1) := by decide +kernel
theorem dX12_layHat_89 : decode cX12_layHat 89 = .ok (.iconst 0, 1) := by decide +kernel
theorem dX12_layHat_90 : decode cX12_layHat 90 = .ok (.invokevirtual 218, 3) := by decide +kernel
theorem dX12_layHat_93 : decode cX12_layHat 93 = .ok (.lastore, 1) := by decide +kernel
theorem dX12_layHat_94 : decode cX12_layHat 94 = .ok (.aload_n 0, 1) := by decide +kernel
theorem dX12_layHat_95 : decode cX12_layHat 95 = .ok (.getfield 34, 3) := by decide +kernel
theorem dX12_layHat_98 : decode cX12_layHat 98 = .ok (.iconst 2, 1) := by decide +kernel
theorem dX12_layHat_99 : decode cX12_layHat 99 = .ok (.aload_n 0, 1) := by decide +kernel
theorem dX12_layHat_100 : decode cX12_layHat 100 = .ok (.iload_n 2, 1) := by decide +kernel
theorem dX12_layHat_101 : decode cX12_layHat 101 = .ok (.iload_n 3, 1) := by decide +kernel
theorem dX12_layHat_102 : decode cX12_layHat 102 = .ok (.iconst 1, 1) := by decide +kernel
theorem dX12_layHat_103 : decode cX12_layHat 103 = .ok (.invokevirtual 218, 3) := by decide +kernel
theorem dX12_layHat_106 : decode cX12_layHat 106 = .ok (.lastore, 1) := by decide +kernel
theorem dX12_layHat_107 : decode cX12_layHat 107 = .ok (.iconst 1, 1) := by decide +kernel
theorem dX12_layHat_108 : decode cX12_layHat 108 = .ok (.ireturn, 1) := by decide +kernel
theorem dX12_turn_0 : decode cX12_turn 0 = .ok (.lload 4, 2) := by decide +kernel
theorem dX12_turn_2 : decode cX12_turn 2 = .ok (.lload_n 0, 1) := by decide +kernel
theorem dX12_turn_3 : decode cX12_turn 3 = .ok (.lsub, 1) := by decide +kernel
theorem dX12_turn_4 : decode cX12_turn 4 = .ok (.lload 10, 2) := by decide +kernel
theorem dX12_turn_6 : decode cX12_turn 6 = .ok (.lload_n 2, 1) := by decide +kernel
theorem dX12_turn_7 : decode cX12_turn 7 = .ok (.lsub, 1) := by decide +kernel
theorem dX12_turn_8 : decode cX12_turn 8 = .ok (.lmul, 1) := by decide +kernel
theorem dX12_turn_9 : decode cX12_turn 9 = .ok (.lload 8, 2) := by decide +kernel
theorem dX12_turn_11 : decode cX12_turn 11 = .ok (.lload_n 0, 1) := by decide +kernel
theorem dX12_turn_12 : decode cX12_turn 12 = .ok (.lsub, 1) := by decide +kernel
theorem dX12_turn_13 : decode cX12_turn 13 = .ok (.lload 6, 2) := by decide +kernel
theorem dX12_turn_15 : decode cX12_turn 15 = .ok (.lload_n 2, 1) := by decide +kernel
theorem dX12_turn_16 : decode cX12_turn 16 = .ok (.lsub, 1) := by decide +kernel
theorem dX12_turn_17 : decode cX12_turn 17 = .ok (.lmul, 1) := by decide +kernel
theorem dX12_turn_18 : decode cX12_turn 18 = .ok (.lsub, 1) := by decide +kernel
theorem dX12_turn_19 : decode cX12_turn 19 = .ok (.lreturn, 1) := by decide +kernel
theorem dX12_hatArea_0 : decode cX12_hatArea 0 = .ok (.aload_n 0, 1) := by decide +kernel
theorem dX12_hatArea_1 : decode cX12_hatArea 1 = .ok (.getfield 31, 3) := by decide +kernel
theorem dX12_hatArea_4 : decode cX12_hatArea 4 = .ok (.iconst 0, 1) := by decide +kernel
theorem dX12_hatArea_5 : decode cX12_hatArea 5 = .ok (.laload, 1) := by decide +kernel
theorem dX12_hatArea_6 : decode cX12_hatArea 6 = .ok (.aload_n 0, 1) := by decide +kernel
theorem dX12_hatArea_7 : decode cX12_hatArea 7 = .ok (.getfield 34, 3) := by decide +kernel
theorem dX12_hatArea_10 : decode cX12_hatArea 10 = .ok (.iconst 0, 1) := by decide +kernel
theorem dX12_hatArea_11 : decode cX12_hatArea 11 = .ok (.laload, 1) := by decide +kernel
theorem dX12_hatArea_12 : decode cX12_hatArea 12 = .ok (.aload_n 0, 1) := by decide +kernel
theorem dX12_hatArea_13 : decode cX12_hatArea 13 = .ok (.getfield 31, 3) := by decide +kernel
theorem dX12_hatArea_16 : decode cX12_hatArea 16 = .ok (.iconst 1, 1) := by decide +kernel
theorem dX12_hatArea_17 : decode cX12_hatArea 17 = .ok (.laload, 1) := by decide +kernel
theorem dX12_hatArea_18 : decode cX12_hatArea 18 = .ok (.aload_n 0, 1) := by decide +kernel
theorem dX12_hatArea_19 : decode cX12_hatArea 19 = .ok (.getfield 34, 3) := by decide +kernel
theorem dX12_hatArea_22 : decode cX12_hatArea 22 = .ok (.iconst 1, 1) := by decide +kernel
theorem dX12_hatArea_23 : decode cX12_hatArea 23 = .ok (.laload, 1) := by decide +kernel
theorem dX12_hatArea_24 : decode cX12_hatArea 24 = .ok (.aload_n 0, 1) := by decide +kernel
theorem dX12_hatArea_25 : decode cX12_hatArea 25 = .ok (.getfield 31, 3) := by decide +kernel
theorem dX12_hatArea_28 : decode cX12_hatArea 28 = .ok (.iconst 2, 1) := by decide +kernel
theorem dX12_hatArea_29 : decode cX12_hatArea 29 = .ok (.laload, 1) := by decide +kernel
theorem dX12_hatArea_30 : decode cX12_hatArea 30 = .ok (.aload_n 0, 1) := by decide +kernel
theorem dX12_hatArea_31 : decode cX12_hatArea 31 = .ok (.getfield 34, 3) := by decide +kernel
theorem dX12_hatArea_34 : decode cX12_hatArea 34 = .ok (.iconst 2, 1) := by decide +kernel
theorem dX12_hatArea_35 : decode cX12_hatArea 35 = .ok (.laload, 1) := by decide +kernel
theorem dX12_hatArea_36 : decode cX12_hatArea 36 = .ok (.invokestatic 222, 3) := by decide +kernel
theorem dX12_hatArea_39 : decode cX12_hatArea 39 = .ok (.invokestatic 204, 3) := by decide +kernel
theorem dX12_hatArea_42 : decode cX12_hatArea 42 = .ok (.ldc2_w 226, 3) := by decide +kernel
theorem dX12_hatArea_45 : decode cX12_hatArea 45 = .ok (.ldiv, 1) := by decide +kernel
theorem dX12_hatArea_46 : decode cX12_hatArea 46 = .ok (.lreturn, 1) := by decide +kernel
theorem dX12_isBeside_0 : decode cX12_isBeside 0 = .ok (.aload_n 0, 1) := by decide +kernel
theorem dX12_isBeside_1 : decode cX12_isBeside 1 = .ok (.getfield 31, 3) := by decide +kernel
theorem dX12_isBeside_4 : decode cX12_isBeside 4 = .ok (.iload_n 1, 1) := by decide +kernel
theorem dX12_isBeside_5 : decode cX12_isBeside 5 = .ok (.laload, 1) := by decide +kernel
theorem dX12_isBeside_6 : decode cX12_isBeside 6 = .ok (.aload_n 0, 1) := by decide +kernel
theorem dX12_isBeside_7 : decode cX12_isBeside 7 = .ok (.getfield 34, 3) := by decide +kernel
theorem dX12_isBeside_10 : decode cX12_isBeside 10 = .ok (.iload_n 1, 1) := by decide +kernel
theorem dX12_isBeside_11 : decode cX12_isBeside 11 = .ok (.laload, 1) := by decide +kernel
theorem dX12_isBeside_12 : decode cX12_isBeside 12 = .ok (.aload_n 0, 1) := by decide +kernel
theorem dX12_isBeside_13 : decode cX12_isBeside 13 = .ok (.getfield 31, 3) := by decide +kernel
theorem dX12_isBeside_16 : decode cX12_isBeside 16 = .ok (.iload_n 2, 1) := by decide +kernel
theorem dX12_isBeside_17 : decode cX12_isBeside 17 = .ok (.laload, 1) := by decide +kernel
theorem dX12_isBeside_18 : decode cX12_isBeside 18 = .ok (.aload_n 0, 1) := by decide +kernel
theorem dX12_isBeside_19 : decode cX12_isBeside 19 = .ok (.getfield 34, 3) := by decide +kernel
theorem dX12_isBeside_22 : decode cX12_isBeside 22 = .ok (.iload_n 2, 1) := by decide +kernel
theorem dX12_isBeside_23 : decode cX12_isBeside 23 = .ok (.laload, 1) := by decide +kernel
theorem dX12_isBeside_24 : decode cX12_isBeside 24 = .ok (.aload_n 0, 1) := by decide +kernel
theorem dX12_isBeside_25 : decode cX12_isBeside 25 = .ok (.getfield 31, 3) := by decide +kernel
theorem dX12_isBeside_28 : decode cX12_isBeside 28 = .ok (.iload_n 3, 1) := by decide +kernel
theorem dX12_isBeside_29 : decode cX12_isBeside 29 = .ok (.laload, 1) := by decide +kernel
theorem dX12_isBeside_30 : decode cX12_isBeside 30 = .ok (.aload_n 0, 1) := by decide +kernel
theorem dX12_isBeside_31 : decode cX12_isBeside 31 = .ok (.getfield 34, 3) := by decide +kernel
theorem dX12_isBeside_34 : decode cX12_isBeside 34 = .ok (.iload_n 3, 1) := by decide +kernel
theorem dX12_isBeside_35 : decode cX12_isBeside 35 = .ok (.laload, 1) := by decide +kernel
theorem dX12_isBeside_36 : decode cX12_isBeside 36 = .ok (.invokestatic 222, 3) := by decide +kernel
theorem dX12_isBeside_39 : decode cX12_isBeside 39 = .ok (.lstore 8, 2) := by decide +kernel
theorem dX12_isBeside_41 : decode cX12_isBeside 41 = .ok (.aload_n 0, 1) := by decide +kernel
theorem dX12_isBeside_42 : decode cX12_isBeside 42 = .ok (.getfield 31, 3) := by decide +kernel
theorem dX12_isBeside_45 : decode cX12_isBeside 45 = .ok (.iload_n 1, 1) := by decide +kernel
theorem dX12_isBeside_46 : decode cX12_isBeside 46 = .ok (.laload, 1) := by decide +kernel
theorem dX12_isBeside_47 : decode cX12_isBeside 47 = .ok (.aload_n 0, 1) := by decide +kernel
theorem dX12_isBeside_48 : decode cX12_isBeside 48 = .ok (.getfield 34, 3) := by decide +kernel
theorem dX12_isBeside_51 : decode cX12_isBeside 51 = .ok (.iload_n 1, 1) := by decide +kernel
theorem dX12_isBeside_52 : decode cX12_isBeside 52 = .ok (.laload, 1) := by decide +kernel
theorem dX12_isBeside_53 : decode cX12_isBeside 53 = .ok (.aload_n 0, 1) := by decide +kernel
theorem dX12_isBeside_54 : decode cX12_isBeside 54 = .ok (.getfield 31, 3) := by decide +kernel
theorem dX12_isBeside_57 : decode cX12_isBeside 57 = .ok (.iload_n 2, 1) := by decide +kernel
theorem dX12_isBeside_58 : decode cX12_isBeside 58 = .ok (.laload, 1) := by decide +kernel
theorem dX12_isBeside_59 : decode cX12_isBeside 59 = .ok (.aload_n 0, 1) := by decide +kernel
theorem dX12_isBeside_60 : decode cX12_isBeside 60 = .ok (.getfield 34, 3) := by decide +kernel
theorem dX12_isBeside_63 : decode cX12_isBeside 63 = .ok (.iload_n 2, 1) := by decide +kernel
theorem dX12_isBeside_64 : decode cX12_isBeside 64 = .ok (.laload, 1) := by decide +kernel
theorem dX12_isBeside_65 : decode cX12_isBeside 65 = .ok (.lload 4, 2) := by decide +kernel
theorem dX12_isBeside_67 : decode cX12_isBeside 67 = .ok (.lload 6, 2) := by decide +kernel
theorem dX12_isBeside_69 : decode cX12_isBeside 69 = .ok (.invokestatic 222, 3) := by decide +kernel
theorem dX12_isBeside_72 : decode cX12_isBeside 72 = .ok (.lstore 10, 2) := by decide +kernel
theorem dX12_isBeside_74 : decode cX12_isBeside 74 = .ok (.lload 8, 2) := by decide +kernel
theorem dX12_isBeside_76 : decode cX12_isBeside 76 = .ok (.lconst 0, 1) := by decide +kernel
theorem dX12_isBeside_77 : decode cX12_isBeside 77 = .ok (.lcmp, 1) := by decide +kernel
theorem dX12_isBeside_78 : decode cX12_isBeside 78 = .ok (.ifCond .eq 37, 3) := by decide +kernel
theorem dX12_isBeside_81 : decode cX12_isBeside 81 = .ok (.lload 10, 2) := by decide +kernel
theorem dX12_isBeside_83 : decode cX12_isBeside 83 = .ok (.lconst 0, 1) := by decide +kernel
theorem dX12_isBeside_84 : decode cX12_isBeside 84 = .ok (.lcmp, 1) := by decide +kernel
theorem dX12_isBeside_85 : decode cX12_isBeside 85 = .ok (.ifCond .eq 30, 3) := by decide +kernel
theorem dX12_isBeside_88 : decode cX12_isBeside 88 = .ok (.lload 8, 2) := by decide +kernel
theorem dX12_isBeside_90 : decode cX12_isBeside 90 = .ok (.lconst 0, 1) := by decide +kernel
theorem dX12_isBeside_91 : decode cX12_isBeside 91 = .ok (.lcmp, 1) := by decide +kernel
theorem dX12_isBeside_92 : decode cX12_isBeside 92 = .ok (.ifCond .le 7, 3) := by decide +kernel
theorem dX12_isBeside_95 : decode cX12_isBeside 95 = .ok (.iconst 1, 1) := by decide +kernel
theorem dX12_isBeside_96 : decode cX12_isBeside 96 = .ok (.goto 4, 3) := by decide +kernel
theorem dX12_isBeside_99 : decode cX12_isBeside 99 = .ok (.iconst 0, 1) := by decide +kernel
theorem dX12_isBeside_100 : decode cX12_isBeside 100 = .ok (.lload 10, 2) := by decide +kernel
theorem dX12_isBeside_102 : decode cX12_isBeside 102 = .ok (.lconst 0, 1) := by decide +kernel
theorem dX12_isBeside_103 : decode cX12_isBeside 103 = .ok (.lcmp, 1) := by decide +kernel
theorem dX12_isBeside_104 : decode cX12_isBeside 104 = .ok (.ifCond .le 7, 3) := by decide +kernel
theorem dX12_isBeside_107 : decode cX12_isBeside 107 = .ok (.iconst 1, 1) := by decide +kernel
theorem dX12_isBeside_108 : decode cX12_isBeside 108 = .ok (.goto 4, 3) := by decide +kernel
theorem dX12_isBeside_111 : decode cX12_isBeside 111 = .ok (.iconst 0, 1) := by decide +kernel
theorem dX12_isBeside_112 : decode cX12_isBeside 112 = .ok (.if_icmp .ne 7, 3) := by decide +kernel
theorem dX12_isBeside_115 : decode cX12_isBeside 115 = .ok (.iconst 1, 1) := by decide +kernel
theorem dX12_isBeside_116 : decode cX12_isBeside 116 = .ok (.goto 4, 3) := by decide +kernel
theorem dX12_isBeside_119 : decode cX12_isBeside 119 = .ok (.iconst 0, 1) := by decide +kernel
theorem dX12_isBeside_120 : decode cX12_isBeside 120 = .ok (.ireturn, 1) := by decide +kernel
theorem dX12_layFix_0 : decode cX12_layFix 0 = .ok (.aload_n 0, 1) := by decide +kernel
theorem dX12_layFix_1 : decode cX12_layFix 1 = .ok (.lload_n 1, 1) := by decide +kernel
theorem dX12_layFix_2 : decode cX12_layFix 2 = .ok (.invokevirtual 228, 3) := by decide +kernel
theorem dX12_layFix_5 : decode cX12_layFix 5 = .ok (.lconst 0, 1) := by decide +kernel
theorem dX12_layFix_6 : decode cX12_layFix 6 = .ok (.lstore_n 3, 1) := by decide +kernel
theorem dX12_layFix_7 : decode cX12_layFix 7 = .ok (.lconst 0, 1) := by decide +kernel
theorem dX12_layFix_8 : decode cX12_layFix 8 = .ok (.lstore 5, 2) := by decide +kernel
theorem dX12_layFix_10 : decode cX12_layFix 10 = .ok (.lconst 0, 1) := by decide +kernel
theorem dX12_layFix_11 : decode cX12_layFix 11 = .ok (.lstore 7, 2) := by decide +kernel
theorem dX12_layFix_13 : decode cX12_layFix 13 = .ok (.lconst 0, 1) := by decide +kernel
theorem dX12_layFix_14 : decode cX12_layFix 14 = .ok (.lstore 9, 2) := by decide +kernel
theorem dX12_layFix_16 : decode cX12_layFix 16 = .ok (.lconst 0, 1) := by decide +kernel
theorem dX12_layFix_17 : decode cX12_layFix 17 = .ok (.lstore 11, 2) := by decide +kernel
theorem dX12_layFix_19 : decode cX12_layFix 19 = .ok (.iconst 0, 1) := by decide +kernel
theorem dX12_layFix_20 : decode cX12_layFix 20 = .ok (.istore 13, 2) := by decide +kernel
theorem dX12_layFix_22 : decode cX12_layFix 22 = .ok (.iload 13, 2) := by decide +kernel
theorem dX12_layFix_24 : decode cX12_layFix 24 = .ok (.i2l, 1) := by decide +kernel
theorem dX12_layFix_25 : decode cX12_layFix 25 = .ok (.aload_n 0, 1) := by decide +kernel
theorem dX12_layFix_26 : decode cX12_layFix 26 = .ok (.getfield 9, 3) := by decide +kernel
theorem dX12_layFix_29 : decode cX12_layFix 29 = .ok (.iconst 2, 1) := by decide +kernel
theorem dX12_layFix_30 : decode cX12_layFix 30 = .ok (.laload, 1) := by decide +kernel
theorem dX12_layFix_31 : decode cX12_layFix 31 = .ok (.lcmp, 1) := by decide +kernel
theorem dX12_layFix_32 : decode cX12_layFix 32 = .ok (.ifCond .ge 117, 3) := by decide +kernel
theorem dX12_layFix_35 : decode cX12_layFix 35 = .ok (.lload_n 3, 1) := by decide +kernel
theorem dX12_layFix_36 : decode cX12_layFix 36 = .ok (.aload_n 0, 1) := by decide +kernel
theorem dX12_layFix_37 : decode cX12_layFix 37 = .ok (.getfield 22, 3) := by decide +kernel
theorem dX12_layFix_40 : decode cX12_layFix 40 = .ok (.iload 13, 2) := by decide +kernel
theorem dX12_layFix_42 : decode cX12_layFix 42 = .ok (.laload, 1) := by decide +kernel
theorem dX12_layFix_43 : decode cX12_layFix 43 = .ok (.aload_n 0, 1) := by decide +kernel
theorem dX12_layFix_44 : decode cX12_layFix 44 = .ok (.getfield 22, 3) := by decide +kernel
theorem dX12_layFix_47 : decode cX12_layFix 47 = .ok (.iload 13, 2) := by decide +kernel
theorem dX12_layFix_49 : decode cX12_layFix 49 = .ok (.laload, 1) := by decide +kernel
theorem dX12_layFix_50 : decode cX12_layFix 50 = .ok (.invokestatic 120, 3) := by decide +kernel
theorem dX12_layFix_53 : decode cX12_layFix 53 = .ok (.ladd, 1) := by decide +kernel
theorem dX12_layFix_54 : decode cX12_layFix 54 = .ok (.lstore_n 3, 1) := by decide +kernel
theorem dX12_layFix_55 : decode cX12_layFix 55 = .ok (.lload 5, 2) := by decide +kernel
theorem dX12_layFix_57 : decode cX12_layFix 57 = .ok (.aload_n 0, 1) := by decide +kernel
theorem dX12_layFix_58 : decode cX12_layFix 58 = .ok (.getfield 22, 3) := by decide +kernel
theorem dX12_layFix_61 : decode cX12_layFix 61 = .ok (.iload 13, 2) := by decide +kernel
theorem dX12_layFix_63 : decode cX12_layFix 63 = .ok (.laload, 1) := by decide +kernel
theorem dX12_layFix_64 : decode cX12_layFix 64 = .ok (.aload_n 0, 1) := by decide +kernel
theorem dX12_layFix_65 : decode cX12_layFix 65 = .ok (.getfield 25, 3) := by decide +kernel
theorem dX12_layFix_68 : decode cX12_layFix 68 = .ok (.iload 13, 2) := by decide +kernel
theorem dX12_layFix_70 : decode cX12_layFix 70 = .ok (.laload, 1) := by decide +kernel
theorem dX12_layFix_71 : decode cX12_layFix 71 = .ok (.invokestatic 120, 3) := by decide +kernel
theorem dX12_layFix_74 : decode cX12_layFix 74 = .ok (.ladd, 1) := by decide +kernel
theorem dX12_layFix_75 : decode cX12_layFix 75 = .ok (.lstore 5, 2) := by decide +kernel
theorem dX12_layFix_77 : decode cX12_layFix 77 = .ok (.lload 7, 2) := by decide +kernel
theorem dX12_layFix_79 : decode cX12_layFix 79 = .ok (.aload_n 0, 1) := by decide +kernel
theorem dX12_layFix_80 : decode cX12_layFix 80 = .ok (.getfield 25, 3) := by decide +kernel
theorem dX12_layFix_83 : decode cX12_layFix 83 = .ok (.iload 13, 2) := by decide +kernel
theorem dX12_layFix_85 : decode cX12_layFix 85 = .ok (.laload, 1) := by decide +kernel
theorem dX12_layFix_86 : decode cX12_layFix 86 = .ok (.aload_n 0, 1) := by decide +kernel
theorem dX12_layFix_87 : decode cX12_layFix 87 = .ok (.getfield 25, 3) := by decide +kernel
theorem dX12_layFix_90 : decode cX12_layFix 90 = .ok (.iload 13, 2) := by decide +kernel
theorem dX12_layFix_92 : decode cX12_layFix 92 = .ok (.laload, 1) := by decide +kernel
theorem dX12_layFix_93 : decode cX12_layFix 93 = .ok (.invokestatic 120, 3) := by decide +kernel
theorem dX12_layFix_96 : decode cX12_layFix 96 = .ok (.ladd, 1) := by decide +kernel
theorem dX12_layFix_97 : decode cX12_layFix 97 = .ok (.lstore 7, 2) := by decide +kernel
theorem dX12_layFix_99 : decode cX12_layFix 99 = .ok (.lload 9, 2) := by decide +kernel
theorem dX12_layFix_101 : decode cX12_layFix 101 = .ok (.aload_n 0, 1) := by decide +kernel
theorem dX12_layFix_102 : decode cX12_layFix 102 = .ok (.getfield 28, 3) := by decide +kernel
theorem dX12_layFix_105 : decode cX12_layFix 105 = .ok (.iload 13, 2) := by decide +kernel
theorem dX12_layFix_107 : decode cX12_layFix 107 = .ok (.laload, 1) := by decide +kernel
theorem dX12_layFix_108 : decode cX12_layFix 108 = .ok (.aload_n 0, 1) := by decide +kernel
theorem dX12_layFix_109 : decode cX12_layFix 109 = .ok (.getfield 22, 3) := by decide +kernel
theorem dX12_layFix_112 : decode cX12_layFix 112 = .ok (.iload 13, 2) := by decide +kernel
theorem dX12_layFix_114 : decode cX12_layFix 114 = .ok (.laload, 1) := by decide +kernel
theorem dX12_layFix_115 : decode cX12_layFix 115 = .ok (.invokestatic 120, 3) := by decide +kernel
theorem dX12_layFix_118 : decode cX12_layFix 118 = .ok (.ladd, 1) := by decide +kernel
theorem dX12_layFix_119 : decode cX12_layFix 119 = .ok (.lstore 9, 2) := by decide +kernel
theorem dX12_layFix_121 : decode cX12_layFix 121 = .ok (.lload 11, 2) := by decide +kernel
theorem dX12_layFix_123 : decode cX12_layFix 123 = .ok (.aload_n 0, 1) := by decide +kernel
theorem dX12_layFix_124 : decode cX12_layFix 124 = .ok (.getfield 28, 3) := by decide +kernel
theorem dX12_layFix_127 : decode cX12_layFix 127 = .ok (.iload 13, 2) := by decide +kernel
theorem dX12_layFix_129 : decode cX12_layFix 129 = .ok (.laload, 1) := by decide +kernel
theorem dX12_layFix_130 : decode cX12_layFix 130 = .ok (.aload_n 0, 1) := by decide +kernel
theorem dX12_layFix_131 : decode cX12_layFix 131 = .ok (.getfield 25, 3) := by decide +kernel
theorem dX12_layFix_134 : decode cX12_layFix 134 = .ok (.iload 13, 2) := by decide +kernel
theorem dX12_layFix_136 : decode cX12_layFix 136 = .ok (.laload, 1) := by decide +kernel
theorem dX12_layFix_137 : decode cX12_layFix 137 = .ok (.invokestatic 120, 3) := by decide +kernel
theorem dX12_layFix_140 : decode cX12_layFix 140 = .ok (.ladd, 1) := by decide +kernel
theorem dX12_layFix_141 : decode cX12_layFix 141 = .ok (.lstore 11, 2) := by decide +kernel
theorem dX12_layFix_143 : decode cX12_layFix 143 = .ok (.iinc 13 1, 3) := by decide +kernel
theorem dX12_layFix_146 : decode cX12_layFix 146 = .ok (.goto (-124), 3) := by decide +kernel
theorem dX12_layFix_149 : decode cX12_layFix 149 = .ok (.lload_n 3, 1) := by decide +kernel
theorem dX12_layFix_150 : decode cX12_layFix 150 = .ok (.lload 7, 2) := by decide +kernel
theorem dX12_layFix_152 : decode cX12_layFix 152 = .ok (.lmul, 1) := by decide +kernel
theorem dX12_layFix_153 : decode cX12_layFix 153 = .ok (.lload 5, 2) := by decide +kernel
theorem dX12_layFix_155 : decode cX12_layFix 155 = .ok (.lload 5, 2) := by decide +kernel
theorem dX12_layFix_157 : decode cX12_layFix 157 = .ok (.lmul, 1) := by decide +kernel
theorem dX12_layFix_158 : decode cX12_layFix 158 = .ok (.lsub, 1) := by decide +kernel
theorem dX12_layFix_159 : decode cX12_layFix 159 = .ok (.lstore 13, 2) := by decide +kernel
theorem dX12_layFix_161 : decode cX12_layFix 161 = .ok (.lload 13, 2) := by decide +kernel
theorem dX12_layFix_163 : decode cX12_layFix 163 = .ok (.ldc2_w 207, 3) := by decide +kernel
theorem dX12_layFix_166 : decode cX12_layFix 166 = .ok (.lcmp, 1) := by decide +kernel
theorem dX12_layFix_167 : decode cX12_layFix 167 = .ok (.ifCond .ge 5, 3) := by decide +kernel
theorem dX12_layFix_170 : decode cX12_layFix 170 = .ok (.iconst 0, 1) := by decide +kernel
theorem dX12_layFix_171 : decode cX12_layFix 171 = .ok (.ireturn, 1) := by decide +kernel
theorem dX12_layFix_172 : decode cX12_layFix 172 = .ok (.lload 13, 2) := by decide +kernel
theorem dX12_layFix_174 : decode cX12_layFix 174 = .ok (.ldc2_w 232, 3) := by decide +kernel
theorem dX12_layFix_177 : decode cX12_layFix 177 = .ok (.ldiv, 1) := by decide +kernel
theorem dX12_layFix_178 : decode cX12_layFix 178 = .ok (.lstore 15, 2) := by decide +kernel
theorem dX12_layFix_180 : decode cX12_layFix 180 = .ok (.aload_n 0, 1) := by decide +kernel
theorem dX12_layFix_181 : decode cX12_layFix 181 = .ok (.lload 9, 2) := by decide +kernel
theorem dX12_layFix_183 : decode cX12_layFix 183 = .ok (.lload 7, 2) := by decide +kernel
theorem dX12_layFix_185 : decode cX12_layFix 185 = .ok (.lmul, 1) := by decide +kernel
theorem dX12_layFix_186 : decode cX12_layFix 186 = .ok (.lload 11, 2) := by decide +kernel
theorem dX12_layFix_188 : decode cX12_layFix 188 = .ok (.lload 5, 2) := by decide +kernel
theorem dX12_layFix_190 : decode cX12_layFix 190 = .ok (.lmul, 1) := by decide +kernel
theorem dX12_layFix_191 : decode cX12_layFix 191 = .ok (.lsub, 1) := by decide +kernel
theorem dX12_layFix_192 : decode cX12_layFix 192 = .ok (.ldc2_w 232, 3) := by decide +kernel
theorem dX12_layFix_195 : decode cX12_layFix 195 = .ok (.lmul, 1) := by decide +kernel
theorem dX12_layFix_196 : decode cX12_layFix 196 = .ok (.lload 15, 2) := by decide +kernel
theorem dX12_layFix_198 : decode cX12_layFix 198 = .ok (.invokestatic 92, 3) := by decide +kernel
theorem dX12_layFix_201 : decode cX12_layFix 201 = .ok (.ldc2_w 113, 3) := by decide +kernel
theorem dX12_layFix_204 : decode cX12_layFix 204 = .ok (.invokestatic 176, 3) := by decide +kernel
theorem dX12_layFix_207 : decode cX12_layFix 207 = .ok (.putfield 234, 3) := by decide +kernel
theorem dX12_layFix_210 : decode cX12_layFix 210 = .ok (.aload_n 0, 1) := by decide +kernel
theorem dX12_layFix_211 : decode cX12_layFix 211 = .ok (.lload 11, 2) := by decide +kernel
theorem dX12_layFix_213 : decode cX12_layFix 213 = .ok (.lload_n 3, 1) := by decide +kernel
theorem dX12_layFix_214 : decode cX12_layFix 214 = .ok (.lmul, 1) := by decide +kernel
theorem dX12_layFix_215 : decode cX12_layFix 215 = .ok (.lload 9, 2) := by decide +kernel
theorem dX12_layFix_217 : decode cX12_layFix 217 = .ok (.lload 5, 2) := by decide +kernel
theorem dX12_layFix_219 : decode cX12_layFix 219 = .ok (.lmul, 1) := by decide +kernel
theorem dX12_layFix_220 : decode cX12_layFix 220 = .ok (.lsub, 1) := by decide +kernel
theorem dX12_layFix_221 : decode cX12_layFix 221 = .ok (.ldc2_w 232, 3) := by decide +kernel
theorem dX12_layFix_224 : decode cX12_layFix 224 = .ok (.lmul, 1) := by decide +kernel
theorem dX12_layFix_225 : decode cX12_layFix 225 = .ok (.lload 15, 2) := by decide +kernel
theorem dX12_layFix_227 : decode cX12_layFix 227 = .ok (.invokestatic 92, 3) := by decide +kernel
theorem dX12_layFix_230 : decode cX12_layFix 230 = .ok (.ldc2_w 113, 3) := by decide +kernel
theorem dX12_layFix_233 : decode cX12_layFix 233 = .ok (.invokestatic 176, 3) := by decide +kernel
theorem dX12_layFix_236 : decode cX12_layFix 236 = .ok (.putfield 238, 3) := by decide +kernel
theorem dX12_layFix_239 : decode cX12_layFix 239 = .ok (.iconst 1, 1) := by decide +kernel
theorem dX12_layFix_240 : decode cX12_layFix 240 = .ok (.ireturn, 1) := by decide +kernel
theorem dX12_residualOf_0 : decode cX12_residualOf 0 = .ok (.aload_n 0, 1) := by decide +kernel
theorem dX12_residualOf_1 : decode cX12_residualOf 1 = .ok (.getfield 234, 3) := by decide +kernel
theorem dX12_residualOf_4 : decode cX12_residualOf 4 = .ok (.aload_n 0, 1) := by decide +kernel
theorem dX12_residualOf_5 : decode cX12_residualOf 5 = .ok (.getfield 238, 3) := by decide +kernel
theorem dX12_residualOf_8 : decode cX12_residualOf 8 = .ok (.aload_n 0, 1) := by decide +kernel
theorem dX12_residualOf_9 : decode cX12_residualOf 9 = .ok (.getfield 22, 3) := by decide +kernel
theorem dX12_residualOf_12 : decode cX12_residualOf 12 = .ok (.iload_n 1, 1) := by decide +kernel
theorem dX12_residualOf_13 : decode cX12_residualOf 13 = .ok (.laload, 1) := by decide +kernel
theorem dX12_residualOf_14 : decode cX12_residualOf 14 = .ok (.aload_n 0, 1) := by decide +kernel
theorem dX12_residualOf_15 : decode cX12_residualOf 15 = .ok (.getfield 25, 3) := by decide +kernel
theorem dX12_residualOf_18 : decode cX12_residualOf 18 = .ok (.iload_n 1, 1) := by decide +kernel
theorem dX12_residualOf_19 : decode cX12_residualOf 19 = .ok (.laload, 1) := by decide +kernel
theorem dX12_residualOf_20 : decode cX12_residualOf 20 = .ok (.invokestatic 186, 3) := by decide +kernel
theorem dX12_residualOf_23 : decode cX12_residualOf 23 = .ok (.aload_n 0, 1) := by decide +kernel
theorem dX12_residualOf_24 : decode cX12_residualOf 24 = .ok (.getfield 28, 3) := by decide +kernel
theorem dX12_residualOf_27 : decode cX12_residualOf 27 = .ok (.iload_n 1, 1) := by decide +kernel
theorem dX12_residualOf_28 : decode cX12_residualOf 28 = .ok (.laload, 1) := by decide +kernel
theorem dX12_residualOf_29 : decode cX12_residualOf 29 = .ok (.lsub, 1) := by decide +kernel
theorem dX12_residualOf_30 : decode cX12_residualOf 30 = .ok (.lreturn, 1) := by decide +kernel
theorem dX12_distance_0 : decode cX12_distance 0 = .ok (.aload_n 0, 1) := by decide +kernel
theorem dX12_distance_1 : decode cX12_distance 1 = .ok (.getfield 234, 3) := by decide +kernel
theorem dX12_distance_4 : decode cX12_distance 4 = .ok (.aload_n 0, 1) := by decide +kernel
theorem dX12_distance_5 : decode cX12_distance 5 = .ok (.lload_n 1, 1) := by decide +kernel
theorem dX12_distance_6 : decode cX12_distance 6 = .ok (.iconst 0, 1) := by decide +kernel
theorem dX12_distance_7 : decode cX12_distance 7 = .ok (.invokevirtual 131, 3) := by decide +kernel
theorem dX12_distance_10 : decode cX12_distance 10 = .ok (.lsub, 1) := by decide +kernel
theorem dX12_distance_11 : decode cX12_distance 11 = .ok (.lstore_n 3, 1) := by decide +kernel
theorem dX12_distance_12 : decode cX12_distance 12 = .ok (.aload_n 0, 1) := by decide +kernel
theorem dX12_distance_13 : decode cX12_distance 13 = .ok (.getfield 238, 3) := by decide +kernel
theorem dX12_distance_16 : decode cX12_distance 16 = .ok (.aload_n 0, 1) := by decide +kernel
theorem dX12_distance_17 : decode cX12_distance 17 = .ok (.lload_n 1, 1) := by decide +kernel
theorem dX12_distance_18 : decode cX12_distance 18 = .ok (.iconst 1, 1) := by decide +kernel
theorem dX12_distance_19 : decode cX12_distance 19 = .ok (.invokevirtual 131, 3) := by decide +kernel
theorem dX12_distance_22 : decode cX12_distance 22 = .ok (.lsub, 1) := by decide +kernel
theorem dX12_distance_23 : decode cX12_distance 23 = .ok (.lstore 5, 2) := by decide +kernel
theorem dX12_distance_25 : decode cX12_distance 25 = .ok (.lload_n 3, 1) := by decide +kernel
theorem dX12_distance_26 : decode cX12_distance 26 = .ok (.lload_n 3, 1) := by decide +kernel
theorem dX12_distance_27 : decode cX12_distance 27 = .ok (.lmul, 1) := by decide +kernel
theorem dX12_distance_28 : decode cX12_distance 28 = .ok (.lload 5, 2) := by decide +kernel
theorem dX12_distance_30 : decode cX12_distance 30 = .ok (.lload 5, 2) := by decide +kernel
theorem dX12_distance_32 : decode cX12_distance 32 = .ok (.lmul, 1) := by decide +kernel
theorem dX12_distance_33 : decode cX12_distance 33 = .ok (.ladd, 1) := by decide +kernel
theorem dX12_distance_34 : decode cX12_distance 34 = .ok (.invokestatic 144, 3) := by decide +kernel
theorem dX12_distance_37 : decode cX12_distance 37 = .ok (.lreturn, 1) := by decide +kernel
theorem dX12_sine_0 : decode cX12_sine 0 = .ok (.aload_n 0, 1) := by decide +kernel
theorem dX12_sine_1 : decode cX12_sine 1 = .ok (.iconst 0, 1) := by decide +kernel
theorem dX12_sine_2 : decode cX12_sine 2 = .ok (.putfield 74, 3) := by decide +kernel
theorem dX12_sine_5 : decode cX12_sine 5 = .ok (.iload_n 1, 1) := by decide +kernel
theorem dX12_sine_6 : decode cX12_sine 6 = .ok (.i2l, 1) := by decide +kernel
theorem dX12_sine_7 : decode cX12_sine 7 = .ok (.invokestatic 101, 3) := by decide +kernel
theorem dX12_sine_10 : decode cX12_sine 10 = .ok (.l2i, 1) := by decide +kernel
theorem dX12_sine_11 : decode cX12_sine 11 = .ok (.ireturn, 1) := by decide +kernel
theorem dX12_arc_0 : decode cX12_arc 0 = .ok (.aload_n 0, 1) := by decide +kernel
theorem dX12_arc_1 : decode cX12_arc 1 = .ok (.iconst 0, 1) := by decide +kernel
theorem dX12_arc_2 : decode cX12_arc 2 = .ok (.putfield 74, 3) := by decide +kernel
theorem dX12_arc_5 : decode cX12_arc 5 = .ok (.iload_n 1, 1) := by decide +kernel
theorem dX12_arc_6 : decode cX12_arc 6 = .ok (.i2l, 1) := by decide +kernel
theorem dX12_arc_7 : decode cX12_arc 7 = .ok (.ldc2_w 241, 3) := by decide +kernel
theorem dX12_arc_10 : decode cX12_arc 10 = .ok (.ldc2_w 113, 3) := by decide +kernel
theorem dX12_arc_13 : decode cX12_arc 13 = .ok (.invokestatic 243, 3) := by decide +kernel
theorem dX12_arc_16 : decode cX12_arc 16 = .ok (.ifCond .eq 12, 3) := by decide +kernel
theorem dX12_arc_19 : decode cX12_arc 19 = .ok (.iload_n 1, 1) := by decide +kernel
theorem dX12_arc_20 : decode cX12_arc 20 = .ok (.i2l, 1) := by decide +kernel
theorem dX12_arc_21 : decode cX12_arc 21 = .ok (.invokestatic 110, 3) := by decide +kernel
theorem dX12_arc_24 : decode cX12_arc 24 = .ok (.l2i, 1) := by decide +kernel
theorem dX12_arc_25 : decode cX12_arc 25 = .ok (.goto 8, 3) := by decide +kernel
theorem dX12_arc_28 : decode cX12_arc 28 = .ok (.aload_n 0, 1) := by decide +kernel
theorem dX12_arc_29 : decode cX12_arc 29 = .ok (.iconst 1, 1) := by decide +kernel
theorem dX12_arc_30 : decode cX12_arc 30 = .ok (.invokevirtual 247, 3) := by decide +kernel
theorem dX12_arc_33 : decode cX12_arc 33 = .ok (.ireturn, 1) := by decide +kernel
theorem dX12_told_0 : decode cX12_told 0 = .ok (.aload_n 0, 1) := by decide +kernel
theorem dX12_told_1 : decode cX12_told 1 = .ok (.iconst 0, 1) := by decide +kernel
theorem dX12_told_2 : decode cX12_told 2 = .ok (.putfield 74, 3) := by decide +kernel
theorem dX12_told_5 : decode cX12_told 5 = .ok (.iload_n 1, 1) := by decide +kernel
theorem dX12_told_6 : decode cX12_told 6 = .ok (.i2l, 1) := by decide +kernel
theorem dX12_told_7 : decode cX12_told 7 = .ok (.lconst 0, 1) := by decide +kernel
theorem dX12_told_8 : decode cX12_told 8 = .ok (.ldc2_w 251, 3) := by decide +kernel
theorem dX12_told_11 : decode cX12_told 11 = .ok (.invokestatic 243, 3) := by decide +kernel
theorem dX12_told_14 : decode cX12_told 14 = .ok (.ifCond .eq 13, 3) := by decide +kernel
theorem dX12_told_17 : decode cX12_told 17 = .ok (.aload_n 0, 1) := by decide +kernel
theorem dX12_told_18 : decode cX12_told 18 = .ok (.getfield 9, 3) := by decide +kernel
theorem dX12_told_21 : decode cX12_told 21 = .ok (.iload_n 1, 1) := by decide +kernel
theorem dX12_told_22 : decode cX12_told 22 = .ok (.laload, 1) := by decide +kernel
theorem dX12_told_23 : decode cX12_told 23 = .ok (.l2i, 1) := by decide +kernel
theorem dX12_told_24 : decode cX12_told 24 = .ok (.goto 8, 3) := by decide +kernel
theorem dX12_told_27 : decode cX12_told 27 = .ok (.aload_n 0, 1) := by decide +kernel
theorem dX12_told_28 : decode cX12_told 28 = .ok (.iconst 1, 1) := by decide +kernel
theorem dX12_told_29 : decode cX12_told 29 = .ok (.invokevirtual 247, 3) := by decide +kernel
theorem dX12_told_32 : decode cX12_told 32 = .ok (.ireturn, 1) := by decide +kernel
theorem dX12_isBody_0 : decode cX12_isBody 0 = .ok (.iload_n 1, 1) := by decide +kernel
theorem dX12_isBody_1 : decode cX12_isBody 1 = .ok (.i2l, 1) := by decide +kernel
theorem dX12_isBody_2 : decode cX12_isBody 2 = .ok (.lconst 0, 1) := by decide +kernel
theorem dX12_isBody_3 : decode cX12_isBody 3 = .ok (.aload_n 0, 1) := by decide +kernel
theorem dX12_isBody_4 : decode cX12_isBody 4 = .ok (.getfield 9, 3) := by decide +kernel
theorem dX12_isBody_7 : decode cX12_isBody 7 = .ok (.iconst 0, 1) := by decide +kernel
theorem dX12_isBody_8 : decode cX12_isBody 8 = .ok (.laload, 1) := by decide +kernel
theorem dX12_isBody_9 : decode cX12_isBody 9 = .ok (.lconst 1, 1) := by decide +kernel
theorem dX12_isBody_10 : decode cX12_isBody 10 = .ok (.lsub, 1) := by decide +kernel
theorem dX12_isBody_11 : decode cX12_isBody 11 = .ok (.invokestatic 243, 3) := by decide +kernel
theorem dX12_isBody_14 : decode cX12_isBody 14 = .ok (.ireturn, 1) := by decide +kernel
theorem dX12_sightsOf_0 : decode cX12_sightsOf 0 = .ok (.iconst 0, 1) := by decide +kernel
theorem dX12_sightsOf_1 : decode cX12_sightsOf 1 = .ok (.istore_n 2, 1) := by decide +kernel
theorem dX12_sightsOf_2 : decode cX12_sightsOf 2 = .ok (.iconst 0, 1) := by decide +kernel
theorem dX12_sightsOf_3 : decode cX12_sightsOf 3 = .ok (.istore_n 3, 1) := by decide +kernel
theorem dX12_sightsOf_4 : decode cX12_sightsOf 4 = .ok (.iload_n 3, 1) := by decide +kernel
theorem dX12_sightsOf_5 : decode cX12_sightsOf 5 = .ok (.i2l, 1) := by decide +kernel
theorem dX12_sightsOf_6 : decode cX12_sightsOf 6 = .ok (.aload_n 0, 1) := by decide +kernel
theorem dX12_sightsOf_7 : decode cX12_sightsOf 7 = .ok (.getfield 9, 3) := by decide +kernel
theorem dX12_sightsOf_10 : decode cX12_sightsOf 10 = .ok (.iconst 2, 1) := by decide +kernel
theorem dX12_sightsOf_11 : decode cX12_sightsOf 11 = .ok (.laload, 1) := by decide +kernel
theorem dX12_sightsOf_12 : decode cX12_sightsOf 12 = .ok (.lcmp, 1) := by decide +kernel
theorem dX12_sightsOf_13 : decode cX12_sightsOf 13 = .ok (.ifCond .ge 29, 3) := by decide +kernel
theorem dX12_sightsOf_16 : decode cX12_sightsOf 16 = .ok (.iload_n 2, 1) := by decide +kernel
theorem dX12_sightsOf_17 : decode cX12_sightsOf 17 = .ok (.aload_n 0, 1) := by decide +kernel
theorem dX12_sightsOf_18 : decode cX12_sightsOf 18 = .ok (.iload_n 3, 1) := by decide +kernel
theorem dX12_sightsOf_19 : decode cX12_sightsOf 19 = .ok (.iconst 0, 1) := by decide +kernel
theorem dX12_sightsOf_20 : decode cX12_sightsOf 20 = .ok (.invokevirtual 147, 3) := by decide +kernel
theorem dX12_sightsOf_23 : decode cX12_sightsOf 23 = .ok (.iload_n 1, 1) := by decide +kernel
theorem dX12_sightsOf_24 : decode cX12_sightsOf 24 = .ok (.i2l, 1) := by decide +kernel
theorem dX12_sightsOf_25 : decode cX12_sightsOf 25 = .ok (.lcmp, 1) := by decide +kernel
theorem dX12_sightsOf_26 : decode cX12_sightsOf 26 = .ok (.ifCond .ne 7, 3) := by decide +kernel
theorem dX12_sightsOf_29 : decode cX12_sightsOf 29 = .ok (.iconst 1, 1) := by decide +kernel
theorem dX12_sightsOf_30 : decode cX12_sightsOf 30 = .ok (.goto 4, 3) := by decide +kernel
theorem dX12_sightsOf_33 : decode cX12_sightsOf 33 = .ok (.iconst 0, 1) := by decide +kernel
theorem dX12_sightsOf_34 : decode cX12_sightsOf 34 = .ok (.iadd, 1) := by decide +kernel
theorem dX12_sightsOf_35 : decode cX12_sightsOf 35 = .ok (.istore_n 2, 1) := by decide +kernel
theorem dX12_sightsOf_36 : decode cX12_sightsOf 36 = .ok (.iinc 3 1, 3) := by decide +kernel
theorem dX12_sightsOf_39 : decode cX12_sightsOf 39 = .ok (.goto (-35), 3) := by decide +kernel
theorem dX12_sightsOf_42 : decode cX12_sightsOf 42 = .ok (.iload_n 2, 1) := by decide +kernel
theorem dX12_sightsOf_43 : decode cX12_sightsOf 43 = .ok (.ireturn, 1) := by decide +kernel
theorem dX12_body_0 : decode cX12_body 0 = .ok (.aload_n 0, 1) := by decide +kernel
theorem dX12_body_1 : decode cX12_body 1 = .ok (.iconst 0, 1) := by decide +kernel
theorem dX12_body_2 : decode cX12_body 2 = .ok (.putfield 74, 3) := by decide +kernel
theorem dX12_body_5 : decode cX12_body 5 = .ok (.aload_n 0, 1) := by decide +kernel
theorem dX12_body_6 : decode cX12_body 6 = .ok (.iload_n 1, 1) := by decide +kernel
theorem dX12_body_7 : decode cX12_body 7 = .ok (.invokevirtual 253, 3) := by decide +kernel
theorem dX12_body_10 : decode cX12_body 10 = .ok (.ifCond .eq 15, 3) := by decide +kernel
theorem dX12_body_13 : decode cX12_body 13 = .ok (.iload_n 2, 1) := by decide +kernel
theorem dX12_body_14 : decode cX12_body 14 = .ok (.i2l, 1) := by decide +kernel
theorem dX12_body_15 : decode cX12_body 15 = .ok (.lconst 0, 1) := by decide +kernel
theorem dX12_body_16 : decode cX12_body 16 = .ok (.ldc2_w 142, 3) := by decide +kernel
theorem dX12_body_19 : decode cX12_body 19 = .ok (.invokestatic 243, 3) := by decide +kernel
theorem dX12_body_22 : decode cX12_body 22 = .ok (.ifCond .ne 9, 3) := by decide +kernel
theorem dX12_body_25 : decode cX12_body 25 = .ok (.aload_n 0, 1) := by decide +kernel
theorem dX12_body_26 : decode cX12_body 26 = .ok (.iconst 1, 1) := by decide +kernel
theorem dX12_body_27 : decode cX12_body 27 = .ok (.invokevirtual 247, 3) := by decide +kernel
theorem dX12_body_30 : decode cX12_body 30 = .ok (.ireturn, 1) := by decide +kernel
theorem dX12_body_31 : decode cX12_body 31 = .ok (.iload_n 2, 1) := by decide +kernel
theorem dX12_body_32 : decode cX12_body 32 = .ok (.iconst 3, 1) := by decide +kernel
theorem dX12_body_33 : decode cX12_body 33 = .ok (.if_icmp .ne 11, 3) := by decide +kernel
theorem dX12_body_36 : decode cX12_body 36 = .ok (.aload_n 0, 1) := by decide +kernel
theorem dX12_body_37 : decode cX12_body 37 = .ok (.iload_n 1, 1) := by decide +kernel
theorem dX12_body_38 : decode cX12_body 38 = .ok (.invokevirtual 257, 3) := by decide +kernel
theorem dX12_body_41 : decode cX12_body 41 = .ok (.goto 11, 3) := by decide +kernel
theorem dX12_body_44 : decode cX12_body 44 = .ok (.aload_n 0, 1) := by decide +kernel
theorem dX12_body_45 : decode cX12_body 45 = .ok (.iload_n 1, 1) := by decide +kernel
theorem dX12_body_46 : decode cX12_body 46 = .ok (.i2l, 1) := by decide +kernel
theorem dX12_body_47 : decode cX12_body 47 = .ok (.iload_n 2, 1) := by decide +kernel
theorem dX12_body_48 : decode cX12_body 48 = .ok (.invokevirtual 158, 3) := by decide +kernel
theorem dX12_body_51 : decode cX12_body 51 = .ok (.l2i, 1) := by decide +kernel
theorem dX12_body_52 : decode cX12_body 52 = .ok (.ireturn, 1) := by decide +kernel
theorem dX12_leg_0 : decode cX12_leg 0 = .ok (.aload_n 0, 1) := by decide +kernel
theorem dX12_leg_1 : decode cX12_leg 1 = .ok (.iconst 0, 1) := by decide +kernel
theorem dX12_leg_2 : decode cX12_leg 2 = .ok (.putfield 74, 3) := by decide +kernel
theorem dX12_leg_5 : decode cX12_leg 5 = .ok (.iload_n 1, 1) := by decide +kernel
theorem dX12_leg_6 : decode cX12_leg 6 = .ok (.i2l, 1) := by decide +kernel
theorem dX12_leg_7 : decode cX12_leg 7 = .ok (.lconst 0, 1) := by decide +kernel
theorem dX12_leg_8 : decode cX12_leg 8 = .ok (.aload_n 0, 1) := by decide +kernel
theorem dX12_leg_9 : decode cX12_leg 9 = .ok (.getfield 9, 3) := by decide +kernel
theorem dX12_leg_12 : decode cX12_leg 12 = .ok (.iconst 1, 1) := by decide +kernel
theorem dX12_leg_13 : decode cX12_leg 13 = .ok (.laload, 1) := by decide +kernel
theorem dX12_leg_14 : decode cX12_leg 14 = .ok (.lconst 1, 1) := by decide +kernel
theorem dX12_leg_15 : decode cX12_leg 15 = .ok (.lsub, 1) := by decide +kernel
theorem dX12_leg_16 : decode cX12_leg 16 = .ok (.invokestatic 243, 3) := by decide +kernel
theorem dX12_leg_19 : decode cX12_leg 19 = .ok (.ifCond .eq 25, 3) := by decide +kernel
theorem dX12_leg_22 : decode cX12_leg 22 = .ok (.iload_n 2, 1) := by decide +kernel
theorem dX12_leg_23 : decode cX12_leg 23 = .ok (.i2l, 1) := by decide +kernel
theorem dX12_leg_24 : decode cX12_leg 24 = .ok (.lconst 0, 1) := by decide +kernel
theorem dX12_leg_25 : decode cX12_leg 25 = .ok (.ldc2_w 88, 3) := by decide +kernel
theorem dX12_leg_28 : decode cX12_leg 28 = .ok (.invokestatic 243, 3) := by decide +kernel
theorem dX12_leg_31 : decode cX12_leg 31 = .ok (.ifCond .eq 13, 3) := by decide +kernel
theorem dX12_leg_34 : decode cX12_leg 34 = .ok (.aload_n 0, 1) := by decide +kernel
theorem dX12_leg_35 : decode cX12_leg 35 = .ok (.iload_n 1, 1) := by decide +kernel
theorem dX12_leg_36 : decode cX12_leg 36 = .ok (.iload_n 2, 1) := by decide +kernel
theorem dX12_leg_37 : decode cX12_leg 37 = .ok (.invokevirtual 127, 3) := by decide +kernel
theorem dX12_leg_40 : decode cX12_leg 40 = .ok (.l2i, 1) := by decide +kernel
theorem dX12_leg_41 : decode cX12_leg 41 = .ok (.goto 8, 3) := by decide +kernel
theorem dX12_leg_44 : decode cX12_leg 44 = .ok (.aload_n 0, 1) := by decide +kernel
theorem dX12_leg_45 : decode cX12_leg 45 = .ok (.iconst 1, 1) := by decide +kernel
theorem dX12_leg_46 : decode cX12_leg 46 = .ok (.invokevirtual 247, 3) := by decide +kernel
theorem dX12_leg_49 : decode cX12_leg 49 = .ok (.ireturn, 1) := by decide +kernel
theorem dX12_isTime_0 : decode cX12_isTime 0 = .ok (.iload_n 1, 1) := by decide +kernel
theorem dX12_isTime_1 : decode cX12_isTime 1 = .ok (.i2l, 1) := by decide +kernel
theorem dX12_isTime_2 : decode cX12_isTime 2 = .ok (.lconst 0, 1) := by decide +kernel
theorem dX12_isTime_3 : decode cX12_isTime 3 = .ok (.ldc2_w 260, 3) := by decide +kernel
theorem dX12_isTime_6 : decode cX12_isTime 6 = .ok (.invokestatic 243, 3) := by decide +kernel
theorem dX12_isTime_9 : decode cX12_isTime 9 = .ok (.ireturn, 1) := by decide +kernel
theorem dX12_displacement_0 : decode cX12_displacement 0 = .ok (.aload_n 0, 1) := by decide +kernel
theorem dX12_displacement_1 : decode cX12_displacement 1 = .ok (.iconst 0, 1) := by decide +kernel
theorem dX12_displacement_2 : decode cX12_displacement 2 = .ok (.putfield 74, 3) := by decide +kernel
theorem dX12_displacement_5 : decode cX12_displacement 5 = .ok (.aload_n 0, 1) := by decide +kernel
theorem dX12_displacement_6 : decode cX12_displacement 6 = .ok (.iload_n 1, 1) := by decide +kernel
theorem dX12_displacement_7 : decode cX12_displacement 7 = .ok (.invokevirtual 262, 3) := by decide +kernel
theorem dX12_displacement_10 : decode cX12_displacement 10 = .ok (.ifCond .eq 14, 3) := by decide +kernel
theorem dX12_displacement_13 : decode cX12_displacement 13 = .ok (.aload_n 0, 1) := by decide +kernel
theorem dX12_displacement_14 : decode cX12_displacement 14 = .ok (.iload_n 1, 1) := by decide +kernel
theorem dX12_displacement_15 : decode cX12_displacement 15 = .ok (.i2l, 1) := by decide +kernel
theorem dX12_displacement_16 : decode cX12_displacement 16 = .ok (.iload_n 2, 1) := by decide +kernel
theorem dX12_displacement_17 : decode cX12_displacement 17 = .ok (.invokevirtual 131, 3) := by decide +kernel
theorem dX12_displacement_20 : decode cX12_displacement 20 = .ok (.l2i, 1) := by decide +kernel
theorem dX12_displacement_21 : decode cX12_displacement 21 = .ok (.goto 8, 3) := by decide +kernel
theorem dX12_displacement_24 : decode cX12_displacement 24 = .ok (.aload_n 0, 1) := by decide +kernel
theorem dX12_displacement_25 : decode cX12_displacement 25 = .ok (.iconst 1, 1) := by decide +kernel
theorem dX12_displacement_26 : decode cX12_displacement 26 = .ok (.invokevirtual 247, 3) := by decide +kernel
theorem dX12_displacement_29 : decode cX12_displacement 29 = .ok (.ireturn, 1) := by decide +kernel
theorem dX12_reckoned_0 : decode cX12_reckoned 0 = .ok (.aload_n 0, 1) := by decide +kernel
theorem dX12_reckoned_1 : decode cX12_reckoned 1 = .ok (.iconst 0, 1) := by decide +kernel
theorem dX12_reckoned_2 : decode cX12_reckoned 2 = .ok (.putfield 74, 3) := by decide +kernel
theorem dX12_reckoned_5 : decode cX12_reckoned 5 = .ok (.aload_n 0, 1) := by decide +kernel
theorem dX12_reckoned_6 : decode cX12_reckoned 6 = .ok (.iload_n 1, 1) := by decide +kernel
theorem dX12_reckoned_7 : decode cX12_reckoned 7 = .ok (.invokevirtual 262, 3) := by decide +kernel
theorem dX12_reckoned_10 : decode cX12_reckoned 10 = .ok (.ifCond .ne 9, 3) := by decide +kernel
theorem dX12_reckoned_13 : decode cX12_reckoned 13 = .ok (.aload_n 0, 1) := by decide +kernel
theorem dX12_reckoned_14 : decode cX12_reckoned 14 = .ok (.iconst 1, 1) := by decide +kernel
theorem dX12_reckoned_15 : decode cX12_reckoned 15 = .ok (.invokevirtual 247, 3) := by decide +kernel
theorem dX12_reckoned_18 : decode cX12_reckoned 18 = .ok (.ireturn, 1) := by decide +kernel
theorem dX12_reckoned_19 : decode cX12_reckoned 19 = .ok (.iload_n 2, 1) := by decide +kernel
theorem dX12_reckoned_20 : decode cX12_reckoned 20 = .ok (.ifCond .eq 12, 3) := by decide +kernel
theorem dX12_reckoned_23 : decode cX12_reckoned 23 = .ok (.aload_n 0, 1) := by decide +kernel
theorem dX12_reckoned_24 : decode cX12_reckoned 24 = .ok (.iload_n 1, 1) := by decide +kernel
theorem dX12_reckoned_25 : decode cX12_reckoned 25 = .ok (.i2l, 1) := by decide +kernel
theorem dX12_reckoned_26 : decode cX12_reckoned 26 = .ok (.invokevirtual 164, 3) := by decide +kernel
theorem dX12_reckoned_29 : decode cX12_reckoned 29 = .ok (.goto 9, 3) := by decide +kernel
theorem dX12_reckoned_32 : decode cX12_reckoned 32 = .ok (.aload_n 0, 1) := by decide +kernel
theorem dX12_reckoned_33 : decode cX12_reckoned 33 = .ok (.iload_n 1, 1) := by decide +kernel
theorem dX12_reckoned_34 : decode cX12_reckoned 34 = .ok (.i2l, 1) := by decide +kernel
theorem dX12_reckoned_35 : decode cX12_reckoned 35 = .ok (.invokevirtual 167, 3) := by decide +kernel
theorem dX12_reckoned_38 : decode cX12_reckoned 38 = .ok (.l2i, 1) := by decide +kernel
theorem dX12_reckoned_39 : decode cX12_reckoned 39 = .ok (.ireturn, 1) := by decide +kernel
theorem dX12_isSight_0 : decode cX12_isSight 0 = .ok (.iload_n 1, 1) := by decide +kernel
theorem dX12_isSight_1 : decode cX12_isSight 1 = .ok (.i2l, 1) := by decide +kernel
theorem dX12_isSight_2 : decode cX12_isSight 2 = .ok (.lconst 0, 1) := by decide +kernel
theorem dX12_isSight_3 : decode cX12_isSight 3 = .ok (.aload_n 0, 1) := by decide +kernel
theorem dX12_isSight_4 : decode cX12_isSight 4 = .ok (.getfield 9, 3) := by decide +kernel
theorem dX12_isSight_7 : decode cX12_isSight 7 = .ok (.iconst 2, 1) := by decide +kernel
theorem dX12_isSight_8 : decode cX12_isSight 8 = .ok (.laload, 1) := by decide +kernel
theorem dX12_isSight_9 : decode cX12_isSight 9 = .ok (.lconst 1, 1) := by decide +kernel
theorem dX12_isSight_10 : decode cX12_isSight 10 = .ok (.lsub, 1) := by decide +kernel
theorem dX12_isSight_11 : decode cX12_isSight 11 = .ok (.invokestatic 243, 3) := by decide +kernel
theorem dX12_isSight_14 : decode cX12_isSight 14 = .ok (.ireturn, 1) := by decide +kernel
theorem dX12_sight_0 : decode cX12_sight 0 = .ok (.aload_n 0, 1) := by decide +kernel
theorem dX12_sight_1 : decode cX12_sight 1 = .ok (.iconst 0, 1) := by decide +kernel
theorem dX12_sight_2 : decode cX12_sight 2 = .ok (.putfield 74, 3) := by decide +kernel
theorem dX12_sight_5 : decode cX12_sight 5 = .ok (.aload_n 0, 1) := by decide +kernel
theorem dX12_sight_6 : decode cX12_sight 6 = .ok (.iload_n 1, 1) := by decide +kernel
theorem dX12_sight_7 : decode cX12_sight 7 = .ok (.invokevirtual 265, 3) := by decide +kernel
theorem dX12_sight_10 : decode cX12_sight 10 = .ok (.ifCond .eq 15, 3) := by decide +kernel
theorem dX12_sight_13 : decode cX12_sight 13 = .ok (.iload_n 2, 1) := by decide +kernel
theorem dX12_sight_14 : decode cX12_sight 14 = .ok (.i2l, 1) := by decide +kernel
theorem dX12_sight_15 : decode cX12_sight 15 = .ok (.lconst 0, 1) := by decide +kernel
theorem dX12_sight_16 : decode cX12_sight 16 = .ok (.ldc2_w 251, 3) := by decide +kernel
theorem dX12_sight_19 : decode cX12_sight 19 = .ok (.invokestatic 243, 3) := by decide +kernel
theorem dX12_sight_22 : decode cX12_sight 22 = .ok (.ifCond .ne 9, 3) := by decide +kernel
theorem dX12_sight_25 : decode cX12_sight 25 = .ok (.aload_n 0, 1) := by decide +kernel
theorem dX12_sight_26 : decode cX12_sight 26 = .ok (.iconst 1, 1) := by decide +kernel
theorem dX12_sight_27 : decode cX12_sight 27 = .ok (.invokevirtual 247, 3) := by decide +kernel
theorem dX12_sight_30 : decode cX12_sight 30 = .ok (.ireturn, 1) := by decide +kernel
theorem dX12_sight_31 : decode cX12_sight 31 = .ok (.iload_n 2, 1) := by decide +kernel
theorem dX12_sight_32 : decode cX12_sight 32 = .ok (.tableswitch 88 3 8 #[40, 47, 54, 61, 68, 75], 40) := by decide +kernel
theorem dX12_sight_72 : decode cX12_sight 72 = .ok (.aload_n 0, 1) := by decide +kernel
theorem dX12_sight_73 : decode cX12_sight 73 = .ok (.iload_n 1, 1) := by decide +kernel
theorem dX12_sight_74 : decode cX12_sight 74 = .ok (.invokevirtual 154, 3) := by decide +kernel
theorem dX12_sight_77 : decode cX12_sight 77 = .ok (.l2i, 1) := by decide +kernel
theorem dX12_sight_78 : decode cX12_sight 78 = .ok (.ireturn, 1) := by decide +kernel
theorem dX12_sight_79 : decode cX12_sight 79 = .ok (.aload_n 0, 1) := by decide +kernel
theorem dX12_sight_80 : decode cX12_sight 80 = .ok (.iload_n 1, 1) := by decide +kernel
theorem dX12_sight_81 : decode cX12_sight 81 = .ok (.invokevirtual 181, 3) := by decide +kernel
theorem dX12_sight_84 : decode cX12_sight 84 = .ok (.l2i, 1) := by decide +kernel
theorem dX12_sight_85 : decode cX12_sight 85 = .ok (.ireturn, 1) := by decide +kernel
theorem dX12_sight_86 : decode cX12_sight 86 = .ok (.aload_n 0, 1) := by decide +kernel
theorem dX12_sight_87 : decode cX12_sight 87 = .ok (.iload_n 1, 1) := by decide +kernel
theorem dX12_sight_88 : decode cX12_sight 88 = .ok (.invokevirtual 179, 3) := by decide +kernel
theorem dX12_sight_91 : decode cX12_sight 91 = .ok (.l2i, 1) := by decide +kernel
theorem dX12_sight_92 : decode cX12_sight 92 = .ok (.ireturn, 1) := by decide +kernel
theorem dX12_sight_93 : decode cX12_sight 93 = .ok (.aload_n 0, 1) := by decide +kernel
theorem dX12_sight_94 : decode cX12_sight 94 = .ok (.iload_n 1, 1) := by decide +kernel
theorem dX12_sight_95 : decode cX12_sight 95 = .ok (.invokevirtual 184, 3) := by decide +kernel
theorem dX12_sight_98 : decode cX12_sight 98 = .ok (.l2i, 1) := by decide +kernel
theorem dX12_sight_99 : decode cX12_sight 99 = .ok (.ireturn, 1) := by decide +kernel
theorem dX12_sight_100 : decode cX12_sight 100 = .ok (.aload_n 0, 1) := by decide +kernel
theorem dX12_sight_101 : decode cX12_sight 101 = .ok (.iload_n 1, 1) := by decide +kernel
theorem dX12_sight_102 : decode cX12_sight 102 = .ok (.invokevirtual 190, 3) := by decide +kernel
theorem dX12_sight_105 : decode cX12_sight 105 = .ok (.l2i, 1) := by decide +kernel
theorem dX12_sight_106 : decode cX12_sight 106 = .ok (.ireturn, 1) := by decide +kernel
theorem dX12_sight_107 : decode cX12_sight 107 = .ok (.aload_n 0, 1) := by decide +kernel
theorem dX12_sight_108 : decode cX12_sight 108 = .ok (.iload_n 1, 1) := by decide +kernel
theorem dX12_sight_109 : decode cX12_sight 109 = .ok (.invokevirtual 193, 3) := by decide +kernel
theorem dX12_sight_112 : decode cX12_sight 112 = .ok (.aload_n 0, 1) := by decide +kernel
theorem dX12_sight_113 : decode cX12_sight 113 = .ok (.getfield 28, 3) := by decide +kernel
theorem dX12_sight_116 : decode cX12_sight 116 = .ok (.iload_n 1, 1) := by decide +kernel
theorem dX12_sight_117 : decode cX12_sight 117 = .ok (.laload, 1) := by decide +kernel
theorem dX12_sight_118 : decode cX12_sight 118 = .ok (.l2i, 1) := by decide +kernel
theorem dX12_sight_119 : decode cX12_sight 119 = .ok (.ireturn, 1) := by decide +kernel
theorem dX12_sight_120 : decode cX12_sight 120 = .ok (.aload_n 0, 1) := by decide +kernel
theorem dX12_sight_121 : decode cX12_sight 121 = .ok (.iload_n 1, 1) := by decide +kernel
theorem dX12_sight_122 : decode cX12_sight 122 = .ok (.iload_n 2, 1) := by decide +kernel
theorem dX12_sight_123 : decode cX12_sight 123 = .ok (.invokevirtual 147, 3) := by decide +kernel
theorem dX12_sight_126 : decode cX12_sight 126 = .ok (.l2i, 1) := by decide +kernel
theorem dX12_sight_127 : decode cX12_sight 127 = .ok (.ireturn, 1) := by decide +kernel
theorem dX12_carried_0 : decode cX12_carried 0 = .ok (.aload_n 0, 1) := by decide +kernel
theorem dX12_carried_1 : decode cX12_carried 1 = .ok (.aload_n 0, 1) := by decide +kernel
theorem dX12_carried_2 : decode cX12_carried 2 = .ok (.iload_n 1, 1) := by decide +kernel
theorem dX12_carried_3 : decode cX12_carried 3 = .ok (.invokevirtual 265, 3) := by decide +kernel
theorem dX12_carried_6 : decode cX12_carried 6 = .ok (.ifCond .ne 7, 3) := by decide +kernel
theorem dX12_carried_9 : decode cX12_carried 9 = .ok (.iconst 1, 1) := by decide +kernel
theorem dX12_carried_10 : decode cX12_carried 10 = .ok (.goto 16, 3) := by decide +kernel
theorem dX12_carried_13 : decode cX12_carried 13 = .ok (.aload_n 0, 1) := by decide +kernel
theorem dX12_carried_14 : decode cX12_carried 14 = .ok (.iload_n 2, 1) := by decide +kernel
theorem dX12_carried_15 : decode cX12_carried 15 = .ok (.invokevirtual 262, 3) := by decide +kernel
theorem dX12_carried_18 : decode cX12_carried 18 = .ok (.ifCond .eq 7, 3) := by decide +kernel
theorem dX12_carried_21 : decode cX12_carried 21 = .ok (.iconst 0, 1) := by decide +kernel
theorem dX12_carried_22 : decode cX12_carried 22 = .ok (.goto 4, 3) := by decide +kernel
theorem dX12_carried_25 : decode cX12_carried 25 = .ok (.iconst 2, 1) := by decide +kernel
theorem dX12_carried_26 : decode cX12_carried 26 = .ok (.putfield 74, 3) := by decide +kernel
theorem dX12_carried_29 : decode cX12_carried 29 = .ok (.aload_n 0, 1) := by decide +kernel
theorem dX12_carried_30 : decode cX12_carried 30 = .ok (.getfield 74, 3) := by decide +kernel
theorem dX12_carried_33 : decode cX12_carried 33 = .ok (.ifCond .eq 5, 3) := by decide +kernel
theorem dX12_carried_36 : decode cX12_carried 36 = .ok (.iconst 0, 1) := by decide +kernel
theorem dX12_carried_37 : decode cX12_carried 37 = .ok (.ireturn, 1) := by decide +kernel
theorem dX12_carried_38 : decode cX12_carried 38 = .ok (.aload_n 0, 1) := by decide +kernel
theorem dX12_carried_39 : decode cX12_carried 39 = .ok (.iload_n 1, 1) := by decide +kernel
theorem dX12_carried_40 : decode cX12_carried 40 = .ok (.iload_n 2, 1) := by decide +kernel
theorem dX12_carried_41 : decode cX12_carried 41 = .ok (.i2l, 1) := by decide +kernel
theorem dX12_carried_42 : decode cX12_carried 42 = .ok (.invokevirtual 197, 3) := by decide +kernel
theorem dX12_carried_45 : decode cX12_carried 45 = .ok (.aload_n 0, 1) := by decide +kernel
theorem dX12_carried_46 : decode cX12_carried 46 = .ok (.getfield 28, 3) := by decide +kernel
theorem dX12_carried_49 : decode cX12_carried 49 = .ok (.iload_n 1, 1) := by decide +kernel
theorem dX12_carried_50 : decode cX12_carried 50 = .ok (.laload, 1) := by decide +kernel
theorem dX12_carried_51 : decode cX12_carried 51 = .ok (.l2i, 1) := by decide +kernel
theorem dX12_carried_52 : decode cX12_carried 52 = .ok (.ireturn, 1) := by decide +kernel
theorem dX12_crossing_0 : decode cX12_crossing 0 = .ok (.aload_n 0, 1) := by decide +kernel
theorem dX12_crossing_1 : decode cX12_crossing 1 = .ok (.aload_n 0, 1) := by decide +kernel
theorem dX12_crossing_2 : decode cX12_crossing 2 = .ok (.iload_n 1, 1) := by decide +kernel
theorem dX12_crossing_3 : decode cX12_crossing 3 = .ok (.invokevirtual 265, 3) := by decide +kernel
theorem dX12_crossing_6 : decode cX12_crossing 6 = .ok (.ifCond .eq 11, 3) := by decide +kernel
theorem dX12_crossing_9 : decode cX12_crossing 9 = .ok (.aload_n 0, 1) := by decide +kernel
theorem dX12_crossing_10 : decode cX12_crossing 10 = .ok (.iload_n 2, 1) := by decide +kernel
theorem dX12_crossing_11 : decode cX12_crossing 11 = .ok (.invokevirtual 265, 3) := by decide +kernel
theorem dX12_crossing_14 : decode cX12_crossing 14 = .ok (.ifCond .ne 7, 3) := by decide +kernel
theorem dX12_crossing_17 : decode cX12_crossing 17 = .ok (.iconst 1, 1) := by decide +kernel
theorem dX12_crossing_18 : decode cX12_crossing 18 = .ok (.goto 16, 3) := by decide +kernel
theorem dX12_crossing_21 : decode cX12_crossing 21 = .ok (.aload_n 0, 1) := by decide +kernel
theorem dX12_crossing_22 : decode cX12_crossing 22 = .ok (.iload_n 3, 1) := by decide +kernel
theorem dX12_crossing_23 : decode cX12_crossing 23 = .ok (.invokevirtual 262, 3) := by decide +kernel
theorem dX12_crossing_26 : decode cX12_crossing 26 = .ok (.ifCond .eq 7, 3) := by decide +kernel
theorem dX12_crossing_29 : decode cX12_crossing 29 = .ok (.iconst 0, 1) := by decide +kernel
theorem dX12_crossing_30 : decode cX12_crossing 30 = .ok (.goto 4, 3) := by decide +kernel
theorem dX12_crossing_33 : decode cX12_crossing 33 = .ok (.iconst 2, 1) := by decide +kernel
theorem dX12_crossing_34 : decode cX12_crossing 34 = .ok (.putfield 74, 3) := by decide +kernel
theorem dX12_crossing_37 : decode cX12_crossing 37 = .ok (.aload_n 0, 1) := by decide +kernel
theorem dX12_crossing_38 : decode cX12_crossing 38 = .ok (.getfield 74, 3) := by decide +kernel
theorem dX12_crossing_41 : decode cX12_crossing 41 = .ok (.ifCond .eq 5, 3) := by decide +kernel
theorem dX12_crossing_44 : decode cX12_crossing 44 = .ok (.iconst 0, 1) := by decide +kernel
theorem dX12_crossing_45 : decode cX12_crossing 45 = .ok (.ireturn, 1) := by decide +kernel
theorem dX12_crossing_46 : decode cX12_crossing 46 = .ok (.aload_n 0, 1) := by decide +kernel
theorem dX12_crossing_47 : decode cX12_crossing 47 = .ok (.iload_n 1, 1) := by decide +kernel
theorem dX12_crossing_48 : decode cX12_crossing 48 = .ok (.iload_n 3, 1) := by decide +kernel
theorem dX12_crossing_49 : decode cX12_crossing 49 = .ok (.i2l, 1) := by decide +kernel
theorem dX12_crossing_50 : decode cX12_crossing 50 = .ok (.invokevirtual 197, 3) := by decide +kernel
theorem dX12_crossing_53 : decode cX12_crossing 53 = .ok (.aload_n 0, 1) := by decide +kernel
theorem dX12_crossing_54 : decode cX12_crossing 54 = .ok (.iload_n 2, 1) := by decide +kernel
theorem dX12_crossing_55 : decode cX12_crossing 55 = .ok (.iload_n 3, 1) := by decide +kernel
theorem dX12_crossing_56 : decode cX12_crossing 56 = .ok (.i2l, 1) := by decide +kernel
theorem dX12_crossing_57 : decode cX12_crossing 57 = .ok (.invokevirtual 197, 3) := by decide +kernel
theorem dX12_crossing_60 : decode cX12_crossing 60 = .ok (.aload_n 0, 1) := by decide +kernel
theorem dX12_crossing_61 : decode cX12_crossing 61 = .ok (.iload_n 1, 1) := by decide +kernel
theorem dX12_crossing_62 : decode cX12_crossing 62 = .ok (.iload_n 2, 1) := by decide +kernel
theorem dX12_crossing_63 : decode cX12_crossing 63 = .ok (.invokevirtual 214, 3) := by decide +kernel
theorem dX12_crossing_66 : decode cX12_crossing 66 = .ok (.ifCond .eq 15, 3) := by decide +kernel
theorem dX12_crossing_69 : decode cX12_crossing 69 = .ok (.aload_n 0, 1) := by decide +kernel
theorem dX12_crossing_70 : decode cX12_crossing 70 = .ok (.iload_n 1, 1) := by decide +kernel
theorem dX12_crossing_71 : decode cX12_crossing 71 = .ok (.iload_n 2, 1) := by decide +kernel
theorem dX12_crossing_72 : decode cX12_crossing 72 = .ok (.iload 4, 2) := by decide +kernel
theorem dX12_crossing_74 : decode cX12_crossing 74 = .ok (.invokevirtual 218, 3) := by decide +kernel
theorem dX12_crossing_77 : decode cX12_crossing 77 = .ok (.l2i, 1) := by decide +kernel
theorem dX12_crossing_78 : decode cX12_crossing 78 = .ok (.goto 6, 3) := by decide +kernel
theorem dX12_crossing_81 : decode cX12_crossing 81 = .ok (.ldc_w 268, 3) := by decide +kernel
theorem dX12_crossing_84 : decode cX12_crossing 84 = .ok (.ireturn, 1) := by decide +kernel
theorem dX12_areSights_0 : decode cX12_areSights 0 = .ok (.aload_n 0, 1) := by decide +kernel
theorem dX12_areSights_1 : decode cX12_areSights 1 = .ok (.iload_n 1, 1) := by decide +kernel
theorem dX12_areSights_2 : decode cX12_areSights 2 = .ok (.invokevirtual 265, 3) := by decide +kernel
theorem dX12_areSights_5 : decode cX12_areSights 5 = .ok (.ifCond .eq 23, 3) := by decide +kernel
theorem dX12_areSights_8 : decode cX12_areSights 8 = .ok (.aload_n 0, 1) := by decide +kernel
theorem dX12_areSights_9 : decode cX12_areSights 9 = .ok (.iload_n 2, 1) := by decide +kernel
theorem dX12_areSights_10 : decode cX12_areSights 10 = .ok (.invokevirtual 265, 3) := by decide +kernel
theorem dX12_areSights_13 : decode cX12_areSights 13 = .ok (.ifCond .eq 15, 3) := by decide +kernel
theorem dX12_areSights_16 : decode cX12_areSights 16 = .ok (.aload_n 0, 1) := by decide +kernel
theorem dX12_areSights_17 : decode cX12_areSights 17 = .ok (.iload_n 3, 1) := by decide +kernel
theorem dX12_areSights_18 : decode cX12_areSights 18 = .ok (.invokevirtual 265, 3) := by decide +kernel
theorem dX12_areSights_21 : decode cX12_areSights 21 = .ok (.ifCond .eq 7, 3) := by decide +kernel
theorem dX12_areSights_24 : decode cX12_areSights 24 = .ok (.iconst 1, 1) := by decide +kernel
theorem dX12_areSights_25 : decode cX12_areSights 25 = .ok (.goto 4, 3) := by decide +kernel
theorem dX12_areSights_28 : decode cX12_areSights 28 = .ok (.iconst 0, 1) := by decide +kernel
theorem dX12_areSights_29 : decode cX12_areSights 29 = .ok (.ireturn, 1) := by decide +kernel
theorem dX12_carryHat_0 : decode cX12_carryHat 0 = .ok (.aload_n 0, 1) := by decide +kernel
theorem dX12_carryHat_1 : decode cX12_carryHat 1 = .ok (.iload_n 1, 1) := by decide +kernel
theorem dX12_carryHat_2 : decode cX12_carryHat 2 = .ok (.iload 4, 2) := by decide +kernel
theorem dX12_carryHat_4 : decode cX12_carryHat 4 = .ok (.i2l, 1) := by decide +kernel
theorem dX12_carryHat_5 : decode cX12_carryHat 5 = .ok (.invokevirtual 197, 3) := by decide +kernel
theorem dX12_carryHat_8 : decode cX12_carryHat 8 = .ok (.aload_n 0, 1) := by decide +kernel
theorem dX12_carryHat_9 : decode cX12_carryHat 9 = .ok (.iload_n 2, 1) := by decide +kernel
theorem dX12_carryHat_10 : decode cX12_carryHat 10 = .ok (.iload 4, 2) := by decide +kernel
theorem dX12_carryHat_12 : decode cX12_carryHat 12 = .ok (.i2l, 1) := by decide +kernel
theorem dX12_carryHat_13 : decode cX12_carryHat 13 = .ok (.invokevirtual 197, 3) := by decide +kernel
theorem dX12_carryHat_16 : decode cX12_carryHat 16 = .ok (.aload_n 0, 1) := by decide +kernel
theorem dX12_carryHat_17 : decode cX12_carryHat 17 = .ok (.iload_n 3, 1) := by decide +kernel
theorem dX12_carryHat_18 : decode cX12_carryHat 18 = .ok (.iload 4, 2) := by decide +kernel
theorem dX12_carryHat_20 : decode cX12_carryHat 20 = .ok (.i2l, 1) := by decide +kernel
theorem dX12_carryHat_21 : decode cX12_carryHat 21 = .ok (.invokevirtual 197, 3) := by decide +kernel
theorem dX12_carryHat_24 : decode cX12_carryHat 24 = .ok (.aload_n 0, 1) := by decide +kernel
theorem dX12_carryHat_25 : decode cX12_carryHat 25 = .ok (.iload_n 1, 1) := by decide +kernel
theorem dX12_carryHat_26 : decode cX12_carryHat 26 = .ok (.iload_n 2, 1) := by decide +kernel
theorem dX12_carryHat_27 : decode cX12_carryHat 27 = .ok (.iload_n 3, 1) := by decide +kernel
theorem dX12_carryHat_28 : decode cX12_carryHat 28 = .ok (.invokevirtual 269, 3) := by decide +kernel
theorem dX12_carryHat_31 : decode cX12_carryHat 31 = .ok (.ireturn, 1) := by decide +kernel
theorem dX12_hat_0 : decode cX12_hat 0 = .ok (.aload_n 0, 1) := by decide +kernel
theorem dX12_hat_1 : decode cX12_hat 1 = .ok (.aload_n 0, 1) := by decide +kernel
theorem dX12_hat_2 : decode cX12_hat 2 = .ok (.iload_n 1, 1) := by decide +kernel
theorem dX12_hat_3 : decode cX12_hat 3 = .ok (.iload_n 2, 1) := by decide +kernel
theorem dX12_hat_4 : decode cX12_hat 4 = .ok (.iload_n 3, 1) := by decide +kernel
theorem dX12_hat_5 : decode cX12_hat 5 = .ok (.invokevirtual 273, 3) := by decide +kernel
theorem dX12_hat_8 : decode cX12_hat 8 = .ok (.ifCond .ne 7, 3) := by decide +kernel
theorem dX12_hat_11 : decode cX12_hat 11 = .ok (.iconst 1, 1) := by decide +kernel
theorem dX12_hat_12 : decode cX12_hat 12 = .ok (.goto 30, 3) := by decide +kernel
theorem dX12_hat_15 : decode cX12_hat 15 = .ok (.aload_n 0, 1) := by decide +kernel
theorem dX12_hat_16 : decode cX12_hat 16 = .ok (.iload 4, 2) := by decide +kernel
theorem dX12_hat_18 : decode cX12_hat 18 = .ok (.invokevirtual 262, 3) := by decide +kernel
theorem dX12_hat_21 : decode cX12_hat 21 = .ok (.ifCond .eq 20, 3) := by decide +kernel
theorem dX12_hat_24 : decode cX12_hat 24 = .ok (.iload 5, 2) := by decide +kernel
theorem dX12_hat_26 : decode cX12_hat 26 = .ok (.i2l, 1) := by decide +kernel
theorem dX12_hat_27 : decode cX12_hat 27 = .ok (.lconst 0, 1) := by decide +kernel
theorem dX12_hat_28 : decode cX12_hat 28 = .ok (.ldc2_w 88, 3) := by decide +kernel
theorem dX12_hat_31 : decode cX12_hat 31 = .ok (.invokestatic 243, 3) := by decide +kernel
theorem dX12_hat_34 : decode cX12_hat 34 = .ok (.ifCond .eq 7, 3) := by decide +kernel
theorem dX12_hat_37 : decode cX12_hat 37 = .ok (.iconst 0, 1) := by decide +kernel
theorem dX12_hat_38 : decode cX12_hat 38 = .ok (.goto 4, 3) := by decide +kernel
theorem dX12_hat_41 : decode cX12_hat 41 = .ok (.iconst 2, 1) := by decide +kernel
theorem dX12_hat_42 : decode cX12_hat 42 = .ok (.putfield 74, 3) := by decide +kernel
theorem dX12_hat_45 : decode cX12_hat 45 = .ok (.aload_n 0, 1) := by decide +kernel
theorem dX12_hat_46 : decode cX12_hat 46 = .ok (.getfield 74, 3) := by decide +kernel
theorem dX12_hat_49 : decode cX12_hat 49 = .ok (.ifCond .eq 5, 3) := by decide +kernel
theorem dX12_hat_52 : decode cX12_hat 52 = .ok (.iconst 0, 1) := by decide +kernel
theorem dX12_hat_53 : decode cX12_hat 53 = .ok (.ireturn, 1) := by decide +kernel
theorem dX12_hat_54 : decode cX12_hat 54 = .ok (.aload_n 0, 1) := by decide +kernel
theorem dX12_hat_55 : decode cX12_hat 55 = .ok (.iload_n 1, 1) := by decide +kernel
theorem dX12_hat_56 : decode cX12_hat 56 = .ok (.iload_n 2, 1) := by decide +kernel
theorem dX12_hat_57 : decode cX12_hat 57 = .ok (.iload_n 3, 1) := by decide +kernel
theorem dX12_hat_58 : decode cX12_hat 58 = .ok (.iload 4, 2) := by decide +kernel
theorem dX12_hat_60 : decode cX12_hat 60 = .ok (.invokevirtual 276, 3) := by decide +kernel
theorem dX12_hat_63 : decode cX12_hat 63 = .ok (.ifCond .ne 7, 3) := by decide +kernel
theorem dX12_hat_66 : decode cX12_hat 66 = .ok (.ldc_w 268, 3) := by decide +kernel
theorem dX12_hat_69 : decode cX12_hat 69 = .ok (.ireturn, 1) := by decide +kernel
theorem dX12_hat_70 : decode cX12_hat 70 = .ok (.iload 5, 2) := by decide +kernel
theorem dX12_hat_72 : decode cX12_hat 72 = .ok (.iconst 1, 1) := by decide +kernel
theorem dX12_hat_73 : decode cX12_hat 73 = .ok (.if_icmp .ne 10, 3) := by decide +kernel
theorem dX12_hat_76 : decode cX12_hat 76 = .ok (.aload_n 0, 1) := by decide +kernel
theorem dX12_hat_77 : decode cX12_hat 77 = .ok (.getfield 31, 3) := by decide +kernel
theorem dX12_hat_80 : decode cX12_hat 80 = .ok (.goto 7, 3) := by decide +kernel
theorem dX12_hat_83 : decode cX12_hat 83 = .ok (.aload_n 0, 1) := by decide +kernel
theorem dX12_hat_84 : decode cX12_hat 84 = .ok (.getfield 34, 3) := by decide +kernel
theorem dX12_hat_87 : decode cX12_hat 87 = .ok (.astore 6, 2) := by decide +kernel
theorem dX12_hat_89 : decode cX12_hat 89 = .ok (.iload 5, 2) := by decide +kernel
theorem dX12_hat_91 : decode cX12_hat 91 = .ok (.ifCond .ne 16, 3) := by decide +kernel
theorem dX12_hat_94 : decode cX12_hat 94 = .ok (.ldc2_w 280, 3) := by decide +kernel
theorem dX12_hat_97 : decode cX12_hat 97 = .ok (.aload_n 0, 1) := by decide +kernel
theorem dX12_hat_98 : decode cX12_hat 98 = .ok (.invokevirtual 282, 3) := by decide +kernel
theorem dX12_hat_101 : decode cX12_hat 101 = .ok (.invokestatic 77, 3) := by decide +kernel
theorem dX12_hat_104 : decode cX12_hat 104 = .ok (.goto 23, 3) := by decide +kernel
theorem dX12_hat_107 : decode cX12_hat 107 = .ok (.aload 6, 2) := by decide +kernel
theorem dX12_hat_109 : decode cX12_hat 109 = .ok (.iconst 0, 1) := by decide +kernel
theorem dX12_hat_110 : decode cX12_hat 110 = .ok (.laload, 1) := by decide +kernel
theorem dX12_hat_111 : decode cX12_hat 111 = .ok (.aload 6, 2) := by decide +kernel
theorem dX12_hat_113 : decode cX12_hat 113 = .ok (.iconst 1, 1) := by decide +kernel
theorem dX12_hat_114 : decode cX12_hat 114 = .ok (.laload, 1) := by decide +kernel
theorem dX12_hat_115 : decode cX12_hat 115 = .ok (.ladd, 1) := by decide +kernel
theorem dX12_hat_116 : decode cX12_hat 116 = .ok (.aload 6, 2) := by decide +kernel
theorem dX12_hat_118 : decode cX12_hat 118 = .ok (.iconst 2, 1) := by decide +kernel
theorem dX12_hat_119 : decode cX12_hat 119 = .ok (.laload, 1) := by decide +kernel
theorem dX12_hat_120 : decode cX12_hat 120 = .ok (.ladd, 1) := by decide +kernel
theorem dX12_hat_121 : decode cX12_hat 121 = .ok (.ldc2_w 142, 3) := by decide +kernel
