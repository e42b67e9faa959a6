theorem dX11_hat_3 : decode cX11_hat 3 = .ok (.iload_n 3, 1) := by decide +kernel
theorem dX11_hat_4 : decode cX11_hat 4 = .ok (.invokevirtual 310, 3) := by decide +kernel
theorem dX11_hat_7 : decode cX11_hat 7 = .ok (.iload 4, 2) := by decide +kernel
theorem dX11_hat_9 : decode cX11_hat 9 = .ok (.invokestatic 226, 3) := by decide +kernel
theorem dX11_hat_12 : decode cX11_hat 12 = .ok (.iload 5, 2) := by decide +kernel
theorem dX11_hat_14 : decode cX11_hat 14 = .ok (.ifCond .lt 9, 3) := by decide +kernel
theorem dX11_hat_17 : decode cX11_hat 17 = .ok (.iload 5, 2) := by decide +kernel
theorem dX11_hat_19 : decode cX11_hat 19 = .ok (.iconst 2, 1) := by decide +kernel
theorem dX11_hat_20 : decode cX11_hat 20 = .ok (.if_icmp .le 14, 3) := by decide +kernel
theorem dX11_hat_23 : decode cX11_hat 23 = .ok (.new 80, 3) := by decide +kernel
theorem dX11_hat_26 : decode cX11_hat 26 = .ok (.dup, 1) := by decide +kernel
theorem dX11_hat_27 : decode cX11_hat 27 = .ok (.ldc_w 314, 3) := by decide +kernel
theorem dX11_hat_30 : decode cX11_hat 30 = .ok (.invokespecial 84, 3) := by decide +kernel
theorem dX11_hat_33 : decode cX11_hat 33 = .ok (.athrow, 1) := by decide +kernel
theorem dX11_hat_34 : decode cX11_hat 34 = .ok (.aload_n 0, 1) := by decide +kernel
theorem dX11_hat_35 : decode cX11_hat 35 = .ok (.iload_n 1, 1) := by decide +kernel
theorem dX11_hat_36 : decode cX11_hat 36 = .ok (.iload_n 2, 1) := by decide +kernel
theorem dX11_hat_37 : decode cX11_hat 37 = .ok (.iload_n 3, 1) := by decide +kernel
theorem dX11_hat_38 : decode cX11_hat 38 = .ok (.iload 4, 2) := by decide +kernel
theorem dX11_hat_40 : decode cX11_hat 40 = .ok (.invokevirtual 316, 3) := by decide +kernel
theorem dX11_hat_43 : decode cX11_hat 43 = .ok (.aload_n 0, 1) := by decide +kernel
theorem dX11_hat_44 : decode cX11_hat 44 = .ok (.getfield 43, 3) := by decide +kernel
theorem dX11_hat_47 : decode cX11_hat 47 = .ok (.getfield 320, 3) := by decide +kernel
theorem dX11_hat_50 : decode cX11_hat 50 = .ok (.getfield 324, 3) := by decide +kernel
theorem dX11_hat_53 : decode cX11_hat 53 = .ok (.ifCond .ne 6, 3) := by decide +kernel
theorem dX11_hat_56 : decode cX11_hat 56 = .ok (.ldc 143, 2) := by decide +kernel
theorem dX11_hat_58 : decode cX11_hat 58 = .ok (.ireturn, 1) := by decide +kernel
theorem dX11_hat_59 : decode cX11_hat 59 = .ok (.iload 5, 2) := by decide +kernel
theorem dX11_hat_61 : decode cX11_hat 61 = .ok (.ifCond .ne 14, 3) := by decide +kernel
theorem dX11_hat_64 : decode cX11_hat 64 = .ok (.aload_n 0, 1) := by decide +kernel
theorem dX11_hat_65 : decode cX11_hat 65 = .ok (.getfield 43, 3) := by decide +kernel
theorem dX11_hat_68 : decode cX11_hat 68 = .ok (.getfield 320, 3) := by decide +kernel
theorem dX11_hat_71 : decode cX11_hat 71 = .ok (.invokevirtual 327, 3) := by decide +kernel
theorem dX11_hat_74 : decode cX11_hat 74 = .ok (.ireturn, 1) := by decide +kernel
theorem dX11_hat_75 : decode cX11_hat 75 = .ok (.iload 5, 2) := by decide +kernel
theorem dX11_hat_77 : decode cX11_hat 77 = .ok (.iconst 1, 1) := by decide +kernel
theorem dX11_hat_78 : decode cX11_hat 78 = .ok (.if_icmp .ne 16, 3) := by decide +kernel
theorem dX11_hat_81 : decode cX11_hat 81 = .ok (.aload_n 0, 1) := by decide +kernel
theorem dX11_hat_82 : decode cX11_hat 82 = .ok (.getfield 43, 3) := by decide +kernel
theorem dX11_hat_85 : decode cX11_hat 85 = .ok (.getfield 320, 3) := by decide +kernel
theorem dX11_hat_88 : decode cX11_hat 88 = .ok (.invokevirtual 331, 3) := by decide +kernel
theorem dX11_hat_91 : decode cX11_hat 91 = .ok (.goto 13, 3) := by decide +kernel
theorem dX11_hat_94 : decode cX11_hat 94 = .ok (.aload_n 0, 1) := by decide +kernel
theorem dX11_hat_95 : decode cX11_hat 95 = .ok (.getfield 43, 3) := by decide +kernel
theorem dX11_hat_98 : decode cX11_hat 98 = .ok (.getfield 320, 3) := by decide +kernel
theorem dX11_hat_101 : decode cX11_hat 101 = .ok (.invokevirtual 334, 3) := by decide +kernel
theorem dX11_hat_104 : decode cX11_hat 104 = .ok (.ireturn, 1) := by decide +kernel
theorem dX11_smallestHat_0 : decode cX11_smallestHat 0 = .ok (.iload_n 1, 1) := by decide +kernel
theorem dX11_smallestHat_1 : decode cX11_smallestHat 1 = .ok (.invokestatic 226, 3) := by decide +kernel
theorem dX11_smallestHat_4 : decode cX11_smallestHat 4 = .ok (.aload_n 0, 1) := by decide +kernel
theorem dX11_smallestHat_5 : decode cX11_smallestHat 5 = .ok (.getfield 43, 3) := by decide +kernel
theorem dX11_smallestHat_8 : decode cX11_smallestHat 8 = .ok (.aload_n 0, 1) := by decide +kernel
theorem dX11_smallestHat_9 : decode cX11_smallestHat 9 = .ok (.getfield 25, 3) := by decide +kernel
theorem dX11_smallestHat_12 : decode cX11_smallestHat 12 = .ok (.aload_n 0, 1) := by decide +kernel
theorem dX11_smallestHat_13 : decode cX11_smallestHat 13 = .ok (.getfield 29, 3) := by decide +kernel
theorem dX11_smallestHat_16 : decode cX11_smallestHat 16 = .ok (.iload_n 1, 1) := by decide +kernel
theorem dX11_smallestHat_17 : decode cX11_smallestHat 17 = .ok (.invokevirtual 118, 3) := by decide +kernel
theorem dX11_smallestHat_20 : decode cX11_smallestHat 20 = .ok (.aload_n 0, 1) := by decide +kernel
theorem dX11_smallestHat_21 : decode cX11_smallestHat 21 = .ok (.getfield 43, 3) := by decide +kernel
theorem dX11_smallestHat_24 : decode cX11_smallestHat 24 = .ok (.aload_n 0, 1) := by decide +kernel
theorem dX11_smallestHat_25 : decode cX11_smallestHat 25 = .ok (.getfield 29, 3) := by decide +kernel
theorem dX11_smallestHat_28 : decode cX11_smallestHat 28 = .ok (.getfield 112, 3) := by decide +kernel
theorem dX11_smallestHat_31 : decode cX11_smallestHat 31 = .ok (.invokevirtual 337, 3) := by decide +kernel
theorem dX11_smallestHat_34 : decode cX11_smallestHat 34 = .ok (.ireturn, 1) := by decide +kernel
theorem dX11_isInside_0 : decode cX11_isInside 0 = .ok (.aload_n 0, 1) := by decide +kernel
theorem dX11_isInside_1 : decode cX11_isInside 1 = .ok (.iload_n 1, 1) := by decide +kernel
theorem dX11_isInside_2 : decode cX11_isInside 2 = .ok (.iload_n 2, 1) := by decide +kernel
theorem dX11_isInside_3 : decode cX11_isInside 3 = .ok (.iload_n 3, 1) := by decide +kernel
theorem dX11_isInside_4 : decode cX11_isInside 4 = .ok (.invokevirtual 310, 3) := by decide +kernel
theorem dX11_isInside_7 : decode cX11_isInside 7 = .ok (.iload 4, 2) := by decide +kernel
theorem dX11_isInside_9 : decode cX11_isInside 9 = .ok (.invokestatic 226, 3) := by decide +kernel
theorem dX11_isInside_12 : decode cX11_isInside 12 = .ok (.iload 5, 2) := by decide +kernel
theorem dX11_isInside_14 : decode cX11_isInside 14 = .ok (.ldc 155, 2) := by decide +kernel
theorem dX11_isInside_16 : decode cX11_isInside 16 = .ok (.if_icmp .lt 24, 3) := by decide +kernel
theorem dX11_isInside_19 : decode cX11_isInside 19 = .ok (.iload 5, 2) := by decide +kernel
theorem dX11_isInside_21 : decode cX11_isInside 21 = .ok (.ldc 156, 2) := by decide +kernel
theorem dX11_isInside_23 : decode cX11_isInside 23 = .ok (.if_icmp .gt 17, 3) := by decide +kernel
theorem dX11_isInside_26 : decode cX11_isInside 26 = .ok (.iload 6, 2) := by decide +kernel
theorem dX11_isInside_28 : decode cX11_isInside 28 = .ok (.ldc 155, 2) := by decide +kernel
theorem dX11_isInside_30 : decode cX11_isInside 30 = .ok (.if_icmp .lt 10, 3) := by decide +kernel
theorem dX11_isInside_33 : decode cX11_isInside 33 = .ok (.iload 6, 2) := by decide +kernel
theorem dX11_isInside_35 : decode cX11_isInside 35 = .ok (.ldc 156, 2) := by decide +kernel
theorem dX11_isInside_37 : decode cX11_isInside 37 = .ok (.if_icmp .le 14, 3) := by decide +kernel
theorem dX11_isInside_40 : decode cX11_isInside 40 = .ok (.new 80, 3) := by decide +kernel
theorem dX11_isInside_43 : decode cX11_isInside 43 = .ok (.dup, 1) := by decide +kernel
theorem dX11_isInside_44 : decode cX11_isInside 44 = .ok (.ldc_w 340, 3) := by decide +kernel
theorem dX11_isInside_47 : decode cX11_isInside 47 = .ok (.invokespecial 84, 3) := by decide +kernel
theorem dX11_isInside_50 : decode cX11_isInside 50 = .ok (.athrow, 1) := by decide +kernel
theorem dX11_isInside_51 : decode cX11_isInside 51 = .ok (.aload_n 0, 1) := by decide +kernel
theorem dX11_isInside_52 : decode cX11_isInside 52 = .ok (.iload_n 1, 1) := by decide +kernel
theorem dX11_isInside_53 : decode cX11_isInside 53 = .ok (.iload_n 2, 1) := by decide +kernel
theorem dX11_isInside_54 : decode cX11_isInside 54 = .ok (.iload_n 3, 1) := by decide +kernel
theorem dX11_isInside_55 : decode cX11_isInside 55 = .ok (.iload 4, 2) := by decide +kernel
theorem dX11_isInside_57 : decode cX11_isInside 57 = .ok (.invokevirtual 316, 3) := by decide +kernel
theorem dX11_isInside_60 : decode cX11_isInside 60 = .ok (.aload_n 0, 1) := by decide +kernel
theorem dX11_isInside_61 : decode cX11_isInside 61 = .ok (.getfield 43, 3) := by decide +kernel
theorem dX11_isInside_64 : decode cX11_isInside 64 = .ok (.getfield 320, 3) := by decide +kernel
theorem dX11_isInside_67 : decode cX11_isInside 67 = .ok (.getfield 324, 3) := by decide +kernel
theorem dX11_isInside_70 : decode cX11_isInside 70 = .ok (.ifCond .eq 24, 3) := by decide +kernel
theorem dX11_isInside_73 : decode cX11_isInside 73 = .ok (.aload_n 0, 1) := by decide +kernel
theorem dX11_isInside_74 : decode cX11_isInside 74 = .ok (.getfield 43, 3) := by decide +kernel
theorem dX11_isInside_77 : decode cX11_isInside 77 = .ok (.getfield 320, 3) := by decide +kernel
theorem dX11_isInside_80 : decode cX11_isInside 80 = .ok (.iload 5, 2) := by decide +kernel
theorem dX11_isInside_82 : decode cX11_isInside 82 = .ok (.iload 6, 2) := by decide +kernel
theorem dX11_isInside_84 : decode cX11_isInside 84 = .ok (.invokevirtual 342, 3) := by decide +kernel
theorem dX11_isInside_87 : decode cX11_isInside 87 = .ok (.ifCond .eq 7, 3) := by decide +kernel
theorem dX11_isInside_90 : decode cX11_isInside 90 = .ok (.iconst 1, 1) := by decide +kernel
theorem dX11_isInside_91 : decode cX11_isInside 91 = .ok (.goto 4, 3) := by decide +kernel
theorem dX11_isInside_94 : decode cX11_isInside 94 = .ok (.iconst 0, 1) := by decide +kernel
theorem dX11_isInside_95 : decode cX11_isInside 95 = .ok (.ireturn, 1) := by decide +kernel
theorem dX11_fix_0 : decode cX11_fix 0 = .ok (.iload_n 1, 1) := by decide +kernel
theorem dX11_fix_1 : decode cX11_fix 1 = .ok (.invokestatic 226, 3) := by decide +kernel
theorem dX11_fix_4 : decode cX11_fix 4 = .ok (.aload_n 0, 1) := by decide +kernel
theorem dX11_fix_5 : decode cX11_fix 5 = .ok (.getfield 43, 3) := by decide +kernel
theorem dX11_fix_8 : decode cX11_fix 8 = .ok (.aload_n 0, 1) := by decide +kernel
theorem dX11_fix_9 : decode cX11_fix 9 = .ok (.getfield 25, 3) := by decide +kernel
theorem dX11_fix_12 : decode cX11_fix 12 = .ok (.aload_n 0, 1) := by decide +kernel
theorem dX11_fix_13 : decode cX11_fix 13 = .ok (.getfield 29, 3) := by decide +kernel
theorem dX11_fix_16 : decode cX11_fix 16 = .ok (.iload_n 1, 1) := by decide +kernel
theorem dX11_fix_17 : decode cX11_fix 17 = .ok (.invokevirtual 346, 3) := by decide +kernel
theorem dX11_fix_20 : decode cX11_fix 20 = .ok (.ifCond .ne 6, 3) := by decide +kernel
theorem dX11_fix_23 : decode cX11_fix 23 = .ok (.ldc 143, 2) := by decide +kernel
theorem dX11_fix_25 : decode cX11_fix 25 = .ok (.ireturn, 1) := by decide +kernel
theorem dX11_fix_26 : decode cX11_fix 26 = .ok (.iload_n 2, 1) := by decide +kernel
theorem dX11_fix_27 : decode cX11_fix 27 = .ok (.ifCond .eq 16, 3) := by decide +kernel
theorem dX11_fix_30 : decode cX11_fix 30 = .ok (.aload_n 0, 1) := by decide +kernel
theorem dX11_fix_31 : decode cX11_fix 31 = .ok (.getfield 43, 3) := by decide +kernel
theorem dX11_fix_34 : decode cX11_fix 34 = .ok (.getfield 350, 3) := by decide +kernel
theorem dX11_fix_37 : decode cX11_fix 37 = .ok (.getfield 308, 3) := by decide +kernel
theorem dX11_fix_40 : decode cX11_fix 40 = .ok (.goto 13, 3) := by decide +kernel
theorem dX11_fix_43 : decode cX11_fix 43 = .ok (.aload_n 0, 1) := by decide +kernel
theorem dX11_fix_44 : decode cX11_fix 44 = .ok (.getfield 43, 3) := by decide +kernel
theorem dX11_fix_47 : decode cX11_fix 47 = .ok (.getfield 350, 3) := by decide +kernel
theorem dX11_fix_50 : decode cX11_fix 50 = .ok (.getfield 309, 3) := by decide +kernel
theorem dX11_fix_53 : decode cX11_fix 53 = .ok (.ireturn, 1) := by decide +kernel
theorem dX11_residual_0 : decode cX11_residual 0 = .ok (.aload_n 0, 1) := by decide +kernel
theorem dX11_residual_1 : decode cX11_residual 1 = .ok (.iload_n 1, 1) := by decide +kernel
theorem dX11_residual_2 : decode cX11_residual 2 = .ok (.invokevirtual 250, 3) := by decide +kernel
theorem dX11_residual_5 : decode cX11_residual 5 = .ok (.iload_n 2, 1) := by decide +kernel
theorem dX11_residual_6 : decode cX11_residual 6 = .ok (.invokestatic 226, 3) := by decide +kernel
theorem dX11_residual_9 : decode cX11_residual 9 = .ok (.aload_n 0, 1) := by decide +kernel
theorem dX11_residual_10 : decode cX11_residual 10 = .ok (.getfield 43, 3) := by decide +kernel
theorem dX11_residual_13 : decode cX11_residual 13 = .ok (.aload_n 0, 1) := by decide +kernel
theorem dX11_residual_14 : decode cX11_residual 14 = .ok (.getfield 25, 3) := by decide +kernel
theorem dX11_residual_17 : decode cX11_residual 17 = .ok (.aload_n 0, 1) := by decide +kernel
theorem dX11_residual_18 : decode cX11_residual 18 = .ok (.getfield 29, 3) := by decide +kernel
theorem dX11_residual_21 : decode cX11_residual 21 = .ok (.iload_n 2, 1) := by decide +kernel
theorem dX11_residual_22 : decode cX11_residual 22 = .ok (.invokevirtual 346, 3) := by decide +kernel
theorem dX11_residual_25 : decode cX11_residual 25 = .ok (.ifCond .ne 6, 3) := by decide +kernel
theorem dX11_residual_28 : decode cX11_residual 28 = .ok (.ldc 143, 2) := by decide +kernel
theorem dX11_residual_30 : decode cX11_residual 30 = .ok (.ireturn, 1) := by decide +kernel
theorem dX11_residual_31 : decode cX11_residual 31 = .ok (.aload_n 0, 1) := by decide +kernel
theorem dX11_residual_32 : decode cX11_residual 32 = .ok (.getfield 43, 3) := by decide +kernel
theorem dX11_residual_35 : decode cX11_residual 35 = .ok (.iload_n 1, 1) := by decide +kernel
theorem dX11_residual_36 : decode cX11_residual 36 = .ok (.invokevirtual 257, 3) := by decide +kernel
theorem dX11_residual_39 : decode cX11_residual 39 = .ok (.aload_n 0, 1) := by decide +kernel
theorem dX11_residual_40 : decode cX11_residual 40 = .ok (.getfield 43, 3) := by decide +kernel
theorem dX11_residual_43 : decode cX11_residual 43 = .ok (.getfield 350, 3) := by decide +kernel
theorem dX11_residual_46 : decode cX11_residual 46 = .ok (.invokevirtual 353, 3) := by decide +kernel
theorem dX11_residual_49 : decode cX11_residual 49 = .ok (.ireturn, 1) := by decide +kernel
theorem dX11_worst_0 : decode cX11_worst 0 = .ok (.iload_n 1, 1) := by decide +kernel
theorem dX11_worst_1 : decode cX11_worst 1 = .ok (.invokestatic 226, 3) := by decide +kernel
theorem dX11_worst_4 : decode cX11_worst 4 = .ok (.aload_n 0, 1) := by decide +kernel
theorem dX11_worst_5 : decode cX11_worst 5 = .ok (.getfield 43, 3) := by decide +kernel
theorem dX11_worst_8 : decode cX11_worst 8 = .ok (.aload_n 0, 1) := by decide +kernel
theorem dX11_worst_9 : decode cX11_worst 9 = .ok (.getfield 25, 3) := by decide +kernel
theorem dX11_worst_12 : decode cX11_worst 12 = .ok (.aload_n 0, 1) := by decide +kernel
theorem dX11_worst_13 : decode cX11_worst 13 = .ok (.getfield 29, 3) := by decide +kernel
theorem dX11_worst_16 : decode cX11_worst 16 = .ok (.iload_n 1, 1) := by decide +kernel
theorem dX11_worst_17 : decode cX11_worst 17 = .ok (.invokevirtual 346, 3) := by decide +kernel
theorem dX11_worst_20 : decode cX11_worst 20 = .ok (.ifCond .ne 5, 3) := by decide +kernel
theorem dX11_worst_23 : decode cX11_worst 23 = .ok (.iconst (-1), 1) := by decide +kernel
theorem dX11_worst_24 : decode cX11_worst 24 = .ok (.ireturn, 1) := by decide +kernel
theorem dX11_worst_25 : decode cX11_worst 25 = .ok (.iconst (-1), 1) := by decide +kernel
theorem dX11_worst_26 : decode cX11_worst 26 = .ok (.istore_n 2, 1) := by decide +kernel
theorem dX11_worst_27 : decode cX11_worst 27 = .ok (.iconst (-1), 1) := by decide +kernel
theorem dX11_worst_28 : decode cX11_worst 28 = .ok (.istore_n 3, 1) := by decide +kernel
theorem dX11_worst_29 : decode cX11_worst 29 = .ok (.iconst 0, 1) := by decide +kernel
theorem dX11_worst_30 : decode cX11_worst 30 = .ok (.istore 4, 2) := by decide +kernel
theorem dX11_worst_32 : decode cX11_worst 32 = .ok (.iload 4, 2) := by decide +kernel
theorem dX11_worst_34 : decode cX11_worst 34 = .ok (.aload_n 0, 1) := by decide +kernel
theorem dX11_worst_35 : decode cX11_worst 35 = .ok (.getfield 29, 3) := by decide +kernel
theorem dX11_worst_38 : decode cX11_worst 38 = .ok (.getfield 112, 3) := by decide +kernel
theorem dX11_worst_41 : decode cX11_worst 41 = .ok (.if_icmp .ge 45, 3) := by decide +kernel
theorem dX11_worst_44 : decode cX11_worst 44 = .ok (.aload_n 0, 1) := by decide +kernel
theorem dX11_worst_45 : decode cX11_worst 45 = .ok (.getfield 43, 3) := by decide +kernel
theorem dX11_worst_48 : decode cX11_worst 48 = .ok (.iload 4, 2) := by decide +kernel
theorem dX11_worst_50 : decode cX11_worst 50 = .ok (.invokevirtual 257, 3) := by decide +kernel
theorem dX11_worst_53 : decode cX11_worst 53 = .ok (.aload_n 0, 1) := by decide +kernel
theorem dX11_worst_54 : decode cX11_worst 54 = .ok (.getfield 43, 3) := by decide +kernel
theorem dX11_worst_57 : decode cX11_worst 57 = .ok (.getfield 350, 3) := by decide +kernel
theorem dX11_worst_60 : decode cX11_worst 60 = .ok (.invokevirtual 353, 3) := by decide +kernel
theorem dX11_worst_63 : decode cX11_worst 63 = .ok (.invokestatic 357, 3) := by decide +kernel
theorem dX11_worst_66 : decode cX11_worst 66 = .ok (.istore 5, 2) := by decide +kernel
theorem dX11_worst_68 : decode cX11_worst 68 = .ok (.iload 5, 2) := by decide +kernel
theorem dX11_worst_70 : decode cX11_worst 70 = .ok (.iload_n 3, 1) := by decide +kernel
theorem dX11_worst_71 : decode cX11_worst 71 = .ok (.if_icmp .le 9, 3) := by decide +kernel
theorem dX11_worst_74 : decode cX11_worst 74 = .ok (.iload 4, 2) := by decide +kernel
theorem dX11_worst_76 : decode cX11_worst 76 = .ok (.istore_n 2, 1) := by decide +kernel
theorem dX11_worst_77 : decode cX11_worst 77 = .ok (.iload 5, 2) := by decide +kernel
theorem dX11_worst_79 : decode cX11_worst 79 = .ok (.istore_n 3, 1) := by decide +kernel
theorem dX11_worst_80 : decode cX11_worst 80 = .ok (.iinc 4 1, 3) := by decide +kernel
theorem dX11_worst_83 : decode cX11_worst 83 = .ok (.goto (-51), 3) := by decide +kernel
theorem dX11_worst_86 : decode cX11_worst 86 = .ok (.iload_n 2, 1) := by decide +kernel
theorem dX11_worst_87 : decode cX11_worst 87 = .ok (.ireturn, 1) := by decide +kernel
theorem dX11_offCourse_0 : decode cX11_offCourse 0 = .ok (.iload_n 1, 1) := by decide +kernel
theorem dX11_offCourse_1 : decode cX11_offCourse 1 = .ok (.invokestatic 226, 3) := by decide +kernel
theorem dX11_offCourse_4 : decode cX11_offCourse 4 = .ok (.aload_n 0, 1) := by decide +kernel
theorem dX11_offCourse_5 : decode cX11_offCourse 5 = .ok (.getfield 43, 3) := by decide +kernel
theorem dX11_offCourse_8 : decode cX11_offCourse 8 = .ok (.aload_n 0, 1) := by decide +kernel
theorem dX11_offCourse_9 : decode cX11_offCourse 9 = .ok (.getfield 25, 3) := by decide +kernel
theorem dX11_offCourse_12 : decode cX11_offCourse 12 = .ok (.aload_n 0, 1) := by decide +kernel
theorem dX11_offCourse_13 : decode cX11_offCourse 13 = .ok (.getfield 29, 3) := by decide +kernel
theorem dX11_offCourse_16 : decode cX11_offCourse 16 = .ok (.iload_n 1, 1) := by decide +kernel
theorem dX11_offCourse_17 : decode cX11_offCourse 17 = .ok (.invokevirtual 346, 3) := by decide +kernel
theorem dX11_offCourse_20 : decode cX11_offCourse 20 = .ok (.ifCond .eq 13, 3) := by decide +kernel
theorem dX11_offCourse_23 : decode cX11_offCourse 23 = .ok (.aload_n 0, 1) := by decide +kernel
theorem dX11_offCourse_24 : decode cX11_offCourse 24 = .ok (.getfield 43, 3) := by decide +kernel
theorem dX11_offCourse_27 : decode cX11_offCourse 27 = .ok (.invokevirtual 362, 3) := by decide +kernel
theorem dX11_offCourse_30 : decode cX11_offCourse 30 = .ok (.goto 5, 3) := by decide +kernel
theorem dX11_offCourse_33 : decode cX11_offCourse 33 = .ok (.ldc 143, 2) := by decide +kernel
theorem dX11_offCourse_35 : decode cX11_offCourse 35 = .ok (.ireturn, 1) := by decide +kernel
theorem dX11_unknownCurrent_0 : decode cX11_unknownCurrent 0 = .ok (.iload_n 1, 1) := by decide +kernel
theorem dX11_unknownCurrent_1 : decode cX11_unknownCurrent 1 = .ok (.iconst 1, 1) := by decide +kernel
theorem dX11_unknownCurrent_2 : decode cX11_unknownCurrent 2 = .ok (.if_icmp .lt 10, 3) := by decide +kernel
theorem dX11_unknownCurrent_5 : decode cX11_unknownCurrent 5 = .ok (.iload_n 1, 1) := by decide +kernel
theorem dX11_unknownCurrent_6 : decode cX11_unknownCurrent 6 = .ok (.sipush 5000, 3) := by decide +kernel
theorem dX11_unknownCurrent_9 : decode cX11_unknownCurrent 9 = .ok (.if_icmp .le 14, 3) := by decide +kernel
theorem dX11_unknownCurrent_12 : decode cX11_unknownCurrent 12 = .ok (.new 80, 3) := by decide +kernel
theorem dX11_unknownCurrent_15 : decode cX11_unknownCurrent 15 = .ok (.dup, 1) := by decide +kernel
theorem dX11_unknownCurrent_16 : decode cX11_unknownCurrent 16 = .ok (.ldc_w 365, 3) := by decide +kernel
theorem dX11_unknownCurrent_19 : decode cX11_unknownCurrent 19 = .ok (.invokespecial 84, 3) := by decide +kernel
theorem dX11_unknownCurrent_22 : decode cX11_unknownCurrent 22 = .ok (.athrow, 1) := by decide +kernel
theorem dX11_unknownCurrent_23 : decode cX11_unknownCurrent 23 = .ok (.aload_n 0, 1) := by decide +kernel
theorem dX11_unknownCurrent_24 : decode cX11_unknownCurrent 24 = .ok (.getfield 43, 3) := by decide +kernel
theorem dX11_unknownCurrent_27 : decode cX11_unknownCurrent 27 = .ok (.aload_n 0, 1) := by decide +kernel
theorem dX11_unknownCurrent_28 : decode cX11_unknownCurrent 28 = .ok (.getfield 25, 3) := by decide +kernel
theorem dX11_unknownCurrent_31 : decode cX11_unknownCurrent 31 = .ok (.aload_n 0, 1) := by decide +kernel
theorem dX11_unknownCurrent_32 : decode cX11_unknownCurrent 32 = .ok (.getfield 29, 3) := by decide +kernel
theorem dX11_unknownCurrent_35 : decode cX11_unknownCurrent 35 = .ok (.iload_n 1, 1) := by decide +kernel
theorem dX11_unknownCurrent_36 : decode cX11_unknownCurrent 36 = .ok (.invokevirtual 346, 3) := by decide +kernel
theorem dX11_unknownCurrent_39 : decode cX11_unknownCurrent 39 = .ok (.ifCond .ne 6, 3) := by decide +kernel
theorem dX11_unknownCurrent_42 : decode cX11_unknownCurrent 42 = .ok (.ldc 143, 2) := by decide +kernel
theorem dX11_unknownCurrent_44 : decode cX11_unknownCurrent 44 = .ok (.ireturn, 1) := by decide +kernel
theorem dX11_unknownCurrent_45 : decode cX11_unknownCurrent 45 = .ok (.aload_n 0, 1) := by decide +kernel
theorem dX11_unknownCurrent_46 : decode cX11_unknownCurrent 46 = .ok (.getfield 43, 3) := by decide +kernel
theorem dX11_unknownCurrent_49 : decode cX11_unknownCurrent 49 = .ok (.invokevirtual 362, 3) := by decide +kernel
theorem dX11_unknownCurrent_52 : decode cX11_unknownCurrent 52 = .ok (.istore_n 3, 1) := by decide +kernel
theorem dX11_unknownCurrent_53 : decode cX11_unknownCurrent 53 = .ok (.iload_n 2, 1) := by decide +kernel
theorem dX11_unknownCurrent_54 : decode cX11_unknownCurrent 54 = .ok (.ifCond .eq 18, 3) := by decide +kernel
theorem dX11_unknownCurrent_57 : decode cX11_unknownCurrent 57 = .ok (.ldc2_w 367, 3) := by decide +kernel
theorem dX11_unknownCurrent_60 : decode cX11_unknownCurrent 60 = .ok (.iload_n 3, 1) := by decide +kernel
theorem dX11_unknownCurrent_61 : decode cX11_unknownCurrent 61 = .ok (.i2l, 1) := by decide +kernel
theorem dX11_unknownCurrent_62 : decode cX11_unknownCurrent 62 = .ok (.lmul, 1) := by decide +kernel
theorem dX11_unknownCurrent_63 : decode cX11_unknownCurrent 63 = .ok (.iload_n 1, 1) := by decide +kernel
theorem dX11_unknownCurrent_64 : decode cX11_unknownCurrent 64 = .ok (.i2l, 1) := by decide +kernel
theorem dX11_unknownCurrent_65 : decode cX11_unknownCurrent 65 = .ok (.invokestatic 369, 3) := by decide +kernel
theorem dX11_unknownCurrent_68 : decode cX11_unknownCurrent 68 = .ok (.l2i, 1) := by decide +kernel
theorem dX11_unknownCurrent_69 : decode cX11_unknownCurrent 69 = .ok (.goto 11, 3) := by decide +kernel
theorem dX11_unknownCurrent_72 : decode cX11_unknownCurrent 72 = .ok (.aload_n 0, 1) := by decide +kernel
theorem dX11_unknownCurrent_73 : decode cX11_unknownCurrent 73 = .ok (.getfield 43, 3) := by decide +kernel
theorem dX11_unknownCurrent_76 : decode cX11_unknownCurrent 76 = .ok (.iload_n 3, 1) := by decide +kernel
theorem dX11_unknownCurrent_77 : decode cX11_unknownCurrent 77 = .ok (.invokevirtual 373, 3) := by decide +kernel
theorem dX11_unknownCurrent_80 : decode cX11_unknownCurrent 80 = .ok (.ireturn, 1) := by decide +kernel
theorem dX11_meanResidual_0 : decode cX11_meanResidual 0 = .ok (.iload_n 1, 1) := by decide +kernel
theorem dX11_meanResidual_1 : decode cX11_meanResidual 1 = .ok (.invokestatic 226, 3) := by decide +kernel
theorem dX11_meanResidual_4 : decode cX11_meanResidual 4 = .ok (.aload_n 0, 1) := by decide +kernel
theorem dX11_meanResidual_5 : decode cX11_meanResidual 5 = .ok (.getfield 29, 3) := by decide +kernel
theorem dX11_meanResidual_8 : decode cX11_meanResidual 8 = .ok (.getfield 112, 3) := by decide +kernel
theorem dX11_meanResidual_11 : decode cX11_meanResidual 11 = .ok (.ifCond .eq 22, 3) := by decide +kernel
theorem dX11_meanResidual_14 : decode cX11_meanResidual 14 = .ok (.aload_n 0, 1) := by decide +kernel
theorem dX11_meanResidual_15 : decode cX11_meanResidual 15 = .ok (.getfield 43, 3) := by decide +kernel
theorem dX11_meanResidual_18 : decode cX11_meanResidual 18 = .ok (.aload_n 0, 1) := by decide +kernel
theorem dX11_meanResidual_19 : decode cX11_meanResidual 19 = .ok (.getfield 25, 3) := by decide +kernel
theorem dX11_meanResidual_22 : decode cX11_meanResidual 22 = .ok (.aload_n 0, 1) := by decide +kernel
theorem dX11_meanResidual_23 : decode cX11_meanResidual 23 = .ok (.getfield 29, 3) := by decide +kernel
theorem dX11_meanResidual_26 : decode cX11_meanResidual 26 = .ok (.iload_n 1, 1) := by decide +kernel
theorem dX11_meanResidual_27 : decode cX11_meanResidual 27 = .ok (.invokevirtual 346, 3) := by decide +kernel
theorem dX11_meanResidual_30 : decode cX11_meanResidual 30 = .ok (.ifCond .ne 5, 3) := by decide +kernel
theorem dX11_meanResidual_33 : decode cX11_meanResidual 33 = .ok (.dconst 0, 1) := by decide +kernel
theorem dX11_meanResidual_34 : decode cX11_meanResidual 34 = .ok (.dreturn, 1) := by decide +kernel
theorem dX11_meanResidual_35 : decode cX11_meanResidual 35 = .ok (.lconst 0, 1) := by decide +kernel
theorem dX11_meanResidual_36 : decode cX11_meanResidual 36 = .ok (.lstore_n 2, 1) := by decide +kernel
theorem dX11_meanResidual_37 : decode cX11_meanResidual 37 = .ok (.iconst 0, 1) := by decide +kernel
theorem dX11_meanResidual_38 : decode cX11_meanResidual 38 = .ok (.istore 4, 2) := by decide +kernel
theorem dX11_meanResidual_40 : decode cX11_meanResidual 40 = .ok (.iload 4, 2) := by decide +kernel
theorem dX11_meanResidual_42 : decode cX11_meanResidual 42 = .ok (.aload_n 0, 1) := by decide +kernel
theorem dX11_meanResidual_43 : decode cX11_meanResidual 43 = .ok (.getfield 29, 3) := by decide +kernel
theorem dX11_meanResidual_46 : decode cX11_meanResidual 46 = .ok (.getfield 112, 3) := by decide +kernel
theorem dX11_meanResidual_49 : decode cX11_meanResidual 49 = .ok (.if_icmp .ge 35, 3) := by decide +kernel
theorem dX11_meanResidual_52 : decode cX11_meanResidual 52 = .ok (.lload_n 2, 1) := by decide +kernel
theorem dX11_meanResidual_53 : decode cX11_meanResidual 53 = .ok (.aload_n 0, 1) := by decide +kernel
theorem dX11_meanResidual_54 : decode cX11_meanResidual 54 = .ok (.getfield 43, 3) := by decide +kernel
theorem dX11_meanResidual_57 : decode cX11_meanResidual 57 = .ok (.iload 4, 2) := by decide +kernel
theorem dX11_meanResidual_59 : decode cX11_meanResidual 59 = .ok (.invokevirtual 257, 3) := by decide +kernel
theorem dX11_meanResidual_62 : decode cX11_meanResidual 62 = .ok (.aload_n 0, 1) := by decide +kernel
theorem dX11_meanResidual_63 : decode cX11_meanResidual 63 = .ok (.getfield 43, 3) := by decide +kernel
theorem dX11_meanResidual_66 : decode cX11_meanResidual 66 = .ok (.getfield 350, 3) := by decide +kernel
theorem dX11_meanResidual_69 : decode cX11_meanResidual 69 = .ok (.invokevirtual 353, 3) := by decide +kernel
theorem dX11_meanResidual_72 : decode cX11_meanResidual 72 = .ok (.invokestatic 357, 3) := by decide +kernel
theorem dX11_meanResidual_75 : decode cX11_meanResidual 75 = .ok (.i2l, 1) := by decide +kernel
theorem dX11_meanResidual_76 : decode cX11_meanResidual 76 = .ok (.ladd, 1) := by decide +kernel
theorem dX11_meanResidual_77 : decode cX11_meanResidual 77 = .ok (.lstore_n 2, 1) := by decide +kernel
theorem dX11_meanResidual_78 : decode cX11_meanResidual 78 = .ok (.iinc 4 1, 3) := by decide +kernel
theorem dX11_meanResidual_81 : decode cX11_meanResidual 81 = .ok (.goto (-41), 3) := by decide +kernel
theorem dX11_meanResidual_84 : decode cX11_meanResidual 84 = .ok (.lload_n 2, 1) := by decide +kernel
theorem dX11_meanResidual_85 : decode cX11_meanResidual 85 = .ok (.l2d, 1) := by decide +kernel
theorem dX11_meanResidual_86 : decode cX11_meanResidual 86 = .ok (.aload_n 0, 1) := by decide +kernel
theorem dX11_meanResidual_87 : decode cX11_meanResidual 87 = .ok (.getfield 29, 3) := by decide +kernel
theorem dX11_meanResidual_90 : decode cX11_meanResidual 90 = .ok (.getfield 112, 3) := by decide +kernel
theorem dX11_meanResidual_93 : decode cX11_meanResidual 93 = .ok (.i2d, 1) := by decide +kernel
theorem dX11_meanResidual_94 : decode cX11_meanResidual 94 = .ok (.ddiv, 1) := by decide +kernel
theorem dX11_meanResidual_95 : decode cX11_meanResidual 95 = .ok (.dreturn, 1) := by decide +kernel
theorem dX11_observe_0 : decode cX11_observe 0 = .ok (.aload_n 0, 1) := by decide +kernel
theorem dX11_observe_1 : decode cX11_observe 1 = .ok (.iload_n 1, 1) := by decide +kernel
theorem dX11_observe_2 : decode cX11_observe 2 = .ok (.invokevirtual 191, 3) := by decide +kernel
theorem dX11_observe_5 : decode cX11_observe 5 = .ok (.iload_n 2, 1) := by decide +kernel
theorem dX11_observe_6 : decode cX11_observe 6 = .ok (.invokestatic 226, 3) := by decide +kernel
theorem dX11_observe_9 : decode cX11_observe 9 = .ok (.iload_n 3, 1) := by decide +kernel
theorem dX11_observe_10 : decode cX11_observe 10 = .ok (.sipush 300, 3) := by decide +kernel
theorem dX11_observe_13 : decode cX11_observe 13 = .ok (.if_icmp .lt 10, 3) := by decide +kernel
theorem dX11_observe_16 : decode cX11_observe 16 = .ok (.iload_n 3, 1) := by decide +kernel
theorem dX11_observe_17 : decode cX11_observe 17 = .ok (.sipush 5100, 3) := by decide +kernel
theorem dX11_observe_20 : decode cX11_observe 20 = .ok (.if_icmp .le 14, 3) := by decide +kernel
theorem dX11_observe_23 : decode cX11_observe 23 = .ok (.new 80, 3) := by decide +kernel
theorem dX11_observe_26 : decode cX11_observe 26 = .ok (.dup, 1) := by decide +kernel
theorem dX11_observe_27 : decode cX11_observe 27 = .ok (.ldc_w 376, 3) := by decide +kernel
theorem dX11_observe_30 : decode cX11_observe 30 = .ok (.invokespecial 84, 3) := by decide +kernel
theorem dX11_observe_33 : decode cX11_observe 33 = .ok (.athrow, 1) := by decide +kernel
theorem dX11_observe_34 : decode cX11_observe 34 = .ok (.aload_n 0, 1) := by decide +kernel
theorem dX11_observe_35 : decode cX11_observe 35 = .ok (.getfield 29, 3) := by decide +kernel
theorem dX11_observe_38 : decode cX11_observe 38 = .ok (.getfield 112, 3) := by decide +kernel
theorem dX11_observe_41 : decode cX11_observe 41 = .ok (.bipush 12, 2) := by decide +kernel
theorem dX11_observe_43 : decode cX11_observe 43 = .ok (.if_icmp .lt 6, 3) := by decide +kernel
theorem dX11_observe_46 : decode cX11_observe 46 = .ok (.bipush (-2), 2) := by decide +kernel
theorem dX11_observe_48 : decode cX11_observe 48 = .ok (.ireturn, 1) := by decide +kernel
theorem dX11_observe_49 : decode cX11_observe 49 = .ok (.aload_n 0, 1) := by decide +kernel
theorem dX11_observe_50 : decode cX11_observe 50 = .ok (.getfield 39, 3) := by decide +kernel
theorem dX11_observe_53 : decode cX11_observe 53 = .ok (.aload_n 0, 1) := by decide +kernel
theorem dX11_observe_54 : decode cX11_observe 54 = .ok (.getfield 29, 3) := by decide +kernel
theorem dX11_observe_57 : decode cX11_observe 57 = .ok (.invokevirtual 378, 3) := by decide +kernel
theorem dX11_observe_60 : decode cX11_observe 60 = .ok (.aload_n 0, 1) := by decide +kernel
theorem dX11_observe_61 : decode cX11_observe 61 = .ok (.getfield 29, 3) := by decide +kernel
theorem dX11_observe_64 : decode cX11_observe 64 = .ok (.iload_n 1, 1) := by decide +kernel
theorem dX11_observe_65 : decode cX11_observe 65 = .ok (.iload_n 2, 1) := by decide +kernel
theorem dX11_observe_66 : decode cX11_observe 66 = .ok (.iload_n 3, 1) := by decide +kernel
theorem dX11_observe_67 : decode cX11_observe 67 = .ok (.invokevirtual 381, 3) := by decide +kernel
theorem dX11_observe_70 : decode cX11_observe 70 = .ok (.aload_n 0, 1) := by decide +kernel
theorem dX11_observe_71 : decode cX11_observe 71 = .ok (.getfield 29, 3) := by decide +kernel
theorem dX11_observe_74 : decode cX11_observe 74 = .ok (.getfield 112, 3) := by decide +kernel
theorem dX11_observe_77 : decode cX11_observe 77 = .ok (.iconst 1, 1) := by decide +kernel
theorem dX11_observe_78 : decode cX11_observe 78 = .ok (.isub, 1) := by decide +kernel
theorem dX11_observe_79 : decode cX11_observe 79 = .ok (.ireturn, 1) := by decide +kernel
theorem dX11_drop_0 : decode cX11_drop 0 = .ok (.aload_n 0, 1) := by decide +kernel
theorem dX11_drop_1 : decode cX11_drop 1 = .ok (.iload_n 1, 1) := by decide +kernel
theorem dX11_drop_2 : decode cX11_drop 2 = .ok (.invokevirtual 250, 3) := by decide +kernel
theorem dX11_drop_5 : decode cX11_drop 5 = .ok (.aload_n 0, 1) := by decide +kernel
theorem dX11_drop_6 : decode cX11_drop 6 = .ok (.getfield 39, 3) := by decide +kernel
theorem dX11_drop_9 : decode cX11_drop 9 = .ok (.aload_n 0, 1) := by decide +kernel
theorem dX11_drop_10 : decode cX11_drop 10 = .ok (.getfield 29, 3) := by decide +kernel
theorem dX11_drop_13 : decode cX11_drop 13 = .ok (.invokevirtual 378, 3) := by decide +kernel
theorem dX11_drop_16 : decode cX11_drop 16 = .ok (.aload_n 0, 1) := by decide +kernel
theorem dX11_drop_17 : decode cX11_drop 17 = .ok (.getfield 29, 3) := by decide +kernel
theorem dX11_drop_20 : decode cX11_drop 20 = .ok (.iload_n 1, 1) := by decide +kernel
theorem dX11_drop_21 : decode cX11_drop 21 = .ok (.invokevirtual 384, 3) := by decide +kernel
theorem dX11_drop_24 : decode cX11_drop 24 = .ok (.aload_n 0, 1) := by decide +kernel
theorem dX11_drop_25 : decode cX11_drop 25 = .ok (.getfield 29, 3) := by decide +kernel
theorem dX11_drop_28 : decode cX11_drop 28 = .ok (.getfield 112, 3) := by decide +kernel
theorem dX11_drop_31 : decode cX11_drop 31 = .ok (.ireturn, 1) := by decide +kernel
theorem dX11_steer_0 : decode cX11_steer 0 = .ok (.iload_n 1, 1) := by decide +kernel
theorem dX11_steer_1 : decode cX11_steer 1 = .ok (.invokestatic 226, 3) := by decide +kernel
theorem dX11_steer_4 : decode cX11_steer 4 = .ok (.iload_n 2, 1) := by decide +kernel
theorem dX11_steer_5 : decode cX11_steer 5 = .ok (.invokestatic 387, 3) := by decide +kernel
theorem dX11_steer_8 : decode cX11_steer 8 = .ok (.iload_n 3, 1) := by decide +kernel
theorem dX11_steer_9 : decode cX11_steer 9 = .ok (.ifCond .lt 10, 3) := by decide +kernel
theorem dX11_steer_12 : decode cX11_steer 12 = .ok (.iload_n 3, 1) := by decide +kernel
theorem dX11_steer_13 : decode cX11_steer 13 = .ok (.sipush 400, 3) := by decide +kernel
theorem dX11_steer_16 : decode cX11_steer 16 = .ok (.if_icmp .le 14, 3) := by decide +kernel
theorem dX11_steer_19 : decode cX11_steer 19 = .ok (.new 80, 3) := by decide +kernel
theorem dX11_steer_22 : decode cX11_steer 22 = .ok (.dup, 1) := by decide +kernel
theorem dX11_steer_23 : decode cX11_steer 23 = .ok (.ldc_w 390, 3) := by decide +kernel
theorem dX11_steer_26 : decode cX11_steer 26 = .ok (.invokespecial 84, 3) := by decide +kernel
theorem dX11_steer_29 : decode cX11_steer 29 = .ok (.athrow, 1) := by decide +kernel
theorem dX11_steer_30 : decode cX11_steer 30 = .ok (.aload_n 0, 1) := by decide +kernel
theorem dX11_steer_31 : decode cX11_steer 31 = .ok (.getfield 29, 3) := by decide +kernel
theorem dX11_steer_34 : decode cX11_steer 34 = .ok (.getfield 165, 3) := by decide +kernel
theorem dX11_steer_37 : decode cX11_steer 37 = .ok (.bipush 8, 2) := by decide +kernel
theorem dX11_steer_39 : decode cX11_steer 39 = .ok (.if_icmp .lt 6, 3) := by decide +kernel
theorem dX11_steer_42 : decode cX11_steer 42 = .ok (.bipush (-2), 2) := by decide +kernel
theorem dX11_steer_44 : decode cX11_steer 44 = .ok (.ireturn, 1) := by decide +kernel
theorem dX11_steer_45 : decode cX11_steer 45 = .ok (.iload_n 1, 1) := by decide +kernel
theorem dX11_steer_46 : decode cX11_steer 46 = .ok (.aload_n 0, 1) := by decide +kernel
theorem dX11_steer_47 : decode cX11_steer 47 = .ok (.getfield 29, 3) := by decide +kernel
theorem dX11_steer_50 : decode cX11_steer 50 = .ok (.invokevirtual 392, 3) := by decide +kernel
theorem dX11_steer_53 : decode cX11_steer 53 = .ok (.if_icmp .gt 6, 3) := by decide +kernel
theorem dX11_steer_56 : decode cX11_steer 56 = .ok (.bipush (-3), 2) := by decide +kernel
theorem dX11_steer_58 : decode cX11_steer 58 = .ok (.ireturn, 1) := by decide +kernel
theorem dX11_steer_59 : decode cX11_steer 59 = .ok (.aload_n 0, 1) := by decide +kernel
theorem dX11_steer_60 : decode cX11_steer 60 = .ok (.getfield 39, 3) := by decide +kernel
theorem dX11_steer_63 : decode cX11_steer 63 = .ok (.aload_n 0, 1) := by decide +kernel
theorem dX11_steer_64 : decode cX11_steer 64 = .ok (.getfield 29, 3) := by decide +kernel
theorem dX11_steer_67 : decode cX11_steer 67 = .ok (.invokevirtual 378, 3) := by decide +kernel
theorem dX11_steer_70 : decode cX11_steer 70 = .ok (.aload_n 0, 1) := by decide +kernel
theorem dX11_steer_71 : decode cX11_steer 71 = .ok (.getfield 29, 3) := by decide +kernel
theorem dX11_steer_74 : decode cX11_steer 74 = .ok (.iload_n 1, 1) := by decide +kernel
theorem dX11_steer_75 : decode cX11_steer 75 = .ok (.iload_n 2, 1) := by decide +kernel
theorem dX11_steer_76 : decode cX11_steer 76 = .ok (.iload_n 3, 1) := by decide +kernel
theorem dX11_steer_77 : decode cX11_steer 77 = .ok (.invokevirtual 395, 3) := by decide +kernel
theorem dX11_steer_80 : decode cX11_steer 80 = .ok (.aload_n 0, 1) := by decide +kernel
theorem dX11_steer_81 : decode cX11_steer 81 = .ok (.getfield 29, 3) := by decide +kernel
theorem dX11_steer_84 : decode cX11_steer 84 = .ok (.getfield 165, 3) := by decide +kernel
theorem dX11_steer_87 : decode cX11_steer 87 = .ok (.iconst 1, 1) := by decide +kernel
theorem dX11_steer_88 : decode cX11_steer 88 = .ok (.isub, 1) := by decide +kernel
theorem dX11_steer_89 : decode cX11_steer 89 = .ok (.ireturn, 1) := by decide +kernel
theorem dX11_setCurrent_0 : decode cX11_setCurrent 0 = .ok (.iload_n 1, 1) := by decide +kernel
theorem dX11_setCurrent_1 : decode cX11_setCurrent 1 = .ok (.invokestatic 387, 3) := by decide +kernel
theorem dX11_setCurrent_4 : decode cX11_setCurrent 4 = .ok (.iload_n 2, 1) := by decide +kernel
theorem dX11_setCurrent_5 : decode cX11_setCurrent 5 = .ok (.ifCond .lt 9, 3) := by decide +kernel
theorem dX11_setCurrent_8 : decode cX11_setCurrent 8 = .ok (.iload_n 2, 1) := by decide +kernel
theorem dX11_setCurrent_9 : decode cX11_setCurrent 9 = .ok (.bipush 100, 2) := by decide +kernel
theorem dX11_setCurrent_11 : decode cX11_setCurrent 11 = .ok (.if_icmp .le 14, 3) := by decide +kernel
theorem dX11_setCurrent_14 : decode cX11_setCurrent 14 = .ok (.new 80, 3) := by decide +kernel
theorem dX11_setCurrent_17 : decode cX11_setCurrent 17 = .ok (.dup, 1) := by decide +kernel
theorem dX11_setCurrent_18 : decode cX11_setCurrent 18 = .ok (.ldc_w 398, 3) := by decide +kernel
theorem dX11_setCurrent_21 : decode cX11_setCurrent 21 = .ok (.invokespecial 84, 3) := by decide +kernel
theorem dX11_setCurrent_24 : decode cX11_setCurrent 24 = .ok (.athrow, 1) := by decide +kernel
theorem dX11_setCurrent_25 : decode cX11_setCurrent 25 = .ok (.aload_n 0, 1) := by decide +kernel
theorem dX11_setCurrent_26 : decode cX11_setCurrent 26 = .ok (.getfield 29, 3) := by decide +kernel
theorem dX11_setCurrent_29 : decode cX11_setCurrent 29 = .ok (.getfield 183, 3) := by decide +kernel
theorem dX11_setCurrent_32 : decode cX11_setCurrent 32 = .ok (.istore_n 3, 1) := by decide +kernel
theorem dX11_setCurrent_33 : decode cX11_setCurrent 33 = .ok (.aload_n 0, 1) := by decide +kernel
theorem dX11_setCurrent_34 : decode cX11_setCurrent 34 = .ok (.getfield 39, 3) := by decide +kernel
theorem dX11_setCurrent_37 : decode cX11_setCurrent 37 = .ok (.aload_n 0, 1) := by decide +kernel
theorem dX11_setCurrent_38 : decode cX11_setCurrent 38 = .ok (.getfield 29, 3) := by decide +kernel
theorem dX11_setCurrent_41 : decode cX11_setCurrent 41 = .ok (.invokevirtual 378, 3) := by decide +kernel
theorem dX11_setCurrent_44 : decode cX11_setCurrent 44 = .ok (.aload_n 0, 1) := by decide +kernel
theorem dX11_setCurrent_45 : decode cX11_setCurrent 45 = .ok (.getfield 29, 3) := by decide +kernel
theorem dX11_setCurrent_48 : decode cX11_setCurrent 48 = .ok (.iload_n 1, 1) := by decide +kernel
theorem dX11_setCurrent_49 : decode cX11_setCurrent 49 = .ok (.putfield 180, 3) := by decide +kernel
theorem dX11_setCurrent_52 : decode cX11_setCurrent 52 = .ok (.aload_n 0, 1) := by decide +kernel
theorem dX11_setCurrent_53 : decode cX11_setCurrent 53 = .ok (.getfield 29, 3) := by decide +kernel
theorem dX11_setCurrent_56 : decode cX11_setCurrent 56 = .ok (.iload_n 2, 1) := by decide +kernel
theorem dX11_setCurrent_57 : decode cX11_setCurrent 57 = .ok (.putfield 183, 3) := by decide +kernel
theorem dX11_setCurrent_60 : decode cX11_setCurrent 60 = .ok (.iload_n 3, 1) := by decide +kernel
theorem dX11_setCurrent_61 : decode cX11_setCurrent 61 = .ok (.ireturn, 1) := by decide +kernel
theorem dX11_correct_0 : decode cX11_correct 0 = .ok (.iload_n 1, 1) := by decide +kernel
theorem dX11_correct_1 : decode cX11_correct 1 = .ok (.ifCond .lt 21, 3) := by decide +kernel
theorem dX11_correct_4 : decode cX11_correct 4 = .ok (.iload_n 1, 1) := by decide +kernel
theorem dX11_correct_5 : decode cX11_correct 5 = .ok (.bipush 50, 2) := by decide +kernel
theorem dX11_correct_7 : decode cX11_correct 7 = .ok (.if_icmp .gt 15, 3) := by decide +kernel
theorem dX11_correct_10 : decode cX11_correct 10 = .ok (.iload_n 2, 1) := by decide +kernel
theorem dX11_correct_11 : decode cX11_correct 11 = .ok (.bipush (-60), 2) := by decide +kernel
theorem dX11_correct_13 : decode cX11_correct 13 = .ok (.if_icmp .lt 9, 3) := by decide +kernel
theorem dX11_correct_16 : decode cX11_correct 16 = .ok (.iload_n 2, 1) := by decide +kernel
theorem dX11_correct_17 : decode cX11_correct 17 = .ok (.bipush 60, 2) := by decide +kernel
theorem dX11_correct_19 : decode cX11_correct 19 = .ok (.if_icmp .le 14, 3) := by decide +kernel
theorem dX11_correct_22 : decode cX11_correct 22 = .ok (.new 80, 3) := by decide +kernel
theorem dX11_correct_25 : decode cX11_correct 25 = .ok (.dup, 1) := by decide +kernel
theorem dX11_correct_26 : decode cX11_correct 26 = .ok (.ldc_w 400, 3) := by decide +kernel
theorem dX11_correct_29 : decode cX11_correct 29 = .ok (.invokespecial 84, 3) := by decide +kernel
theorem dX11_correct_32 : decode cX11_correct 32 = .ok (.athrow, 1) := by decide +kernel
theorem dX11_correct_33 : decode cX11_correct 33 = .ok (.aload_n 0, 1) := by decide +kernel
theorem dX11_correct_34 : decode cX11_correct 34 = .ok (.getfield 39, 3) := by decide +kernel
theorem dX11_correct_37 : decode cX11_correct 37 = .ok (.aload_n 0, 1) := by decide +kernel
theorem dX11_correct_38 : decode cX11_correct 38 = .ok (.getfield 29, 3) := by decide +kernel
theorem dX11_correct_41 : decode cX11_correct 41 = .ok (.invokevirtual 378, 3) := by decide +kernel
theorem dX11_correct_44 : decode cX11_correct 44 = .ok (.aload_n 0, 1) := by decide +kernel
theorem dX11_correct_45 : decode cX11_correct 45 = .ok (.getfield 29, 3) := by decide +kernel
theorem dX11_correct_48 : decode cX11_correct 48 = .ok (.iload_n 1, 1) := by decide +kernel
theorem dX11_correct_49 : decode cX11_correct 49 = .ok (.putfield 174, 3) := by decide +kernel
theorem dX11_correct_52 : decode cX11_correct 52 = .ok (.aload_n 0, 1) := by decide +kernel
theorem dX11_correct_53 : decode cX11_correct 53 = .ok (.getfield 29, 3) := by decide +kernel
theorem dX11_correct_56 : decode cX11_correct 56 = .ok (.iload_n 2, 1) := by decide +kernel
theorem dX11_correct_57 : decode cX11_correct 57 = .ok (.putfield 177, 3) := by decide +kernel
theorem dX11_correct_60 : decode cX11_correct 60 = .ok (.aload_n 0, 1) := by decide +kernel
theorem dX11_correct_61 : decode cX11_correct 61 = .ok (.getfield 29, 3) := by decide +kernel
theorem dX11_correct_64 : decode cX11_correct 64 = .ok (.invokevirtual 402, 3) := by decide +kernel
theorem dX11_correct_67 : decode cX11_correct 67 = .ok (.ireturn, 1) := by decide +kernel
theorem dX11_undoCount_0 : decode cX11_undoCount 0 = .ok (.aload_n 0, 1) := by decide +kernel
theorem dX11_undoCount_1 : decode cX11_undoCount 1 = .ok (.getfield 39, 3) := by decide +kernel
theorem dX11_undoCount_4 : decode cX11_undoCount 4 = .ok (.getfield 430, 3) := by decide +kernel
theorem dX11_undoCount_7 : decode cX11_undoCount 7 = .ok (.ireturn, 1) := by decide +kernel
theorem dX11_undo_0 : decode cX11_undo 0 = .ok (.aload_n 0, 1) := by decide +kernel
theorem dX11_undo_1 : decode cX11_undo 1 = .ok (.getfield 39, 3) := by decide +kernel
theorem dX11_undo_4 : decode cX11_undo 4 = .ok (.getfield 430, 3) := by decide +kernel
theorem dX11_undo_7 : decode cX11_undo 7 = .ok (.ifCond .ne 5, 3) := by decide +kernel
theorem dX11_undo_10 : decode cX11_undo 10 = .ok (.iconst (-1), 1) := by decide +kernel
theorem dX11_undo_11 : decode cX11_undo 11 = .ok (.ireturn, 1) := by decide +kernel
theorem dX11_undo_12 : decode cX11_undo 12 = .ok (.aload_n 0, 1) := by decide +kernel
theorem dX11_undo_13 : decode cX11_undo 13 = .ok (.getfield 39, 3) := by decide +kernel
theorem dX11_undo_16 : decode cX11_undo 16 = .ok (.aload_n 0, 1) := by decide +kernel
theorem dX11_undo_17 : decode cX11_undo 17 = .ok (.getfield 29, 3) := by decide +kernel
theorem dX11_undo_20 : decode cX11_undo 20 = .ok (.invokevirtual 431, 3) := by decide +kernel
theorem dX11_undo_23 : decode cX11_undo 23 = .ok (.aload_n 0, 1) := by decide +kernel
theorem dX11_undo_24 : decode cX11_undo 24 = .ok (.getfield 39, 3) := by decide +kernel
theorem dX11_undo_27 : decode cX11_undo 27 = .ok (.getfield 430, 3) := by decide +kernel
theorem dX11_undo_30 : decode cX11_undo 30 = .ok (.ireturn, 1) := by decide +kernel
theorem dX11_saveSnapshot_0 : decode cX11_saveSnapshot 0 = .ok (.aload_n 0, 1) := by decide +kernel
theorem dX11_saveSnapshot_1 : decode cX11_saveSnapshot 1 = .ok (.getfield 33, 3) := by decide +kernel
theorem dX11_saveSnapshot_4 : decode cX11_saveSnapshot 4 = .ok (.aload_n 0, 1) := by decide +kernel
theorem dX11_saveSnapshot_5 : decode cX11_saveSnapshot 5 = .ok (.getfield 29, 3) := by decide +kernel
theorem dX11_saveSnapshot_8 : decode cX11_saveSnapshot 8 = .ok (.invokevirtual 102, 3) := by decide +kernel
theorem dX11_saveSnapshot_11 : decode cX11_saveSnapshot 11 = .ok (.aload_n 0, 1) := by decide +kernel
theorem dX11_saveSnapshot_12 : decode cX11_saveSnapshot 12 = .ok (.iconst 1, 1) := by decide +kernel
theorem dX11_saveSnapshot_13 : decode cX11_saveSnapshot 13 = .ok (.putfield 108, 3) := by decide +kernel
theorem dX11_saveSnapshot_16 : decode cX11_saveSnapshot 16 = .ok (.return_, 1) := by decide +kernel
theorem dX11_restoreSnapshot_0 : decode cX11_restoreSnapshot 0 = .ok (.aload_n 0, 1) := by decide +kernel
theorem dX11_restoreSnapshot_1 : decode cX11_restoreSnapshot 1 = .ok (.getfield 108, 3) := by decide +kernel
theorem dX11_restoreSnapshot_4 : decode cX11_restoreSnapshot 4 = .ok (.ifCond .ne 5, 3) := by decide +kernel
theorem dX11_restoreSnapshot_7 : decode cX11_restoreSnapshot 7 = .ok (.iconst 0, 1) := by decide +kernel
theorem dX11_restoreSnapshot_8 : decode cX11_restoreSnapshot 8 = .ok (.ireturn, 1) := by decide +kernel
theorem dX11_restoreSnapshot_9 : decode cX11_restoreSnapshot 9 = .ok (.aload_n 0, 1) := by decide +kernel
theorem dX11_restoreSnapshot_10 : decode cX11_restoreSnapshot 10 = .ok (.getfield 29, 3) := by decide +kernel
theorem dX11_restoreSnapshot_13 : decode cX11_restoreSnapshot 13 = .ok (.aload_n 0, 1) := by decide +kernel
theorem dX11_restoreSnapshot_14 : decode cX11_restoreSnapshot 14 = .ok (.getfield 33, 3) := by decide +kernel
theorem dX11_restoreSnapshot_17 : decode cX11_restoreSnapshot 17 = .ok (.invokevirtual 102, 3) := by decide +kernel
theorem dX11_restoreSnapshot_20 : decode cX11_restoreSnapshot 20 = .ok (.aload_n 0, 1) := by decide +kernel
theorem dX11_restoreSnapshot_21 : decode cX11_restoreSnapshot 21 = .ok (.getfield 39, 3) := by decide +kernel
theorem dX11_restoreSnapshot_24 : decode cX11_restoreSnapshot 24 = .ok (.invokevirtual 105, 3) := by decide +kernel
theorem dX11_restoreSnapshot_27 : decode cX11_restoreSnapshot 27 = .ok (.iconst 1, 1) := by decide +kernel
theorem dX11_restoreSnapshot_28 : decode cX11_restoreSnapshot 28 = .ok (.ireturn, 1) := by decide +kernel
theorem dX11_needTime_0 : decode cX11_needTime 0 = .ok (.iload_n 0, 1) := by decide +kernel
theorem dX11_needTime_1 : decode cX11_needTime 1 = .ok (.ifCond .lt 10, 3) := by decide +kernel
theorem dX11_needTime_4 : decode cX11_needTime 4 = .ok (.iload_n 0, 1) := by decide +kernel
theorem dX11_needTime_5 : decode cX11_needTime 5 = .ok (.sipush 5000, 3) := by decide +kernel
theorem dX11_needTime_8 : decode cX11_needTime 8 = .ok (.if_icmp .le 14, 3) := by decide +kernel
theorem dX11_needTime_11 : decode cX11_needTime 11 = .ok (.new 80, 3) := by decide +kernel
theorem dX11_needTime_14 : decode cX11_needTime 14 = .ok (.dup, 1) := by decide +kernel
theorem dX11_needTime_15 : decode cX11_needTime 15 = .ok (.ldc_w 365, 3) := by decide +kernel
theorem dX11_needTime_18 : decode cX11_needTime 18 = .ok (.invokespecial 84, 3) := by decide +kernel
theorem dX11_needTime_21 : decode cX11_needTime 21 = .ok (.athrow, 1) := by decide +kernel
theorem dX11_needTime_22 : decode cX11_needTime 22 = .ok (.return_, 1) := by decide +kernel
theorem dX11_needAngle_0 : decode cX11_needAngle 0 = .ok (.iload_n 0, 1) := by decide +kernel
theorem dX11_needAngle_1 : decode cX11_needAngle 1 = .ok (.ifCond .lt 10, 3) := by decide +kernel
theorem dX11_needAngle_4 : decode cX11_needAngle 4 = .ok (.iload_n 0, 1) := by decide +kernel
theorem dX11_needAngle_5 : decode cX11_needAngle 5 = .ok (.sipush 21600, 3) := by decide +kernel
theorem dX11_needAngle_8 : decode cX11_needAngle 8 = .ok (.if_icmp .lt 14, 3) := by decide +kernel
theorem dX11_needAngle_11 : decode cX11_needAngle 11 = .ok (.new 80, 3) := by decide +kernel
theorem dX11_needAngle_14 : decode cX11_needAngle 14 = .ok (.dup, 1) := by decide +kernel
theorem dX11_needAngle_15 : decode cX11_needAngle 15 = .ok (.ldc_w 434, 3) := by decide +kernel
theorem dX11_needAngle_18 : decode cX11_needAngle 18 = .ok (.invokespecial 84, 3) := by decide +kernel
theorem dX11_needAngle_21 : decode cX11_needAngle 21 = .ok (.athrow, 1) := by decide +kernel
theorem dX11_needAngle_22 : decode cX11_needAngle 22 = .ok (.return_, 1) := by decide +kernel
theorem dX11_needBody_0 : decode cX11_needBody 0 = .ok (.iload_n 1, 1) := by decide +kernel
theorem dX11_needBody_1 : decode cX11_needBody 1 = .ok (.ifCond .lt 14, 3) := by decide +kernel
theorem dX11_needBody_4 : decode cX11_needBody 4 = .ok (.iload_n 1, 1) := by decide +kernel
theorem dX11_needBody_5 : decode cX11_needBody 5 = .ok (.aload_n 0, 1) := by decide +kernel
theorem dX11_needBody_6 : decode cX11_needBody 6 = .ok (.getfield 25, 3) := by decide +kernel
theorem dX11_needBody_9 : decode cX11_needBody 9 = .ok (.getfield 162, 3) := by decide +kernel
theorem dX11_needBody_12 : decode cX11_needBody 12 = .ok (.if_icmp .lt 14, 3) := by decide +kernel
theorem dX11_needBody_15 : decode cX11_needBody 15 = .ok (.new 186, 3) := by decide +kernel
theorem dX11_needBody_18 : decode cX11_needBody 18 = .ok (.dup, 1) := by decide +kernel
theorem dX11_needBody_19 : decode cX11_needBody 19 = .ok (.ldc_w 436, 3) := by decide +kernel
theorem dX11_needBody_22 : decode cX11_needBody 22 = .ok (.invokespecial 190, 3) := by decide +kernel
theorem dX11_needBody_25 : decode cX11_needBody 25 = .ok (.athrow, 1) := by decide +kernel
theorem dX11_needBody_26 : decode cX11_needBody 26 = .ok (.return_, 1) := by decide +kernel
theorem dX11_needSight_0 : decode cX11_needSight 0 = .ok (.iload_n 1, 1) := by decide +kernel
theorem dX11_needSight_1 : decode cX11_needSight 1 = .ok (.ifCond .lt 14, 3) := by decide +kernel
theorem dX11_needSight_4 : decode cX11_needSight 4 = .ok (.iload_n 1, 1) := by decide +kernel
theorem dX11_needSight_5 : decode cX11_needSight 5 = .ok (.aload_n 0, 1) := by decide +kernel
theorem dX11_needSight_6 : decode cX11_needSight 6 = .ok (.getfield 29, 3) := by decide +kernel
theorem dX11_needSight_9 : decode cX11_needSight 9 = .ok (.getfield 112, 3) := by decide +kernel
theorem dX11_needSight_12 : decode cX11_needSight 12 = .ok (.if_icmp .lt 14, 3) := by decide +kernel
theorem dX11_needSight_15 : decode cX11_needSight 15 = .ok (.new 186, 3) := by decide +kernel
theorem dX11_needSight_18 : decode cX11_needSight 18 = .ok (.dup, 1) := by decide +kernel
theorem dX11_needSight_19 : decode cX11_needSight 19 = .ok (.ldc_w 438, 3) := by decide +kernel
theorem dX11_needSight_22 : decode cX11_needSight 22 = .ok (.invokespecial 190, 3) := by decide +kernel
theorem dX11_needSight_25 : decode cX11_needSight 25 = .ok (.athrow, 1) := by decide +kernel
theorem dX11_needSight_26 : decode cX11_needSight 26 = .ok (.return_, 1) := by decide +kernel
theorem dX11_needThreeSights_0 : decode cX11_needThreeSights 0 = .ok (.aload_n 0, 1) := by decide +kernel
theorem dX11_needThreeSights_1 : decode cX11_needThreeSights 1 = .ok (.iload_n 1, 1) := by decide +kernel
theorem dX11_needThreeSights_2 : decode cX11_needThreeSights 2 = .ok (.invokevirtual 250, 3) := by decide +kernel
theorem dX11_needThreeSights_5 : decode cX11_needThreeSights 5 = .ok (.aload_n 0, 1) := by decide +kernel
theorem dX11_needThreeSights_6 : decode cX11_needThreeSights 6 = .ok (.iload_n 2, 1) := by decide +kernel
theorem dX11_needThreeSights_7 : decode cX11_needThreeSights 7 = .ok (.invokevirtual 250, 3) := by decide +kernel
theorem dX11_needThreeSights_10 : decode cX11_needThreeSights 10 = .ok (.aload_n 0, 1) := by decide +kernel
theorem dX11_needThreeSights_11 : decode cX11_needThreeSights 11 = .ok (.iload_n 3, 1) := by decide +kernel
theorem dX11_needThreeSights_12 : decode cX11_needThreeSights 12 = .ok (.invokevirtual 250, 3) := by decide +kernel
theorem dX11_needThreeSights_15 : decode cX11_needThreeSights 15 = .ok (.return_, 1) := by decide +kernel
theorem dX11_drawHat_0 : decode cX11_drawHat 0 = .ok (.aload_n 0, 1) := by decide +kernel
theorem dX11_drawHat_1 : decode cX11_drawHat 1 = .ok (.getfield 43, 3) := by decide +kernel
theorem dX11_drawHat_4 : decode cX11_drawHat 4 = .ok (.aload_n 0, 1) := by decide +kernel
theorem dX11_drawHat_5 : decode cX11_drawHat 5 = .ok (.getfield 25, 3) := by decide +kernel
theorem dX11_drawHat_8 : decode cX11_drawHat 8 = .ok (.aload_n 0, 1) := by decide +kernel
theorem dX11_drawHat_9 : decode cX11_drawHat 9 = .ok (.getfield 29, 3) := by decide +kernel
theorem dX11_drawHat_12 : decode cX11_drawHat 12 = .ok (.iload_n 1, 1) := by decide +kernel
theorem dX11_drawHat_13 : decode cX11_drawHat 13 = .ok (.iload 4, 2) := by decide +kernel
theorem dX11_drawHat_15 : decode cX11_drawHat 15 = .ok (.invokevirtual 253, 3) := by decide +kernel
theorem dX11_drawHat_18 : decode cX11_drawHat 18 = .ok (.aload_n 0, 1) := by decide +kernel
theorem dX11_drawHat_19 : decode cX11_drawHat 19 = .ok (.getfield 43, 3) := by decide +kernel
theorem dX11_drawHat_22 : decode cX11_drawHat 22 = .ok (.aload_n 0, 1) := by decide +kernel
theorem dX11_drawHat_23 : decode cX11_drawHat 23 = .ok (.getfield 25, 3) := by decide +kernel
theorem dX11_drawHat_26 : decode cX11_drawHat 26 = .ok (.aload_n 0, 1) := by decide +kernel
theorem dX11_drawHat_27 : decode cX11_drawHat 27 = .ok (.getfield 29, 3) := by decide +kernel
theorem dX11_drawHat_30 : decode cX11_drawHat 30 = .ok (.iload_n 2, 1) := by decide +kernel
theorem dX11_drawHat_31 : decode cX11_drawHat 31 = .ok (.iload 4, 2) := by decide +kernel
theorem dX11_drawHat_33 : decode cX11_drawHat 33 = .ok (.invokevirtual 253, 3) := by decide +kernel
theorem dX11_drawHat_36 : decode cX11_drawHat 36 = .ok (.aload_n 0, 1) := by decide +kernel
theorem dX11_drawHat_37 : decode cX11_drawHat 37 = .ok (.getfield 43, 3) := by decide +kernel
theorem dX11_drawHat_40 : decode cX11_drawHat 40 = .ok (.aload_n 0, 1) := by decide +kernel
theorem dX11_drawHat_41 : decode cX11_drawHat 41 = .ok (.getfield 25, 3) := by decide +kernel
theorem dX11_drawHat_44 : decode cX11_drawHat 44 = .ok (.aload_n 0, 1) := by decide +kernel
theorem dX11_drawHat_45 : decode cX11_drawHat 45 = .ok (.getfield 29, 3) := by decide +kernel
theorem dX11_drawHat_48 : decode cX11_drawHat 48 = .ok (.iload_n 3, 1) := by decide +kernel
theorem dX11_drawHat_49 : decode cX11_drawHat 49 = .ok (.iload 4, 2) := by decide +kernel
theorem dX11_drawHat_51 : decode cX11_drawHat 51 = .ok (.invokevirtual 253, 3) := by decide +kernel
theorem dX11_drawHat_54 : decode cX11_drawHat 54 = .ok (.aload_n 0, 1) := by decide +kernel
theorem dX11_drawHat_55 : decode cX11_drawHat 55 = .ok (.getfield 43, 3) := by decide +kernel
theorem dX11_drawHat_58 : decode cX11_drawHat 58 = .ok (.getfield 320, 3) := by decide +kernel
theorem dX11_drawHat_61 : decode cX11_drawHat 61 = .ok (.aload_n 0, 1) := by decide +kernel
theorem dX11_drawHat_62 : decode cX11_drawHat 62 = .ok (.getfield 43, 3) := by decide +kernel
theorem dX11_drawHat_65 : decode cX11_drawHat 65 = .ok (.iload_n 1, 1) := by decide +kernel
theorem dX11_drawHat_66 : decode cX11_drawHat 66 = .ok (.invokevirtual 257, 3) := by decide +kernel
theorem dX11_drawHat_69 : decode cX11_drawHat 69 = .ok (.aload_n 0, 1) := by decide +kernel
theorem dX11_drawHat_70 : decode cX11_drawHat 70 = .ok (.getfield 43, 3) := by decide +kernel
theorem dX11_drawHat_73 : decode cX11_drawHat 73 = .ok (.iload_n 2, 1) := by decide +kernel
theorem dX11_drawHat_74 : decode cX11_drawHat 74 = .ok (.invokevirtual 257, 3) := by decide +kernel
theorem dX11_drawHat_77 : decode cX11_drawHat 77 = .ok (.aload_n 0, 1) := by decide +kernel
theorem dX11_drawHat_78 : decode cX11_drawHat 78 = .ok (.getfield 43, 3) := by decide +kernel
theorem dX11_drawHat_81 : decode cX11_drawHat 81 = .ok (.iload_n 3, 1) := by decide +kernel
theorem dX11_drawHat_82 : decode cX11_drawHat 82 = .ok (.invokevirtual 257, 3) := by decide +kernel
theorem dX11_drawHat_85 : decode cX11_drawHat 85 = .ok (.invokevirtual 440, 3) := by decide +kernel
theorem dX11_drawHat_88 : decode cX11_drawHat 88 = .ok (.return_, 1) := by decide +kernel
theorem dX11_down_0 : decode cX11_down 0 = .ok (.lload_n 2, 1) := by decide +kernel
theorem dX11_down_1 : decode cX11_down 1 = .ok (.lconst 0, 1) := by decide +kernel
theorem dX11_down_2 : decode cX11_down 2 = .ok (.lcmp, 1) := by decide +kernel
theorem dX11_down_3 : decode cX11_down 3 = .ok (.ifCond .ne 7, 3) := by decide +kernel
theorem dX11_down_6 : decode cX11_down 6 = .ok (.lconst 0, 1) := by decide +kernel
theorem dX11_down_7 : decode cX11_down 7 = .ok (.goto 8, 3) := by decide +kernel
theorem dX11_down_10 : decode cX11_down 10 = .ok (.lload_n 0, 1) := by decide +kernel
theorem dX11_down_11 : decode cX11_down 11 = .ok (.lload_n 2, 1) := by decide +kernel
theorem dX11_down_12 : decode cX11_down 12 = .ok (.invokestatic 444, 3) := by decide +kernel
theorem dX11_down_15 : decode cX11_down 15 = .ok (.lreturn, 1) := by decide +kernel
theorem dX11_product_0 : decode cX11_product 0 = .ok (.lload_n 0, 1) := by decide +kernel
theorem dX11_product_1 : decode cX11_product 1 = .ok (.lload_n 2, 1) := by decide +kernel
theorem dX11_product_2 : decode cX11_product 2 = .ok (.lmul, 1) := by decide +kernel
theorem dX11_product_3 : decode cX11_product 3 = .ok (.ldc2_w 447, 3) := by decide +kernel
theorem dX11_product_6 : decode cX11_product 6 = .ok (.invokestatic 444, 3) := by decide +kernel
theorem dX11_product_9 : decode cX11_product 9 = .ok (.lreturn, 1) := by decide +kernel
theorem dX11_limited_0 : decode cX11_limited 0 = .ok (.ldc2_w 449, 3) := by decide +kernel
theorem dX11_limited_3 : decode cX11_limited 3 = .ok (.ldc2_w 447, 3) := by decide +kernel
theorem dX11_limited_6 : decode cX11_limited 6 = .ok (.lload_n 0, 1) := by decide +kernel
theorem dX11_limited_7 : decode cX11_limited 7 = .ok (.invokestatic 451, 3) := by decide +kernel
theorem dX11_limited_10 : decode cX11_limited 10 = .ok (.invokestatic 454, 3) := by decide +kernel
theorem dX11_limited_13 : decode cX11_limited 13 = .ok (.l2i, 1) := by decide +kernel
theorem dX11_limited_14 : decode cX11_limited 14 = .ok (.ireturn, 1) := by decide +kernel
theorem dX11_sineOf_0 : decode cX11_sineOf 0 = .ok (.iload_n 0, 1) := by decide +kernel
theorem dX11_sineOf_1 : decode cX11_sineOf 1 = .ok (.sipush 21600, 3) := by decide +kernel
theorem dX11_sineOf_4 : decode cX11_sineOf 4 = .ok (.invokestatic 457, 3) := by decide +kernel
theorem dX11_sineOf_7 : decode cX11_sineOf 7 = .ok (.istore_n 1, 1) := by decide +kernel
theorem dX11_sineOf_8 : decode cX11_sineOf 8 = .ok (.iload_n 1, 1) := by decide +kernel
theorem dX11_sineOf_9 : decode cX11_sineOf 9 = .ok (.sipush 10800, 3) := by decide +kernel
theorem dX11_sineOf_12 : decode cX11_sineOf 12 = .ok (.if_icmp .lt 7, 3) := by decide +kernel
theorem dX11_sineOf_15 : decode cX11_sineOf 15 = .ok (.iconst 1, 1) := by decide +kernel
theorem dX11_sineOf_16 : decode cX11_sineOf 16 = .ok (.goto 4, 3) := by decide +kernel
theorem dX11_sineOf_19 : decode cX11_sineOf 19 = .ok (.iconst 0, 1) := by decide +kernel
theorem dX11_sineOf_20 : decode cX11_sineOf 20 = .ok (.istore_n 2, 1) := by decide +kernel
theorem dX11_sineOf_21 : decode cX11_sineOf 21 = .ok (.iload_n 2, 1) := by decide +kernel
theorem dX11_sineOf_22 : decode cX11_sineOf 22 = .ok (.ifCond .eq 12, 3) := by decide +kernel
theorem dX11_sineOf_25 : decode cX11_sineOf 25 = .ok (.iload_n 1, 1) := by decide +kernel
theorem dX11_sineOf_26 : decode cX11_sineOf 26 = .ok (.sipush 10800, 3) := by decide +kernel
theorem dX11_sineOf_29 : decode cX11_sineOf 29 = .ok (.isub, 1) := by decide +kernel
theorem dX11_sineOf_30 : decode cX11_sineOf 30 = .ok (.i2l, 1) := by decide +kernel
theorem dX11_sineOf_31 : decode cX11_sineOf 31 = .ok (.goto 5, 3) := by decide +kernel
theorem dX11_sineOf_34 : decode cX11_sineOf 34 = .ok (.iload_n 1, 1) := by decide +kernel
theorem dX11_sineOf_35 : decode cX11_sineOf 35 = .ok (.i2l, 1) := by decide +kernel
theorem dX11_sineOf_36 : decode cX11_sineOf 36 = .ok (.lstore_n 3, 1) := by decide +kernel
theorem dX11_sineOf_37 : decode cX11_sineOf 37 = .ok (.lload_n 3, 1) := by decide +kernel
theorem dX11_sineOf_38 : decode cX11_sineOf 38 = .ok (.ldc2_w 461, 3) := by decide +kernel
theorem dX11_sineOf_41 : decode cX11_sineOf 41 = .ok (.lload_n 3, 1) := by decide +kernel
theorem dX11_sineOf_42 : decode cX11_sineOf 42 = .ok (.lsub, 1) := by decide +kernel
theorem dX11_sineOf_43 : decode cX11_sineOf 43 = .ok (.lmul, 1) := by decide +kernel
theorem dX11_sineOf_44 : decode cX11_sineOf 44 = .ok (.lstore 5, 2) := by decide +kernel
theorem dX11_sineOf_46 : decode cX11_sineOf 46 = .ok (.ldc2_w 463, 3) := by decide +kernel
theorem dX11_sineOf_49 : decode cX11_sineOf 49 = .ok (.lload 5, 2) := by decide +kernel
theorem dX11_sineOf_51 : decode cX11_sineOf 51 = .ok (.lsub, 1) := by decide +kernel
theorem dX11_sineOf_52 : decode cX11_sineOf 52 = .ok (.lstore 7, 2) := by decide +kernel
theorem dX11_sineOf_54 : decode cX11_sineOf 54 = .ok (.lload 7, 2) := by decide +kernel
theorem dX11_sineOf_56 : decode cX11_sineOf 56 = .ok (.lconst 0, 1) := by decide +kernel
theorem dX11_sineOf_57 : decode cX11_sineOf 57 = .ok (.lcmp, 1) := by decide +kernel
theorem dX11_sineOf_58 : decode cX11_sineOf 58 = .ok (.ifCond .gt 7, 3) := by decide +kernel
theorem dX11_sineOf_61 : decode cX11_sineOf 61 = .ok (.iconst 0, 1) := by decide +kernel
theorem dX11_sineOf_62 : decode cX11_sineOf 62 = .ok (.goto 13, 3) := by decide +kernel
theorem dX11_sineOf_65 : decode cX11_sineOf 65 = .ok (.ldc2_w 465, 3) := by decide +kernel
theorem dX11_sineOf_68 : decode cX11_sineOf 68 = .ok (.lload 5, 2) := by decide +kernel
theorem dX11_sineOf_70 : decode cX11_sineOf 70 = .ok (.lmul, 1) := by decide +kernel
theorem dX11_sineOf_71 : decode cX11_sineOf 71 = .ok (.lload 7, 2) := by decide +kernel
theorem dX11_sineOf_73 : decode cX11_sineOf 73 = .ok (.ldiv, 1) := by decide +kernel
theorem dX11_sineOf_74 : decode cX11_sineOf 74 = .ok (.l2i, 1) := by decide +kernel
theorem dX11_sineOf_75 : decode cX11_sineOf 75 = .ok (.istore 9, 2) := by decide +kernel
theorem dX11_sineOf_77 : decode cX11_sineOf 77 = .ok (.iload_n 2, 1) := by decide +kernel
theorem dX11_sineOf_78 : decode cX11_sineOf 78 = .ok (.ifCond .eq 9, 3) := by decide +kernel
theorem dX11_sineOf_81 : decode cX11_sineOf 81 = .ok (.iload 9, 2) := by decide +kernel
theorem dX11_sineOf_83 : decode cX11_sineOf 83 = .ok (.ineg, 1) := by decide +kernel
theorem dX11_sineOf_84 : decode cX11_sineOf 84 = .ok (.goto 5, 3) := by decide +kernel
theorem dX11_sineOf_87 : decode cX11_sineOf 87 = .ok (.iload 9, 2) := by decide +kernel
theorem dX11_sineOf_89 : decode cX11_sineOf 89 = .ok (.ireturn, 1) := by decide +kernel
theorem dX11_cosineOf_0 : decode cX11_cosineOf 0 = .ok (.iload_n 0, 1) := by decide +kernel
theorem dX11_cosineOf_1 : decode cX11_cosineOf 1 = .ok (.sipush 5400, 3) := by decide +kernel
theorem dX11_cosineOf_4 : decode cX11_cosineOf 4 = .ok (.iadd, 1) := by decide +kernel
theorem dX11_cosineOf_5 : decode cX11_cosineOf 5 = .ok (.invokestatic 152, 3) := by decide +kernel
theorem dX11_cosineOf_8 : decode cX11_cosineOf 8 = .ok (.ireturn, 1) := by decide +kernel
theorem dX11_arcOf_0 : decode cX11_arcOf 0 = .ok (.iload_n 0, 1) := by decide +kernel
theorem dX11_arcOf_1 : decode cX11_arcOf 1 = .ok (.invokestatic 357, 3) := by decide +kernel
theorem dX11_arcOf_4 : decode cX11_arcOf 4 = .ok (.istore_n 1, 1) := by decide +kernel
theorem dX11_arcOf_5 : decode cX11_arcOf 5 = .ok (.iconst 0, 1) := by decide +kernel
theorem dX11_arcOf_6 : decode cX11_arcOf 6 = .ok (.istore_n 2, 1) := by decide +kernel
theorem dX11_arcOf_7 : decode cX11_arcOf 7 = .ok (.sipush 4096, 3) := by decide +kernel
theorem dX11_arcOf_10 : decode cX11_arcOf 10 = .ok (.istore_n 3, 1) := by decide +kernel
theorem dX11_arcOf_11 : decode cX11_arcOf 11 = .ok (.iload_n 3, 1) := by decide +kernel
theorem dX11_arcOf_12 : decode cX11_arcOf 12 = .ok (.ifCond .le 35, 3) := by decide +kernel
theorem dX11_arcOf_15 : decode cX11_arcOf 15 = .ok (.iload_n 2, 1) := by decide +kernel
theorem dX11_arcOf_16 : decode cX11_arcOf 16 = .ok (.iload_n 3, 1) := by decide +kernel
theorem dX11_arcOf_17 : decode cX11_arcOf 17 = .ok (.iadd, 1) := by decide +kernel
theorem dX11_arcOf_18 : decode cX11_arcOf 18 = .ok (.istore 4, 2) := by decide +kernel
theorem dX11_arcOf_20 : decode cX11_arcOf 20 = .ok (.iload 4, 2) := by decide +kernel
theorem dX11_arcOf_22 : decode cX11_arcOf 22 = .ok (.sipush 5400, 3) := by decide +kernel
theorem dX11_arcOf_25 : decode cX11_arcOf 25 = .ok (.if_icmp .gt 15, 3) := by decide +kernel
theorem dX11_arcOf_28 : decode cX11_arcOf 28 = .ok (.iload 4, 2) := by decide +kernel
theorem dX11_arcOf_30 : decode cX11_arcOf 30 = .ok (.invokestatic 152, 3) := by decide +kernel
theorem dX11_arcOf_33 : decode cX11_arcOf 33 = .ok (.iload_n 1, 1) := by decide +kernel
theorem dX11_arcOf_34 : decode cX11_arcOf 34 = .ok (.if_icmp .gt 6, 3) := by decide +kernel
theorem dX11_arcOf_37 : decode cX11_arcOf 37 = .ok (.iload 4, 2) := by decide +kernel
theorem dX11_arcOf_39 : decode cX11_arcOf 39 = .ok (.istore_n 2, 1) := by decide +kernel
theorem dX11_arcOf_40 : decode cX11_arcOf 40 = .ok (.iload_n 3, 1) := by decide +kernel
theorem dX11_arcOf_41 : decode cX11_arcOf 41 = .ok (.iconst 2, 1) := by decide +kernel
theorem dX11_arcOf_42 : decode cX11_arcOf 42 = .ok (.idiv, 1) := by decide +kernel
theorem dX11_arcOf_43 : decode cX11_arcOf 43 = .ok (.istore_n 3, 1) := by decide +kernel
theorem dX11_arcOf_44 : decode cX11_arcOf 44 = .ok (.goto (-33), 3) := by decide +kernel
theorem dX11_arcOf_47 : decode cX11_arcOf 47 = .ok (.iload_n 0, 1) := by decide +kernel
theorem dX11_arcOf_48 : decode cX11_arcOf 48 = .ok (.ifCond .ge 8, 3) := by decide +kernel
theorem dX11_arcOf_51 : decode cX11_arcOf 51 = .ok (.iload_n 2, 1) := by decide +kernel
theorem dX11_arcOf_52 : decode cX11_arcOf 52 = .ok (.ineg, 1) := by decide +kernel
theorem dX11_arcOf_53 : decode cX11_arcOf 53 = .ok (.goto 4, 3) := by decide +kernel
theorem dX11_arcOf_56 : decode cX11_arcOf 56 = .ok (.iload_n 2, 1) := by decide +kernel
theorem dX11_arcOf_57 : decode cX11_arcOf 57 = .ok (.ireturn, 1) := by decide +kernel
theorem dX11_rootOf_0 : decode cX11_rootOf 0 = .ok (.lconst 0, 1) := by decide +kernel
theorem dX11_rootOf_1 : decode cX11_rootOf 1 = .ok (.lstore_n 2, 1) := by decide +kernel
theorem dX11_rootOf_2 : decode cX11_rootOf 2 = .ok (.bipush 30, 2) := by decide +kernel
theorem dX11_rootOf_4 : decode cX11_rootOf 4 = .ok (.istore 4, 2) := by decide +kernel
theorem dX11_rootOf_6 : decode cX11_rootOf 6 = .ok (.iload 4, 2) := by decide +kernel
theorem dX11_rootOf_8 : decode cX11_rootOf 8 = .ok (.ifCond .lt 30, 3) := by decide +kernel
theorem dX11_rootOf_11 : decode cX11_rootOf 11 = .ok (.lload_n 2, 1) := by decide +kernel
theorem dX11_rootOf_12 : decode cX11_rootOf 12 = .ok (.lconst 1, 1) := by decide +kernel
theorem dX11_rootOf_13 : decode cX11_rootOf 13 = .ok (.iload 4, 2) := by decide +kernel
theorem dX11_rootOf_15 : decode cX11_rootOf 15 = .ok (.lshl, 1) := by decide +kernel
theorem dX11_rootOf_16 : decode cX11_rootOf 16 = .ok (.ladd, 1) := by decide +kernel
theorem dX11_rootOf_17 : decode cX11_rootOf 17 = .ok (.lstore 5, 2) := by decide +kernel
theorem dX11_rootOf_19 : decode cX11_rootOf 19 = .ok (.lload 5, 2) := by decide +kernel
theorem dX11_rootOf_21 : decode cX11_rootOf 21 = .ok (.lload 5, 2) := by decide +kernel
theorem dX11_rootOf_23 : decode cX11_rootOf 23 = .ok (.lmul, 1) := by decide +kernel
theorem dX11_rootOf_24 : decode cX11_rootOf 24 = .ok (.lload_n 0, 1) := by decide +kernel
theorem dX11_rootOf_25 : decode cX11_rootOf 25 = .ok (.lcmp, 1) := by decide +kernel
theorem dX11_rootOf_26 : decode cX11_rootOf 26 = .ok (.ifCond .gt 6, 3) := by decide +kernel
theorem dX11_rootOf_29 : decode cX11_rootOf 29 = .ok (.lload 5, 2) := by decide +kernel
theorem dX11_rootOf_31 : decode cX11_rootOf 31 = .ok (.lstore_n 2, 1) := by decide +kernel
theorem dX11_rootOf_32 : decode cX11_rootOf 32 = .ok (.iinc 4 (-1), 3) := by decide +kernel
theorem dX11_rootOf_35 : decode cX11_rootOf 35 = .ok (.goto (-29), 3) := by decide +kernel
theorem dX11_rootOf_38 : decode cX11_rootOf 38 = .ok (.lload_n 2, 1) := by decide +kernel
theorem dX11_rootOf_39 : decode cX11_rootOf 39 = .ok (.l2i, 1) := by decide +kernel
theorem dX11_rootOf_40 : decode cX11_rootOf 40 = .ok (.ireturn, 1) := by decide +kernel
theorem dX11_longitudeOf_0 : decode cX11_longitudeOf 0 = .ok (.lload_n 0, 1) := by decide +kernel
theorem dX11_longitudeOf_1 : decode cX11_longitudeOf 1 = .ok (.ldc2_w 461, 3) := by decide +kernel
theorem dX11_longitudeOf_4 : decode cX11_longitudeOf 4 = .ok (.ladd, 1) := by decide +kernel
theorem dX11_longitudeOf_5 : decode cX11_longitudeOf 5 = .ok (.ldc2_w 467, 3) := by decide +kernel
theorem dX11_longitudeOf_8 : decode cX11_longitudeOf 8 = .ok (.invokestatic 469, 3) := by decide +kernel
theorem dX11_longitudeOf_11 : decode cX11_longitudeOf 11 = .ok (.ldc2_w 461, 3) := by decide +kernel
theorem dX11_longitudeOf_14 : decode cX11_longitudeOf 14 = .ok (.lsub, 1) := by decide +kernel
theorem dX11_longitudeOf_15 : decode cX11_longitudeOf 15 = .ok (.l2i, 1) := by decide +kernel
theorem dX11_longitudeOf_16 : decode cX11_longitudeOf 16 = .ok (.ireturn, 1) := by decide +kernel
theorem dX11_at_0 : decode cX11_at 0 = .ok (.iload_n 1, 1) := by decide +kernel
theorem dX11_at_1 : decode cX11_at 1 = .ok (.ifCond .lt 9, 3) := by decide +kernel
theorem dX11_at_4 : decode cX11_at 4 = .ok (.iload_n 1, 1) := by decide +kernel
theorem dX11_at_5 : decode cX11_at 5 = .ok (.aload_n 0, 1) := by decide +kernel
theorem dX11_at_6 : decode cX11_at 6 = .ok (.arraylength, 1) := by decide +kernel
theorem dX11_at_7 : decode cX11_at 7 = .ok (.if_icmp .lt 7, 3) := by decide +kernel
theorem dX11_at_10 : decode cX11_at 10 = .ok (.iconst 0, 1) := by decide +kernel
theorem dX11_at_11 : decode cX11_at 11 = .ok (.goto 6, 3) := by decide +kernel
theorem dX11_at_14 : decode cX11_at 14 = .ok (.aload_n 0, 1) := by decide +kernel
theorem dX11_at_15 : decode cX11_at 15 = .ok (.iload_n 1, 1) := by decide +kernel
theorem dX11_at_16 : decode cX11_at 16 = .ok (.iaload, 1) := by decide +kernel
theorem dX11_at_17 : decode cX11_at 17 = .ok (.ireturn, 1) := by decide +kernel
theorem dX11_put_0 : decode cX11_put 0 = .ok (.iload_n 1, 1) := by decide +kernel
theorem dX11_put_1 : decode cX11_put 1 = .ok (.ifCond .lt 13, 3) := by decide +kernel
theorem dX11_put_4 : decode cX11_put 4 = .ok (.iload_n 1, 1) := by decide +kernel
theorem dX11_put_5 : decode cX11_put 5 = .ok (.aload_n 0, 1) := by decide +kernel
theorem dX11_put_6 : decode cX11_put 6 = .ok (.arraylength, 1) := by decide +kernel
theorem dX11_put_7 : decode cX11_put 7 = .ok (.if_icmp .ge 7, 3) := by decide +kernel
theorem dX11_put_10 : decode cX11_put 10 = .ok (.aload_n 0, 1) := by decide +kernel
theorem dX11_put_11 : decode cX11_put 11 = .ok (.iload_n 1, 1) := by decide +kernel
theorem dX11_put_12 : decode cX11_put 12 = .ok (.iload_n 2, 1) := by decide +kernel
theorem dX11_put_13 : decode cX11_put 13 = .ok (.iastore, 1) := by decide +kernel
theorem dX11_put_14 : decode cX11_put 14 = .ok (.return_, 1) := by decide +kernel
theorem dX11_copyRow_0 : decode cX11_copyRow 0 = .ok (.aload_n 0, 1) := by decide +kernel
theorem dX11_copyRow_1 : decode cX11_copyRow 1 = .ok (.iconst 0, 1) := by decide +kernel
theorem dX11_copyRow_2 : decode cX11_copyRow 2 = .ok (.aload_n 1, 1) := by decide +kernel
theorem dX11_copyRow_3 : decode cX11_copyRow 3 = .ok (.iconst 0, 1) := by decide +kernel
theorem dX11_copyRow_4 : decode cX11_copyRow 4 = .ok (.aload_n 0, 1) := by decide +kernel
theorem dX11_copyRow_5 : decode cX11_copyRow 5 = .ok (.arraylength, 1) := by decide +kernel
theorem dX11_copyRow_6 : decode cX11_copyRow 6 = .ok (.aload_n 1, 1) := by decide +kernel
theorem dX11_copyRow_7 : decode cX11_copyRow 7 = .ok (.arraylength, 1) := by decide +kernel
theorem dX11_copyRow_8 : decode cX11_copyRow 8 = .ok (.invokestatic 471, 3) := by decide +kernel
theorem dX11_copyRow_11 : decode cX11_copyRow 11 = .ok (.invokestatic 473, 3) := by decide +kernel
theorem dX11_copyRow_14 : decode cX11_copyRow 14 = .ok (.return_, 1) := by decide +kernel
theorem dX12_init_0 : decode cX12_init 0 = .ok (.aload_n 0, 1) := by decide +kernel
theorem dX12_init_1 : decode cX12_init 1 = .ok (.invokespecial 1, 3) := by decide +kernel
theorem dX12_init_4 : decode cX12_init 4 = .ok (.aload_n 0, 1) := by decide +kernel
theorem dX12_init_5 : decode cX12_init 5 = .ok (.bipush 6, 2) := by decide +kernel
theorem dX12_init_7 : decode cX12_init 7 = .ok (.anewarray 7, 3) := by decide +kernel
theorem dX12_init_10 : decode cX12_init 10 = .ok (.putfield 9, 3) := by decide +kernel
theorem dX12_init_13 : decode cX12_init 13 = .ok (.aload_n 0, 1) := by decide +kernel
theorem dX12_init_14 : decode cX12_init 14 = .ok (.bipush 8, 2) := by decide +kernel
theorem dX12_init_16 : decode cX12_init 16 = .ok (.anewarray 7, 3) := by decide +kernel
theorem dX12_init_19 : decode cX12_init 19 = .ok (.putfield 15, 3) := by decide +kernel
theorem dX12_init_22 : decode cX12_init 22 = .ok (.aload_n 0, 1) := by decide +kernel
theorem dX12_init_23 : decode cX12_init 23 = .ok (.bipush 12, 2) := by decide +kernel
theorem dX12_init_25 : decode cX12_init 25 = .ok (.anewarray 7, 3) := by decide +kernel
theorem dX12_init_28 : decode cX12_init 28 = .ok (.putfield 18, 3) := by decide +kernel
theorem dX12_init_31 : decode cX12_init 31 = .ok (.return_, 1) := by decide +kernel
theorem dX12_dip_0 : decode cX12_dip 0 = .ok (.iconst 0, 1) := by decide +kernel
theorem dX12_dip_1 : decode cX12_dip 1 = .ok (.istore_n 1, 1) := by decide +kernel
theorem dX12_dip_2 : decode cX12_dip 2 = .ok (.iload_n 1, 1) := by decide +kernel
theorem dX12_dip_3 : decode cX12_dip 3 = .ok (.iconst 1, 1) := by decide +kernel
theorem dX12_dip_4 : decode cX12_dip 4 = .ok (.iadd, 1) := by decide +kernel
theorem dX12_dip_5 : decode cX12_dip 5 = .ok (.iload_n 1, 1) := by decide +kernel
theorem dX12_dip_6 : decode cX12_dip 6 = .ok (.iconst 1, 1) := by decide +kernel
theorem dX12_dip_7 : decode cX12_dip 7 = .ok (.iadd, 1) := by decide +kernel
theorem dX12_dip_8 : decode cX12_dip 8 = .ok (.imul, 1) := by decide +kernel
theorem dX12_dip_9 : decode cX12_dip 9 = .ok (.iconst 3, 1) := by decide +kernel
theorem dX12_dip_10 : decode cX12_dip 10 = .ok (.aload_n 0, 1) := by decide +kernel
theorem dX12_dip_11 : decode cX12_dip 11 = .ok (.getfield 38, 3) := by decide +kernel
theorem dX12_dip_14 : decode cX12_dip 14 = .ok (.imul, 1) := by decide +kernel
theorem dX12_dip_15 : decode cX12_dip 15 = .ok (.if_icmp .gt 9, 3) := by decide +kernel
theorem dX12_dip_18 : decode cX12_dip 18 = .ok (.iinc 1 1, 3) := by decide +kernel
theorem dX12_dip_21 : decode cX12_dip 21 = .ok (.goto (-19), 3) := by decide +kernel
theorem dX12_dip_24 : decode cX12_dip 24 = .ok (.iload_n 1, 1) := by decide +kernel
theorem dX12_dip_25 : decode cX12_dip 25 = .ok (.ireturn, 1) := by decide +kernel
theorem dJ5_init_d00df_0 : decode cJ5_init_d00df 0 = .ok (.aload_n 0, 1) := by decide +kernel
theorem dJ5_init_d00df_1 : decode cJ5_init_d00df 1 = .ok (.invokespecial 3, 3) := by decide +kernel
theorem dJ5_init_d00df_4 : decode cJ5_init_d00df 4 = .ok (.getstatic 18, 3) := by decide +kernel
theorem dJ5_init_d00df_7 : decode cJ5_init_d00df 7 = .ok (.ifCond .eq 18, 3) := by decide +kernel
theorem dJ5_init_d00df_10 : decode cJ5_init_d00df 10 = .ok (.aload_n 0, 1) := by decide +kernel
theorem dJ5_init_d00df_11 : decode cJ5_init_d00df 11 = .ok (.iload_n 1, 1) := by decide +kernel
theorem dJ5_init_d00df_12 : decode cJ5_init_d00df 12 = .ok (.newarray .byte, 2) := by decide +kernel
theorem dJ5_init_d00df_14 : decode cJ5_init_d00df 14 = .ok (.putfield 15, 3) := by decide +kernel
theorem dJ5_init_d00df_17 : decode cJ5_init_d00df 17 = .ok (.aload_n 0, 1) := by decide +kernel
theorem dJ5_init_d00df_18 : decode cJ5_init_d00df 18 = .ok (.iconst 0, 1) := by decide +kernel
theorem dJ5_init_d00df_19 : decode cJ5_init_d00df 19 = .ok (.putfield 22, 3) := by decide +kernel
theorem dJ5_init_d00df_22 : decode cJ5_init_d00df 22 = .ok (.goto 16, 3) := by decide +kernel
theorem dJ5_init_d00df_25 : decode cJ5_init_d00df 25 = .ok (.aload_n 0, 1) := by decide +kernel
theorem dJ5_init_d00df_26 : decode cJ5_init_d00df 26 = .ok (.iload_n 1, 1) := by decide +kernel
theorem dJ5_init_d00df_27 : decode cJ5_init_d00df 27 = .ok (.invokestatic 26, 3) := by decide +kernel
theorem dJ5_init_d00df_30 : decode cJ5_init_d00df 30 = .ok (.putfield 15, 3) := by decide +kernel
theorem dJ5_init_d00df_33 : decode cJ5_init_d00df 33 = .ok (.aload_n 0, 1) := by decide +kernel
theorem dJ5_init_d00df_34 : decode cJ5_init_d00df 34 = .ok (.iconst 1, 1) := by decide +kernel
theorem dJ5_init_d00df_35 : decode cJ5_init_d00df 35 = .ok (.putfield 22, 3) := by decide +kernel
theorem dJ5_init_d00df_38 : decode cJ5_init_d00df 38 = .ok (.return_, 1) := by decide +kernel
theorem dJ6_compare_7cf53_0 : decode cJ6_compare_7cf53 0 = .ok (.iload_n 0, 1) := by decide +kernel
theorem dJ6_compare_7cf53_1 : decode cJ6_compare_7cf53 1 = .ok (.iload_n 1, 1) := by decide +kernel
theorem dJ6_compare_7cf53_2 : decode cJ6_compare_7cf53 2 = .ok (.if_icmp .ge 7, 3) := by decide +kernel
theorem dJ6_compare_7cf53_5 : decode cJ6_compare_7cf53 5 = .ok (.iconst (-1), 1) := by decide +kernel
theorem dJ6_compare_7cf53_6 : decode cJ6_compare_7cf53 6 = .ok (.goto 13, 3) := by decide +kernel
theorem dJ6_compare_7cf53_9 : decode cJ6_compare_7cf53 9 = .ok (.iload_n 0, 1) := by decide +kernel
theorem dJ6_compare_7cf53_10 : decode cJ6_compare_7cf53 10 = .ok (.iload_n 1, 1) := by decide +kernel
theorem dJ6_compare_7cf53_11 : decode cJ6_compare_7cf53 11 = .ok (.if_icmp .ne 7, 3) := by decide +kernel
theorem dJ6_compare_7cf53_14 : decode cJ6_compare_7cf53 14 = .ok (.iconst 0, 1) := by decide +kernel
theorem dJ6_compare_7cf53_15 : decode cJ6_compare_7cf53 15 = .ok (.goto 4, 3) := by decide +kernel
theorem dJ6_compare_7cf53_18 : decode cJ6_compare_7cf53 18 = .ok (.iconst 1, 1) := by decide +kernel
theorem dJ6_compare_7cf53_19 : decode cJ6_compare_7cf53 19 = .ok (.ireturn, 1) := by decide +kernel
theorem dJ6_numberOfTrailingZeros_0f7a4_0 : decode cJ6_numberOfTrailingZeros_0f7a4 0 = .ok (.iload_n 0, 1) := by decide +kernel
theorem dJ6_numberOfTrailingZeros_0f7a4_1 : decode cJ6_numberOfTrailingZeros_0f7a4 1 = .ok (.iconst (-1), 1) := by decide +kernel
theorem dJ6_numberOfTrailingZeros_0f7a4_2 : decode cJ6_numberOfTrailingZeros_0f7a4 2 = .ok (.ixor, 1) := by decide +kernel
theorem dJ6_numberOfTrailingZeros_0f7a4_3 : decode cJ6_numberOfTrailingZeros_0f7a4 3 = .ok (.iload_n 0, 1) := by decide +kernel
theorem dJ6_numberOfTrailingZeros_0f7a4_4 : decode cJ6_numberOfTrailingZeros_0f7a4 4 = .ok (.iconst 1, 1) := by decide +kernel
theorem dJ6_numberOfTrailingZeros_0f7a4_5 : decode cJ6_numberOfTrailingZeros_0f7a4 5 = .ok (.isub, 1) := by decide +kernel
theorem dJ6_numberOfTrailingZeros_0f7a4_6 : decode cJ6_numberOfTrailingZeros_0f7a4 6 = .ok (.iand, 1) := by decide +kernel
theorem dJ6_numberOfTrailingZeros_0f7a4_7 : decode cJ6_numberOfTrailingZeros_0f7a4 7 = .ok (.istore_n 0, 1) := by decide +kernel
theorem dJ6_numberOfTrailingZeros_0f7a4_8 : decode cJ6_numberOfTrailingZeros_0f7a4 8 = .ok (.iload_n 0, 1) := by decide +kernel
theorem dJ6_numberOfTrailingZeros_0f7a4_9 : decode cJ6_numberOfTrailingZeros_0f7a4 9 = .ok (.ifCond .gt 8, 3) := by decide +kernel
theorem dJ6_numberOfTrailingZeros_0f7a4_12 : decode cJ6_numberOfTrailingZeros_0f7a4 12 = .ok (.iload_n 0, 1) := by decide +kernel
theorem dJ6_numberOfTrailingZeros_0f7a4_13 : decode cJ6_numberOfTrailingZeros_0f7a4 13 = .ok (.bipush 32, 2) := by decide +kernel
theorem dJ6_numberOfTrailingZeros_0f7a4_15 : decode cJ6_numberOfTrailingZeros_0f7a4 15 = .ok (.iand, 1) := by decide +kernel
theorem dJ6_numberOfTrailingZeros_0f7a4_16 : decode cJ6_numberOfTrailingZeros_0f7a4 16 = .ok (.ireturn, 1) := by decide +kernel
theorem dJ6_numberOfTrailingZeros_0f7a4_17 : decode cJ6_numberOfTrailingZeros_0f7a4 17 = .ok (.iconst 1, 1) := by decide +kernel
theorem dJ6_numberOfTrailingZeros_0f7a4_18 : decode cJ6_numberOfTrailingZeros_0f7a4 18 = .ok (.istore_n 1, 1) := by decide +kernel
theorem dJ6_numberOfTrailingZeros_0f7a4_19 : decode cJ6_numberOfTrailingZeros_0f7a4 19 = .ok (.iload_n 0, 1) := by decide +kernel
theorem dJ6_numberOfTrailingZeros_0f7a4_20 : decode cJ6_numberOfTrailingZeros_0f7a4 20 = .ok (.ldc_w 264, 3) := by decide +kernel
theorem dJ6_numberOfTrailingZeros_0f7a4_23 : decode cJ6_numberOfTrailingZeros_0f7a4 23 = .ok (.if_icmp .le 11, 3) := by decide +kernel
theorem dJ6_numberOfTrailingZeros_0f7a4_26 : decode cJ6_numberOfTrailingZeros_0f7a4 26 = .ok (.iinc 1 16, 3) := by decide +kernel
theorem dJ6_numberOfTrailingZeros_0f7a4_29 : decode cJ6_numberOfTrailingZeros_0f7a4 29 = .ok (.iload_n 0, 1) := by decide +kernel
theorem dJ6_numberOfTrailingZeros_0f7a4_30 : decode cJ6_numberOfTrailingZeros_0f7a4 30 = .ok (.bipush 16, 2) := by decide +kernel
theorem dJ6_numberOfTrailingZeros_0f7a4_32 : decode cJ6_numberOfTrailingZeros_0f7a4 32 = .ok (.iushr, 1) := by decide +kernel
theorem dJ6_numberOfTrailingZeros_0f7a4_33 : decode cJ6_numberOfTrailingZeros_0f7a4 33 = .ok (.istore_n 0, 1) := by decide +kernel
theorem dJ6_numberOfTrailingZeros_0f7a4_34 : decode cJ6_numberOfTrailingZeros_0f7a4 34 = .ok (.iload_n 0, 1) := by decide +kernel
theorem dJ6_numberOfTrailingZeros_0f7a4_35 : decode cJ6_numberOfTrailingZeros_0f7a4 35 = .ok (.sipush 256, 3) := by decide +kernel
theorem dJ6_numberOfTrailingZeros_0f7a4_38 : decode cJ6_numberOfTrailingZeros_0f7a4 38 = .ok (.if_icmp .le 11, 3) := by decide +kernel
theorem dJ6_numberOfTrailingZeros_0f7a4_41 : decode cJ6_numberOfTrailingZeros_0f7a4 41 = .ok (.iinc 1 8, 3) := by decide +kernel
theorem dJ6_numberOfTrailingZeros_0f7a4_44 : decode cJ6_numberOfTrailingZeros_0f7a4 44 = .ok (.iload_n 0, 1) := by decide +kernel
theorem dJ6_numberOfTrailingZeros_0f7a4_45 : decode cJ6_numberOfTrailingZeros_0f7a4 45 = .ok (.bipush 8, 2) := by decide +kernel
theorem dJ6_numberOfTrailingZeros_0f7a4_47 : decode cJ6_numberOfTrailingZeros_0f7a4 47 = .ok (.iushr, 1) := by decide +kernel
theorem dJ6_numberOfTrailingZeros_0f7a4_48 : decode cJ6_numberOfTrailingZeros_0f7a4 48 = .ok (.istore_n 0, 1) := by decide +kernel
theorem dJ6_numberOfTrailingZeros_0f7a4_49 : decode cJ6_numberOfTrailingZeros_0f7a4 49 = .ok (.iload_n 0, 1) := by decide +kernel
theorem dJ6_numberOfTrailingZeros_0f7a4_50 : decode cJ6_numberOfTrailingZeros_0f7a4 50 = .ok (.bipush 16, 2) := by decide +kernel
theorem dJ6_numberOfTrailingZeros_0f7a4_52 : decode cJ6_numberOfTrailingZeros_0f7a4 52 = .ok (.if_icmp .le 10, 3) := by decide +kernel
theorem dJ6_numberOfTrailingZeros_0f7a4_55 : decode cJ6_numberOfTrailingZeros_0f7a4 55 = .ok (.iinc 1 4, 3) := by decide +kernel
theorem dJ6_numberOfTrailingZeros_0f7a4_58 : decode cJ6_numberOfTrailingZeros_0f7a4 58 = .ok (.iload_n 0, 1) := by decide +kernel
theorem dJ6_numberOfTrailingZeros_0f7a4_59 : decode cJ6_numberOfTrailingZeros_0f7a4 59 = .ok (.iconst 4, 1) := by decide +kernel
theorem dJ6_numberOfTrailingZeros_0f7a4_60 : decode cJ6_numberOfTrailingZeros_0f7a4 60 = .ok (.iushr, 1) := by decide +kernel
theorem dJ6_numberOfTrailingZeros_0f7a4_61 : decode cJ6_numberOfTrailingZeros_0f7a4 61 = .ok (.istore_n 0, 1) := by decide +kernel
theorem dJ6_numberOfTrailingZeros_0f7a4_62 : decode cJ6_numberOfTrailingZeros_0f7a4 62 = .ok (.iload_n 0, 1) := by decide +kernel
theorem dJ6_numberOfTrailingZeros_0f7a4_63 : decode cJ6_numberOfTrailingZeros_0f7a4 63 = .ok (.iconst 4, 1) := by decide +kernel
theorem dJ6_numberOfTrailingZeros_0f7a4_64 : decode cJ6_numberOfTrailingZeros_0f7a4 64 = .ok (.if_icmp .le 10, 3) := by decide +kernel
theorem dJ6_numberOfTrailingZeros_0f7a4_67 : decode cJ6_numberOfTrailingZeros_0f7a4 67 = .ok (.iinc 1 2, 3) := by decide +kernel
theorem dJ6_numberOfTrailingZeros_0f7a4_70 : decode cJ6_numberOfTrailingZeros_0f7a4 70 = .ok (.iload_n 0, 1) := by decide +kernel
theorem dJ6_numberOfTrailingZeros_0f7a4_71 : decode cJ6_numberOfTrailingZeros_0f7a4 71 = .ok (.iconst 2, 1) := by decide +kernel
theorem dJ6_numberOfTrailingZeros_0f7a4_72 : decode cJ6_numberOfTrailingZeros_0f7a4 72 = .ok (.iushr, 1) := by decide +kernel
theorem dJ6_numberOfTrailingZeros_0f7a4_73 : decode cJ6_numberOfTrailingZeros_0f7a4 73 = .ok (.istore_n 0, 1) := by decide +kernel
theorem dJ6_numberOfTrailingZeros_0f7a4_74 : decode cJ6_numberOfTrailingZeros_0f7a4 74 = .ok (.iload_n 1, 1) := by decide +kernel
theorem dJ6_numberOfTrailingZeros_0f7a4_75 : decode cJ6_numberOfTrailingZeros_0f7a4 75 = .ok (.iload_n 0, 1) := by decide +kernel
theorem dJ6_numberOfTrailingZeros_0f7a4_76 : decode cJ6_numberOfTrailingZeros_0f7a4 76 = .ok (.iconst 1, 1) := by decide +kernel
theorem dJ6_numberOfTrailingZeros_0f7a4_77 : decode cJ6_numberOfTrailingZeros_0f7a4 77 = .ok (.iushr, 1) := by decide +kernel
theorem dJ6_numberOfTrailingZeros_0f7a4_78 : decode cJ6_numberOfTrailingZeros_0f7a4 78 = .ok (.iadd, 1) := by decide +kernel
theorem dJ6_numberOfTrailingZeros_0f7a4_79 : decode cJ6_numberOfTrailingZeros_0f7a4 79 = .ok (.ireturn, 1) := by decide +kernel
theorem dJ6_bitCount_0f7a4_0 : decode cJ6_bitCount_0f7a4 0 = .ok (.iload_n 0, 1) := by decide +kernel
theorem dJ6_bitCount_0f7a4_1 : decode cJ6_bitCount_0f7a4 1 = .ok (.iload_n 0, 1) := by decide +kernel
theorem dJ6_bitCount_0f7a4_2 : decode cJ6_bitCount_0f7a4 2 = .ok (.iconst 1, 1) := by decide +kernel
theorem dJ6_bitCount_0f7a4_3 : decode cJ6_bitCount_0f7a4 3 = .ok (.iushr, 1) := by decide +kernel
theorem dJ6_bitCount_0f7a4_4 : decode cJ6_bitCount_0f7a4 4 = .ok (.ldc_w 265, 3) := by decide +kernel
theorem dJ6_bitCount_0f7a4_7 : decode cJ6_bitCount_0f7a4 7 = .ok (.iand, 1) := by decide +kernel
theorem dJ6_bitCount_0f7a4_8 : decode cJ6_bitCount_0f7a4 8 = .ok (.isub, 1) := by decide +kernel
theorem dJ6_bitCount_0f7a4_9 : decode cJ6_bitCount_0f7a4 9 = .ok (.istore_n 0, 1) := by decide +kernel
theorem dJ6_bitCount_0f7a4_10 : decode cJ6_bitCount_0f7a4 10 = .ok (.iload_n 0, 1) := by decide +kernel
theorem dJ6_bitCount_0f7a4_11 : decode cJ6_bitCount_0f7a4 11 = .ok (.ldc_w 266, 3) := by decide +kernel
theorem dJ6_bitCount_0f7a4_14 : decode cJ6_bitCount_0f7a4 14 = .ok (.iand, 1) := by decide +kernel
theorem dJ6_bitCount_0f7a4_15 : decode cJ6_bitCount_0f7a4 15 = .ok (.iload_n 0, 1) := by decide +kernel
theorem dJ6_bitCount_0f7a4_16 : decode cJ6_bitCount_0f7a4 16 = .ok (.iconst 2, 1) := by decide +kernel
theorem dJ6_bitCount_0f7a4_17 : decode cJ6_bitCount_0f7a4 17 = .ok (.iushr, 1) := by decide +kernel
theorem dJ6_bitCount_0f7a4_18 : decode cJ6_bitCount_0f7a4 18 = .ok (.ldc_w 266, 3) := by decide +kernel
theorem dJ6_bitCount_0f7a4_21 : decode cJ6_bitCount_0f7a4 21 = .ok (.iand, 1) := by decide +kernel
theorem dJ6_bitCount_0f7a4_22 : decode cJ6_bitCount_0f7a4 22 = .ok (.iadd, 1) := by decide +kernel
theorem dJ6_bitCount_0f7a4_23 : decode cJ6_bitCount_0f7a4 23 = .ok (.istore_n 0, 1) := by decide +kernel
theorem dJ6_bitCount_0f7a4_24 : decode cJ6_bitCount_0f7a4 24 = .ok (.iload_n 0, 1) := by decide +kernel
theorem dJ6_bitCount_0f7a4_25 : decode cJ6_bitCount_0f7a4 25 = .ok (.iload_n 0, 1) := by decide +kernel
theorem dJ6_bitCount_0f7a4_26 : decode cJ6_bitCount_0f7a4 26 = .ok (.iconst 4, 1) := by decide +kernel
theorem dJ6_bitCount_0f7a4_27 : decode cJ6_bitCount_0f7a4 27 = .ok (.iushr, 1) := by decide +kernel
theorem dJ6_bitCount_0f7a4_28 : decode cJ6_bitCount_0f7a4 28 = .ok (.iadd, 1) := by decide +kernel
theorem dJ6_bitCount_0f7a4_29 : decode cJ6_bitCount_0f7a4 29 = .ok (.ldc_w 267, 3) := by decide +kernel
theorem dJ6_bitCount_0f7a4_32 : decode cJ6_bitCount_0f7a4 32 = .ok (.iand, 1) := by decide +kernel
theorem dJ6_bitCount_0f7a4_33 : decode cJ6_bitCount_0f7a4 33 = .ok (.istore_n 0, 1) := by decide +kernel
theorem dJ6_bitCount_0f7a4_34 : decode cJ6_bitCount_0f7a4 34 = .ok (.iload_n 0, 1) := by decide +kernel
theorem dJ6_bitCount_0f7a4_35 : decode cJ6_bitCount_0f7a4 35 = .ok (.iload_n 0, 1) := by decide +kernel
theorem dJ6_bitCount_0f7a4_36 : decode cJ6_bitCount_0f7a4 36 = .ok (.bipush 8, 2) := by decide +kernel
theorem dJ6_bitCount_0f7a4_38 : decode cJ6_bitCount_0f7a4 38 = .ok (.iushr, 1) := by decide +kernel
theorem dJ6_bitCount_0f7a4_39 : decode cJ6_bitCount_0f7a4 39 = .ok (.iadd, 1) := by decide +kernel
theorem dJ6_bitCount_0f7a4_40 : decode cJ6_bitCount_0f7a4 40 = .ok (.istore_n 0, 1) := by decide +kernel
theorem dJ6_bitCount_0f7a4_41 : decode cJ6_bitCount_0f7a4 41 = .ok (.iload_n 0, 1) := by decide +kernel
theorem dJ6_bitCount_0f7a4_42 : decode cJ6_bitCount_0f7a4 42 = .ok (.iload_n 0, 1) := by decide +kernel
theorem dJ6_bitCount_0f7a4_43 : decode cJ6_bitCount_0f7a4 43 = .ok (.bipush 16, 2) := by decide +kernel
theorem dJ6_bitCount_0f7a4_45 : decode cJ6_bitCount_0f7a4 45 = .ok (.iushr, 1) := by decide +kernel
theorem dJ6_bitCount_0f7a4_46 : decode cJ6_bitCount_0f7a4 46 = .ok (.iadd, 1) := by decide +kernel
theorem dJ6_bitCount_0f7a4_47 : decode cJ6_bitCount_0f7a4 47 = .ok (.istore_n 0, 1) := by decide +kernel
theorem dJ6_bitCount_0f7a4_48 : decode cJ6_bitCount_0f7a4 48 = .ok (.iload_n 0, 1) := by decide +kernel
theorem dJ6_bitCount_0f7a4_49 : decode cJ6_bitCount_0f7a4 49 = .ok (.bipush 63, 2) := by decide +kernel
theorem dJ6_bitCount_0f7a4_51 : decode cJ6_bitCount_0f7a4 51 = .ok (.iand, 1) := by decide +kernel
theorem dJ6_bitCount_0f7a4_52 : decode cJ6_bitCount_0f7a4 52 = .ok (.ireturn, 1) := by decide +kernel
theorem dJ9_floorDiv_f86c9_0 : decode cJ9_floorDiv_f86c9 0 = .ok (.lload_n 0, 1) := by decide +kernel
theorem dJ9_floorDiv_f86c9_1 : decode cJ9_floorDiv_f86c9 1 = .ok (.lload_n 2, 1) := by decide +kernel
theorem dJ9_floorDiv_f86c9_2 : decode cJ9_floorDiv_f86c9 2 = .ok (.ldiv, 1) := by decide +kernel
theorem dJ9_floorDiv_f86c9_3 : decode cJ9_floorDiv_f86c9 3 = .ok (.lstore 4, 2) := by decide +kernel
theorem dJ9_floorDiv_f86c9_5 : decode cJ9_floorDiv_f86c9 5 = .ok (.lload_n 0, 1) := by decide +kernel
theorem dJ9_floorDiv_f86c9_6 : decode cJ9_floorDiv_f86c9 6 = .ok (.lload_n 2, 1) := by decide +kernel
theorem dJ9_floorDiv_f86c9_7 : decode cJ9_floorDiv_f86c9 7 = .ok (.lxor, 1) := by decide +kernel
theorem dJ9_floorDiv_f86c9_8 : decode cJ9_floorDiv_f86c9 8 = .ok (.lconst 0, 1) := by decide +kernel
theorem dJ9_floorDiv_f86c9_9 : decode cJ9_floorDiv_f86c9 9 = .ok (.lcmp, 1) := by decide +kernel
theorem dJ9_floorDiv_f86c9_10 : decode cJ9_floorDiv_f86c9 10 = .ok (.ifCond .ge 17, 3) := by decide +kernel
theorem dJ9_floorDiv_f86c9_13 : decode cJ9_floorDiv_f86c9 13 = .ok (.lload 4, 2) := by decide +kernel
theorem dJ9_floorDiv_f86c9_15 : decode cJ9_floorDiv_f86c9 15 = .ok (.lload_n 2, 1) := by decide +kernel
theorem dJ9_floorDiv_f86c9_16 : decode cJ9_floorDiv_f86c9 16 = .ok (.lmul, 1) := by decide +kernel
theorem dJ9_floorDiv_f86c9_17 : decode cJ9_floorDiv_f86c9 17 = .ok (.lload_n 0, 1) := by decide +kernel
theorem dJ9_floorDiv_f86c9_18 : decode cJ9_floorDiv_f86c9 18 = .ok (.lcmp, 1) := by decide +kernel
theorem dJ9_floorDiv_f86c9_19 : decode cJ9_floorDiv_f86c9 19 = .ok (.ifCond .eq 8, 3) := by decide +kernel
theorem dJ9_floorDiv_f86c9_22 : decode cJ9_floorDiv_f86c9 22 = .ok (.lload 4, 2) := by decide +kernel
theorem dJ9_floorDiv_f86c9_24 : decode cJ9_floorDiv_f86c9 24 = .ok (.lconst 1, 1) := by decide +kernel
theorem dJ9_floorDiv_f86c9_25 : decode cJ9_floorDiv_f86c9 25 = .ok (.lsub, 1) := by decide +kernel
theorem dJ9_floorDiv_f86c9_26 : decode cJ9_floorDiv_f86c9 26 = .ok (.lreturn, 1) := by decide +kernel
theorem dJ9_floorDiv_f86c9_27 : decode cJ9_floorDiv_f86c9 27 = .ok (.lload 4, 2) := by decide +kernel
theorem dJ9_floorDiv_f86c9_29 : decode cJ9_floorDiv_f86c9 29 = .ok (.lreturn, 1) := by decide +kernel
theorem dJ9_floorMod_7cf53_0 : decode cJ9_floorMod_7cf53 0 = .ok (.iload_n 0, 1) := by decide +kernel
theorem dJ9_floorMod_7cf53_1 : decode cJ9_floorMod_7cf53 1 = .ok (.iload_n 1, 1) := by decide +kernel
theorem dJ9_floorMod_7cf53_2 : decode cJ9_floorMod_7cf53 2 = .ok (.irem, 1) := by decide +kernel
theorem dJ9_floorMod_7cf53_3 : decode cJ9_floorMod_7cf53 3 = .ok (.istore_n 2, 1) := by decide +kernel
theorem dJ9_floorMod_7cf53_4 : decode cJ9_floorMod_7cf53 4 = .ok (.iload_n 0, 1) := by decide +kernel
theorem dJ9_floorMod_7cf53_5 : decode cJ9_floorMod_7cf53 5 = .ok (.iload_n 1, 1) := by decide +kernel
theorem dJ9_floorMod_7cf53_6 : decode cJ9_floorMod_7cf53 6 = .ok (.ixor, 1) := by decide +kernel
theorem dJ9_floorMod_7cf53_7 : decode cJ9_floorMod_7cf53 7 = .ok (.ifCond .ge 11, 3) := by decide +kernel
theorem dJ9_floorMod_7cf53_10 : decode cJ9_floorMod_7cf53 10 = .ok (.iload_n 2, 1) := by decide +kernel
theorem dJ9_floorMod_7cf53_11 : decode cJ9_floorMod_7cf53 11 = .ok (.ifCond .eq 7, 3) := by decide +kernel
theorem dJ9_floorMod_7cf53_14 : decode cJ9_floorMod_7cf53 14 = .ok (.iload_n 2, 1) := by decide +kernel
theorem dJ9_floorMod_7cf53_15 : decode cJ9_floorMod_7cf53 15 = .ok (.iload_n 1, 1) := by decide +kernel
theorem dJ9_floorMod_7cf53_16 : decode cJ9_floorMod_7cf53 16 = .ok (.iadd, 1) := by decide +kernel
theorem dJ9_floorMod_7cf53_17 : decode cJ9_floorMod_7cf53 17 = .ok (.ireturn, 1) := by decide +kernel
theorem dJ9_floorMod_7cf53_18 : decode cJ9_floorMod_7cf53 18 = .ok (.iload_n 2, 1) := by decide +kernel
theorem dJ9_floorMod_7cf53_19 : decode cJ9_floorMod_7cf53 19 = .ok (.ireturn, 1) := by decide +kernel
theorem dJ9_floorMod_f86c9_0 : decode cJ9_floorMod_f86c9 0 = .ok (.lload_n 0, 1) := by decide +kernel
theorem dJ9_floorMod_f86c9_1 : decode cJ9_floorMod_f86c9 1 = .ok (.lload_n 2, 1) := by decide +kernel
theorem dJ9_floorMod_f86c9_2 : decode cJ9_floorMod_f86c9 2 = .ok (.lrem, 1) := by decide +kernel
theorem dJ9_floorMod_f86c9_3 : decode cJ9_floorMod_f86c9 3 = .ok (.lstore 4, 2) := by decide +kernel
theorem dJ9_floorMod_f86c9_5 : decode cJ9_floorMod_f86c9 5 = .ok (.lload_n 0, 1) := by decide +kernel
theorem dJ9_floorMod_f86c9_6 : decode cJ9_floorMod_f86c9 6 = .ok (.lload_n 2, 1) := by decide +kernel
theorem dJ9_floorMod_f86c9_7 : decode cJ9_floorMod_f86c9 7 = .ok (.lxor, 1) := by decide +kernel
theorem dJ9_floorMod_f86c9_8 : decode cJ9_floorMod_f86c9 8 = .ok (.lconst 0, 1) := by decide +kernel
theorem dJ9_floorMod_f86c9_9 : decode cJ9_floorMod_f86c9 9 = .ok (.lcmp, 1) := by decide +kernel
theorem dJ9_floorMod_f86c9_10 : decode cJ9_floorMod_f86c9 10 = .ok (.ifCond .ge 15, 3) := by decide +kernel
theorem dJ9_floorMod_f86c9_13 : decode cJ9_floorMod_f86c9 13 = .ok (.lload 4, 2) := by decide +kernel
theorem dJ9_floorMod_f86c9_15 : decode cJ9_floorMod_f86c9 15 = .ok (.lconst 0, 1) := by decide +kernel
theorem dJ9_floorMod_f86c9_16 : decode cJ9_floorMod_f86c9 16 = .ok (.lcmp, 1) := by decide +kernel
theorem dJ9_floorMod_f86c9_17 : decode cJ9_floorMod_f86c9 17 = .ok (.ifCond .eq 8, 3) := by decide +kernel
theorem dJ9_floorMod_f86c9_20 : decode cJ9_floorMod_f86c9 20 = .ok (.lload 4, 2) := by decide +kernel
theorem dJ9_floorMod_f86c9_22 : decode cJ9_floorMod_f86c9 22 = .ok (.lload_n 2, 1) := by decide +kernel
theorem dJ9_floorMod_f86c9_23 : decode cJ9_floorMod_f86c9 23 = .ok (.ladd, 1) := by decide +kernel
theorem dJ9_floorMod_f86c9_24 : decode cJ9_floorMod_f86c9 24 = .ok (.lreturn, 1) := by decide +kernel
theorem dJ9_floorMod_f86c9_25 : decode cJ9_floorMod_f86c9 25 = .ok (.lload 4, 2) := by decide +kernel
theorem dJ9_floorMod_f86c9_27 : decode cJ9_floorMod_f86c9 27 = .ok (.lreturn, 1) := by decide +kernel
theorem dJ9_abs_0f7a4_0 : decode cJ9_abs_0f7a4 0 = .ok (.iload_n 0, 1) := by decide +kernel
theorem dJ9_abs_0f7a4_1 : decode cJ9_abs_0f7a4 1 = .ok (.ifCond .ge 8, 3) := by decide +kernel
theorem dJ9_abs_0f7a4_4 : decode cJ9_abs_0f7a4 4 = .ok (.iload_n 0, 1) := by decide +kernel
theorem dJ9_abs_0f7a4_5 : decode cJ9_abs_0f7a4 5 = .ok (.ineg, 1) := by decide +kernel
theorem dJ9_abs_0f7a4_6 : decode cJ9_abs_0f7a4 6 = .ok (.goto 4, 3) := by decide +kernel
theorem dJ9_abs_0f7a4_9 : decode cJ9_abs_0f7a4 9 = .ok (.iload_n 0, 1) := by decide +kernel
theorem dJ9_abs_0f7a4_10 : decode cJ9_abs_0f7a4 10 = .ok (.ireturn, 1) := by decide +kernel
theorem dJ9_abs_067f4_0 : decode cJ9_abs_067f4 0 = .ok (.lload_n 0, 1) := by decide +kernel
theorem dJ9_abs_067f4_1 : decode cJ9_abs_067f4 1 = .ok (.lconst 0, 1) := by decide +kernel
theorem dJ9_abs_067f4_2 : decode cJ9_abs_067f4 2 = .ok (.lcmp, 1) := by decide +kernel
theorem dJ9_abs_067f4_3 : decode cJ9_abs_067f4 3 = .ok (.ifCond .ge 8, 3) := by decide +kernel
theorem dJ9_abs_067f4_6 : decode cJ9_abs_067f4 6 = .ok (.lload_n 0, 1) := by decide +kernel
theorem dJ9_abs_067f4_7 : decode cJ9_abs_067f4 7 = .ok (.lneg, 1) := by decide +kernel
theorem dJ9_abs_067f4_8 : decode cJ9_abs_067f4 8 = .ok (.goto 4, 3) := by decide +kernel
theorem dJ9_abs_067f4_11 : decode cJ9_abs_067f4 11 = .ok (.lload_n 0, 1) := by decide +kernel
theorem dJ9_abs_067f4_12 : decode cJ9_abs_067f4 12 = .ok (.lreturn, 1) := by decide +kernel
theorem dJ9_abs_294c1_0 : decode cJ9_abs_294c1 0 = .ok (.dload_n 0, 1) := by decide +kernel
theorem dJ9_abs_294c1_1 : decode cJ9_abs_294c1 1 = .ok (.invokestatic 79, 3) := by decide +kernel
theorem dJ9_abs_294c1_4 : decode cJ9_abs_294c1 4 = .ok (.ldc2_w 135, 3) := by decide +kernel
theorem dJ9_abs_294c1_7 : decode cJ9_abs_294c1 7 = .ok (.land, 1) := by decide +kernel
theorem dJ9_abs_294c1_8 : decode cJ9_abs_294c1 8 = .ok (.invokestatic 166, 3) := by decide +kernel
theorem dJ9_abs_294c1_11 : decode cJ9_abs_294c1 11 = .ok (.dreturn, 1) := by decide +kernel
theorem dJ9_max_f86c9_0 : decode cJ9_max_f86c9 0 = .ok (.lload_n 0, 1) := by decide +kernel
theorem dJ9_max_f86c9_1 : decode cJ9_max_f86c9 1 = .ok (.lload_n 2, 1) := by decide +kernel
theorem dJ9_max_f86c9_2 : decode cJ9_max_f86c9 2 = .ok (.lcmp, 1) := by decide +kernel
theorem dJ9_max_f86c9_3 : decode cJ9_max_f86c9 3 = .ok (.ifCond .lt 7, 3) := by decide +kernel
theorem dJ9_max_f86c9_6 : decode cJ9_max_f86c9 6 = .ok (.lload_n 0, 1) := by decide +kernel
theorem dJ9_max_f86c9_7 : decode cJ9_max_f86c9 7 = .ok (.goto 4, 3) := by decide +kernel
theorem dJ9_max_f86c9_10 : decode cJ9_max_f86c9 10 = .ok (.lload_n 2, 1) := by decide +kernel
theorem dJ9_max_f86c9_11 : decode cJ9_max_f86c9 11 = .ok (.lreturn, 1) := by decide +kernel
theorem dJ9_min_7cf53_0 : decode cJ9_min_7cf53 0 = .ok (.iload_n 0, 1) := by decide +kernel
theorem dJ9_min_7cf53_1 : decode cJ9_min_7cf53 1 = .ok (.iload_n 1, 1) := by decide +kernel
theorem dJ9_min_7cf53_2 : decode cJ9_min_7cf53 2 = .ok (.if_icmp .gt 7, 3) := by decide +kernel
theorem dJ9_min_7cf53_5 : decode cJ9_min_7cf53 5 = .ok (.iload_n 0, 1) := by decide +kernel
theorem dJ9_min_7cf53_6 : decode cJ9_min_7cf53 6 = .ok (.goto 4, 3) := by decide +kernel
theorem dJ9_min_7cf53_9 : decode cJ9_min_7cf53 9 = .ok (.iload_n 1, 1) := by decide +kernel
theorem dJ9_min_7cf53_10 : decode cJ9_min_7cf53 10 = .ok (.ireturn, 1) := by decide +kernel
theorem dJ9_min_f86c9_0 : decode cJ9_min_f86c9 0 = .ok (.lload_n 0, 1) := by decide +kernel
theorem dJ9_min_f86c9_1 : decode cJ9_min_f86c9 1 = .ok (.lload_n 2, 1) := by decide +kernel
theorem dJ9_min_f86c9_2 : decode cJ9_min_f86c9 2 = .ok (.lcmp, 1) := by decide +kernel
theorem dJ9_min_f86c9_3 : decode cJ9_min_f86c9 3 = .ok (.ifCond .gt 7, 3) := by decide +kernel
theorem dJ9_min_f86c9_6 : decode cJ9_min_f86c9 6 = .ok (.lload_n 0, 1) := by decide +kernel
theorem dJ9_min_f86c9_7 : decode cJ9_min_f86c9 7 = .ok (.goto 4, 3) := by decide +kernel
theorem dJ9_min_f86c9_10 : decode cJ9_min_f86c9 10 = .ok (.lload_n 2, 1) := by decide +kernel
theorem dJ9_min_f86c9_11 : decode cJ9_min_f86c9 11 = .ok (.lreturn, 1) := by decide +kernel
theorem dJ0_length_8abf5_0 : decode cJ0_length_8abf5 0 = .ok (.aload_n 0, 1) := by decide +kernel
theorem dJ0_length_8abf5_1 : decode cJ0_length_8abf5 1 = .ok (.getfield 9, 3) := by decide +kernel
theorem dJ0_length_8abf5_4 : decode cJ0_length_8abf5 4 = .ok (.arraylength, 1) := by decide +kernel
theorem dJ0_length_8abf5_5 : decode cJ0_length_8abf5 5 = .ok (.aload_n 0, 1) := by decide +kernel
theorem dJ0_length_8abf5_6 : decode cJ0_length_8abf5 6 = .ok (.invokevirtual 335, 3) := by decide +kernel
theorem dJ0_length_8abf5_9 : decode cJ0_length_8abf5 9 = .ok (.ishr, 1) := by decide +kernel
theorem dJ0_length_8abf5_10 : decode cJ0_length_8abf5 10 = .ok (.ireturn, 1) := by decide +kernel
theorem dJ0_charAt_5068e_0 : decode cJ0_charAt_5068e 0 = .ok (.aload_n 0, 1) := by decide +kernel
theorem dJ0_charAt_5068e_1 : decode cJ0_charAt_5068e 1 = .ok (.invokevirtual 492, 3) := by decide +kernel
theorem dJ0_charAt_5068e_4 : decode cJ0_charAt_5068e 4 = .ok (.ifCond .eq 12, 3) := by decide +kernel
theorem dJ0_charAt_5068e_7 : decode cJ0_charAt_5068e 7 = .ok (.aload_n 0, 1) := by decide +kernel
theorem dJ0_charAt_5068e_8 : decode cJ0_charAt_5068e 8 = .ok (.getfield 9, 3) := by decide +kernel
theorem dJ0_charAt_5068e_11 : decode cJ0_charAt_5068e 11 = .ok (.iload_n 1, 1) := by decide +kernel
theorem dJ0_charAt_5068e_12 : decode cJ0_charAt_5068e 12 = .ok (.invokestatic 495, 3) := by decide +kernel
theorem dJ0_charAt_5068e_15 : decode cJ0_charAt_5068e 15 = .ok (.ireturn, 1) := by decide +kernel
theorem dJ0_charAt_5068e_16 : decode cJ0_charAt_5068e 16 = .ok (.aload_n 0, 1) := by decide +kernel
theorem dJ0_charAt_5068e_17 : decode cJ0_charAt_5068e 17 = .ok (.getfield 9, 3) := by decide +kernel
theorem dJ0_charAt_5068e_20 : decode cJ0_charAt_5068e 20 = .ok (.iload_n 1, 1) := by decide +kernel
theorem dJ0_charAt_5068e_21 : decode cJ0_charAt_5068e 21 = .ok (.invokestatic 498, 3) := by decide +kernel
theorem dJ0_charAt_5068e_24 : decode cJ0_charAt_5068e 24 = .ok (.ireturn, 1) := by decide +kernel
theorem dJ0_coder_7d493_0 : decode cJ0_coder_7d493 0 = .ok (.getstatic 38, 3) := by decide +kernel
theorem dJ0_coder_7d493_3 : decode cJ0_coder_7d493 3 = .ok (.ifCond .eq 10, 3) := by decide +kernel
theorem dJ0_coder_7d493_6 : decode cJ0_coder_7d493 6 = .ok (.aload_n 0, 1) := by decide +kernel
theorem dJ0_coder_7d493_7 : decode cJ0_coder_7d493 7 = .ok (.getfield 15, 3) := by decide +kernel
theorem dJ0_coder_7d493_10 : decode cJ0_coder_7d493 10 = .ok (.goto 4, 3) := by decide +kernel
theorem dJ0_coder_7d493_13 : decode cJ0_coder_7d493 13 = .ok (.iconst 1, 1) := by decide +kernel
theorem dJ0_coder_7d493_14 : decode cJ0_coder_7d493 14 = .ok (.ireturn, 1) := by decide +kernel
theorem dJ0_isLatin1_aae02_0 : decode cJ0_isLatin1_aae02 0 = .ok (.getstatic 38, 3) := by decide +kernel
theorem dJ0_isLatin1_aae02_3 : decode cJ0_isLatin1_aae02 3 = .ok (.ifCond .eq 14, 3) := by decide +kernel
theorem dJ0_isLatin1_aae02_6 : decode cJ0_isLatin1_aae02 6 = .ok (.aload_n 0, 1) := by decide +kernel
theorem dJ0_isLatin1_aae02_7 : decode cJ0_isLatin1_aae02 7 = .ok (.getfield 15, 3) := by decide +kernel
theorem dJ0_isLatin1_aae02_10 : decode cJ0_isLatin1_aae02 10 = .ok (.ifCond .ne 7, 3) := by decide +kernel
theorem dJ0_isLatin1_aae02_13 : decode cJ0_isLatin1_aae02 13 = .ok (.iconst 1, 1) := by decide +kernel
theorem dJ0_isLatin1_aae02_14 : decode cJ0_isLatin1_aae02 14 = .ok (.goto 4, 3) := by decide +kernel
theorem dJ0_isLatin1_aae02_17 : decode cJ0_isLatin1_aae02 17 = .ok (.iconst 0, 1) := by decide +kernel
theorem dJ0_isLatin1_aae02_18 : decode cJ0_isLatin1_aae02 18 = .ok (.ireturn, 1) := by decide +kernel
theorem dJ0_checkIndex_df160_0 : decode cJ0_checkIndex_df160 0 = .ok (.iload_n 0, 1) := by decide +kernel
theorem dJ0_checkIndex_df160_1 : decode cJ0_checkIndex_df160 1 = .ok (.iload_n 1, 1) := by decide +kernel
theorem dJ0_checkIndex_df160_2 : decode cJ0_checkIndex_df160 2 = .ok (.getstatic 1053, 3) := by decide +kernel
theorem dJ0_checkIndex_df160_5 : decode cJ0_checkIndex_df160 5 = .ok (.invokestatic 1059, 3) := by decide +kernel
theorem dJ0_checkIndex_df160_8 : decode cJ0_checkIndex_df160 8 = .ok (.pop, 1) := by decide +kernel
theorem dJ0_checkIndex_df160_9 : decode cJ0_checkIndex_df160 9 = .ok (.return_, 1) := by decide +kernel
theorem dJ4_init_da8c8_0 : decode cJ4_init_da8c8 0 = .ok (.aload_n 0, 1) := by decide +kernel
theorem dJ4_init_da8c8_1 : decode cJ4_init_da8c8 1 = .ok (.bipush 16, 2) := by decide +kernel
theorem dJ4_init_da8c8_3 : decode cJ4_init_da8c8 3 = .ok (.invokespecial 1, 3) := by decide +kernel
theorem dJ4_init_da8c8_6 : decode cJ4_init_da8c8 6 = .ok (.return_, 1) := by decide +kernel
theorem dJ1_charAt_3b067_0 : decode cJ1_charAt_3b067 0 = .ok (.iload_n 1, 1) := by decide +kernel
theorem dJ1_charAt_3b067_1 : decode cJ1_charAt_3b067 1 = .ok (.aload_n 0, 1) := by decide +kernel
theorem dJ1_charAt_3b067_2 : decode cJ1_charAt_3b067 2 = .ok (.arraylength, 1) := by decide +kernel
theorem dJ1_charAt_3b067_3 : decode cJ1_charAt_3b067 3 = .ok (.invokestatic 9, 3) := by decide +kernel
theorem dJ1_charAt_3b067_6 : decode cJ1_charAt_3b067 6 = .ok (.aload_n 0, 1) := by decide +kernel
theorem dJ1_charAt_3b067_7 : decode cJ1_charAt_3b067 7 = .ok (.iload_n 1, 1) := by decide +kernel
theorem dJ1_charAt_3b067_8 : decode cJ1_charAt_3b067 8 = .ok (.baload, 1) := by decide +kernel
theorem dJ1_charAt_3b067_9 : decode cJ1_charAt_3b067 9 = .ok (.sipush 255, 3) := by decide +kernel
theorem dJ1_charAt_3b067_12 : decode cJ1_charAt_3b067 12 = .ok (.iand, 1) := by decide +kernel
theorem dJ1_charAt_3b067_13 : decode cJ1_charAt_3b067 13 = .ok (.i2c, 1) := by decide +kernel
theorem dJ1_charAt_3b067_14 : decode cJ1_charAt_3b067 14 = .ok (.ireturn, 1) := by decide +kernel
theorem dJ2_newBytesFor_77867_0 : decode cJ2_newBytesFor_77867 0 = .ok (.iload_n 0, 1) := by decide +kernel
theorem dJ2_newBytesFor_77867_1 : decode cJ2_newBytesFor_77867 1 = .ok (.invokestatic 11, 3) := by decide +kernel
theorem dJ2_newBytesFor_77867_4 : decode cJ2_newBytesFor_77867 4 = .ok (.newarray .byte, 2) := by decide +kernel
theorem dJ2_newBytesFor_77867_6 : decode cJ2_newBytesFor_77867 6 = .ok (.areturn, 1) := by decide +kernel
theorem dJ2_newBytesLength_0f7a4_0 : decode cJ2_newBytesLength_0f7a4 0 = .ok (.iload_n 0, 1) := by decide +kernel
theorem dJ2_newBytesLength_0f7a4_1 : decode cJ2_newBytesLength_0f7a4 1 = .ok (.ifCond .ge 11, 3) := by decide +kernel
theorem dJ2_newBytesLength_0f7a4_4 : decode cJ2_newBytesLength_0f7a4 4 = .ok (.new 17, 3) := by decide +kernel
theorem dJ2_newBytesLength_0f7a4_7 : decode cJ2_newBytesLength_0f7a4 7 = .ok (.dup, 1) := by decide +kernel
theorem dJ2_newBytesLength_0f7a4_8 : decode cJ2_newBytesLength_0f7a4 8 = .ok (.invokespecial 19, 3) := by decide +kernel
theorem dJ2_newBytesLength_0f7a4_11 : decode cJ2_newBytesLength_0f7a4 11 = .ok (.athrow, 1) := by decide +kernel
theorem dJ2_newBytesLength_0f7a4_12 : decode cJ2_newBytesLength_0f7a4 12 = .ok (.iload_n 0, 1) := by decide +kernel
theorem dJ2_newBytesLength_0f7a4_13 : decode cJ2_newBytesLength_0f7a4 13 = .ok (.ldc 20, 2) := by decide +kernel
theorem dJ2_newBytesLength_0f7a4_15 : decode cJ2_newBytesLength_0f7a4 15 = .ok (.if_icmp .lt 40, 3) := by decide +kernel
theorem dJ2_newBytesLength_0f7a4_18 : decode cJ2_newBytesLength_0f7a4 18 = .ok (.new 21, 3) := by decide +kernel
theorem dJ2_newBytesLength_0f7a4_21 : decode cJ2_newBytesLength_0f7a4 21 = .ok (.dup, 1) := by decide +kernel
theorem dJ2_newBytesLength_0f7a4_22 : decode cJ2_newBytesLength_0f7a4 22 = .ok (.new 23, 3) := by decide +kernel
theorem dJ2_newBytesLength_0f7a4_25 : decode cJ2_newBytesLength_0f7a4 25 = .ok (.dup, 1) := by decide +kernel
theorem dJ2_newBytesLength_0f7a4_26 : decode cJ2_newBytesLength_0f7a4 26 = .ok (.invokespecial 25, 3) := by decide +kernel
theorem dJ2_newBytesLength_0f7a4_29 : decode cJ2_newBytesLength_0f7a4 29 = .ok (.ldc 26, 2) := by decide +kernel
theorem dJ2_newBytesLength_0f7a4_31 : decode cJ2_newBytesLength_0f7a4 31 = .ok (.invokevirtual 28, 3) := by decide +kernel
theorem dJ2_newBytesLength_0f7a4_34 : decode cJ2_newBytesLength_0f7a4 34 = .ok (.iload_n 0, 1) := by decide +kernel
theorem dJ2_newBytesLength_0f7a4_35 : decode cJ2_newBytesLength_0f7a4 35 = .ok (.invokevirtual 32, 3) := by decide +kernel
theorem dJ2_newBytesLength_0f7a4_38 : decode cJ2_newBytesLength_0f7a4 38 = .ok (.ldc 35, 2) := by decide +kernel
theorem dJ2_newBytesLength_0f7a4_40 : decode cJ2_newBytesLength_0f7a4 40 = .ok (.invokevirtual 28, 3) := by decide +kernel
theorem dJ2_newBytesLength_0f7a4_43 : decode cJ2_newBytesLength_0f7a4 43 = .ok (.ldc 20, 2) := by decide +kernel
theorem dJ2_newBytesLength_0f7a4_45 : decode cJ2_newBytesLength_0f7a4 45 = .ok (.invokevirtual 32, 3) := by decide +kernel
theorem dJ2_newBytesLength_0f7a4_48 : decode cJ2_newBytesLength_0f7a4 48 = .ok (.invokevirtual 37, 3) := by decide +kernel
theorem dJ2_newBytesLength_0f7a4_51 : decode cJ2_newBytesLength_0f7a4 51 = .ok (.invokespecial 41, 3) := by decide +kernel
theorem dJ2_newBytesLength_0f7a4_54 : decode cJ2_newBytesLength_0f7a4 54 = .ok (.athrow, 1) := by decide +kernel
theorem dJ2_newBytesLength_0f7a4_55 : decode cJ2_newBytesLength_0f7a4 55 = .ok (.iload_n 0, 1) := by decide +kernel
theorem dJ2_newBytesLength_0f7a4_56 : decode cJ2_newBytesLength_0f7a4 56 = .ok (.iconst 1, 1) := by decide +kernel
theorem dJ2_newBytesLength_0f7a4_57 : decode cJ2_newBytesLength_0f7a4 57 = .ok (.ishl, 1) := by decide +kernel
theorem dJ2_newBytesLength_0f7a4_58 : decode cJ2_newBytesLength_0f7a4 58 = .ok (.ireturn, 1) := by decide +kernel
theorem dJ2_getChar_3b067_0 : decode cJ2_getChar_3b067 0 = .ok (.getstatic 44, 3) := by decide +kernel
theorem dJ2_getChar_3b067_3 : decode cJ2_getChar_3b067 3 = .ok (.ifCond .ne 25, 3) := by decide +kernel
theorem dJ2_getChar_3b067_6 : decode cJ2_getChar_3b067 6 = .ok (.iload_n 1, 1) := by decide +kernel
theorem dJ2_getChar_3b067_7 : decode cJ2_getChar_3b067 7 = .ok (.ifCond .lt 11, 3) := by decide +kernel
theorem dJ2_getChar_3b067_10 : decode cJ2_getChar_3b067 10 = .ok (.iload_n 1, 1) := by decide +kernel
theorem dJ2_getChar_3b067_11 : decode cJ2_getChar_3b067 11 = .ok (.aload_n 0, 1) := by decide +kernel
theorem dJ2_getChar_3b067_12 : decode cJ2_getChar_3b067 12 = .ok (.invokestatic 48, 3) := by decide +kernel
theorem dJ2_getChar_3b067_15 : decode cJ2_getChar_3b067 15 = .ok (.if_icmp .lt 13, 3) := by decide +kernel
theorem dJ2_getChar_3b067_18 : decode cJ2_getChar_3b067 18 = .ok (.new 52, 3) := by decide +kernel
theorem dJ2_getChar_3b067_21 : decode cJ2_getChar_3b067 21 = .ok (.dup, 1) := by decide +kernel
theorem dJ2_getChar_3b067_22 : decode cJ2_getChar_3b067 22 = .ok (.ldc 54, 2) := by decide +kernel
theorem dJ2_getChar_3b067_24 : decode cJ2_getChar_3b067 24 = .ok (.invokespecial 56, 3) := by decide +kernel
theorem dJ2_getChar_3b067_27 : decode cJ2_getChar_3b067 27 = .ok (.athrow, 1) := by decide +kernel
theorem dJ2_getChar_3b067_28 : decode cJ2_getChar_3b067 28 = .ok (.iload_n 1, 1) := by decide +kernel
theorem dJ2_getChar_3b067_29 : decode cJ2_getChar_3b067 29 = .ok (.iconst 1, 1) := by decide +kernel
theorem dJ2_getChar_3b067_30 : decode cJ2_getChar_3b067 30 = .ok (.ishl, 1) := by decide +kernel
theorem dJ2_getChar_3b067_31 : decode cJ2_getChar_3b067 31 = .ok (.istore_n 1, 1) := by decide +kernel
theorem dJ2_getChar_3b067_32 : decode cJ2_getChar_3b067 32 = .ok (.aload_n 0, 1) := by decide +kernel
theorem dJ2_getChar_3b067_33 : decode cJ2_getChar_3b067 33 = .ok (.iload_n 1, 1) := by decide +kernel
theorem dJ2_getChar_3b067_34 : decode cJ2_getChar_3b067 34 = .ok (.iinc 1 1, 3) := by decide +kernel
theorem dJ2_getChar_3b067_37 : decode cJ2_getChar_3b067 37 = .ok (.baload, 1) := by decide +kernel
theorem dJ2_getChar_3b067_38 : decode cJ2_getChar_3b067 38 = .ok (.sipush 255, 3) := by decide +kernel
theorem dJ2_getChar_3b067_41 : decode cJ2_getChar_3b067 41 = .ok (.iand, 1) := by decide +kernel
theorem dJ2_getChar_3b067_42 : decode cJ2_getChar_3b067 42 = .ok (.getstatic 59, 3) := by decide +kernel
theorem dJ2_getChar_3b067_45 : decode cJ2_getChar_3b067 45 = .ok (.ishl, 1) := by decide +kernel
theorem dJ2_getChar_3b067_46 : decode cJ2_getChar_3b067 46 = .ok (.aload_n 0, 1) := by decide +kernel
theorem dJ2_getChar_3b067_47 : decode cJ2_getChar_3b067 47 = .ok (.iload_n 1, 1) := by decide +kernel
theorem dJ2_getChar_3b067_48 : decode cJ2_getChar_3b067 48 = .ok (.baload, 1) := by decide +kernel
theorem dJ2_getChar_3b067_49 : decode cJ2_getChar_3b067 49 = .ok (.sipush 255, 3) := by decide +kernel
theorem dJ2_getChar_3b067_52 : decode cJ2_getChar_3b067 52 = .ok (.iand, 1) := by decide +kernel
theorem dJ2_getChar_3b067_53 : decode cJ2_getChar_3b067 53 = .ok (.getstatic 63, 3) := by decide +kernel
theorem dJ2_getChar_3b067_56 : decode cJ2_getChar_3b067 56 = .ok (.ishl, 1) := by decide +kernel
theorem dJ2_getChar_3b067_57 : decode cJ2_getChar_3b067 57 = .ok (.ior, 1) := by decide +kernel
theorem dJ2_getChar_3b067_58 : decode cJ2_getChar_3b067 58 = .ok (.i2c, 1) := by decide +kernel
theorem dJ2_getChar_3b067_59 : decode cJ2_getChar_3b067 59 = .ok (.ireturn, 1) := by decide +kernel
theorem dJ2_length_9d52b_0 : decode cJ2_length_9d52b 0 = .ok (.aload_n 0, 1) := by decide +kernel
theorem dJ2_length_9d52b_1 : decode cJ2_length_9d52b 1 = .ok (.arraylength, 1) := by decide +kernel
theorem dJ2_length_9d52b_2 : decode cJ2_length_9d52b 2 = .ok (.iconst 1, 1) := by decide +kernel
theorem dJ2_length_9d52b_3 : decode cJ2_length_9d52b 3 = .ok (.ishr, 1) := by decide +kernel
theorem dJ2_length_9d52b_4 : decode cJ2_length_9d52b 4 = .ok (.ireturn, 1) := by decide +kernel
theorem dJ2_charAt_3b067_0 : decode cJ2_charAt_3b067 0 = .ok (.iload_n 1, 1) := by decide +kernel
theorem dJ2_charAt_3b067_1 : decode cJ2_charAt_3b067 1 = .ok (.aload_n 0, 1) := by decide +kernel
theorem dJ2_charAt_3b067_2 : decode cJ2_charAt_3b067 2 = .ok (.invokestatic 67, 3) := by decide +kernel
theorem dJ2_charAt_3b067_5 : decode cJ2_charAt_3b067 5 = .ok (.aload_n 0, 1) := by decide +kernel
theorem dJ2_charAt_3b067_6 : decode cJ2_charAt_3b067 6 = .ok (.iload_n 1, 1) := by decide +kernel
theorem dJ2_charAt_3b067_7 : decode cJ2_charAt_3b067 7 = .ok (.invokestatic 71, 3) := by decide +kernel
theorem dJ2_charAt_3b067_10 : decode cJ2_charAt_3b067 10 = .ok (.ireturn, 1) := by decide +kernel
theorem dJ2_checkIndex_2214a_0 : decode cJ2_checkIndex_2214a 0 = .ok (.iload_n 0, 1) := by decide +kernel
theorem dJ2_checkIndex_2214a_1 : decode cJ2_checkIndex_2214a 1 = .ok (.aload_n 1, 1) := by decide +kernel
theorem dJ2_checkIndex_2214a_2 : decode cJ2_checkIndex_2214a 2 = .ok (.invokestatic 48, 3) := by decide +kernel
theorem dJ2_checkIndex_2214a_5 : decode cJ2_checkIndex_2214a 5 = .ok (.invokestatic 414, 3) := by decide +kernel
theorem dJ2_checkIndex_2214a_8 : decode cJ2_checkIndex_2214a 8 = .ok (.return_, 1) := by decide +kernel
theorem dJ3_checkIndex_8e157_0 : decode cJ3_checkIndex_8e157 0 = .ok (.iload_n 0, 1) := by decide +kernel
theorem dJ3_checkIndex_8e157_1 : decode cJ3_checkIndex_8e157 1 = .ok (.ifCond .lt 8, 3) := by decide +kernel
theorem dJ3_checkIndex_8e157_4 : decode cJ3_checkIndex_8e157 4 = .ok (.iload_n 0, 1) := by decide +kernel
theorem dJ3_checkIndex_8e157_5 : decode cJ3_checkIndex_8e157 5 = .ok (.iload_n 1, 1) := by decide +kernel
theorem dJ3_checkIndex_8e157_6 : decode cJ3_checkIndex_8e157 6 = .ok (.if_icmp .lt 10, 3) := by decide +kernel
theorem dJ3_checkIndex_8e157_9 : decode cJ3_checkIndex_8e157 9 = .ok (.aload_n 2, 1) := by decide +kernel
theorem dJ3_checkIndex_8e157_10 : decode cJ3_checkIndex_8e157 10 = .ok (.iload_n 0, 1) := by decide +kernel
theorem dJ3_checkIndex_8e157_11 : decode cJ3_checkIndex_8e157 11 = .ok (.iload_n 1, 1) := by decide +kernel
theorem dJ3_checkIndex_8e157_12 : decode cJ3_checkIndex_8e157 12 = .ok (.invokestatic 95, 3) := by decide +kernel
theorem dJ3_checkIndex_8e157_15 : decode cJ3_checkIndex_8e157 15 = .ok (.athrow, 1) := by decide +kernel
theorem dJ3_checkIndex_8e157_16 : decode cJ3_checkIndex_8e157 16 = .ok (.iload_n 0, 1) := by decide +kernel
theorem dJ3_checkIndex_8e157_17 : decode cJ3_checkIndex_8e157 17 = .ok (.ireturn, 1) := by decide +kernel
theorem dL_most_0 : decode cL_most 0 = .ok (.iload_n 0, 1) := by decide +kernel
theorem dL_most_1 : decode cL_most 1 = .ok (.ldc 7, 2) := by decide +kernel
theorem dL_most_3 : decode cL_most 3 = .ok (.iand, 1) := by decide +kernel
theorem dL_most_4 : decode cL_most 4 = .ok (.iload_n 1, 1) := by decide +kernel
theorem dL_most_5 : decode cL_most 5 = .ok (.irem, 1) := by decide +kernel
theorem dL_most_6 : decode cL_most 6 = .ok (.ireturn, 1) := by decide +kernel
theorem dL_cell_0 : decode cL_cell 0 = .ok (.iload_n 1, 1) := by decide +kernel
theorem dL_cell_1 : decode cL_cell 1 = .ok (.aload_n 0, 1) := by decide +kernel
theorem dL_cell_2 : decode cL_cell 2 = .ok (.arraylength, 1) := by decide +kernel
theorem dL_cell_3 : decode cL_cell 3 = .ok (.if_icmp .ge 9, 3) := by decide +kernel
theorem dL_cell_6 : decode cL_cell 6 = .ok (.aload_n 0, 1) := by decide +kernel
theorem dL_cell_7 : decode cL_cell 7 = .ok (.iload_n 1, 1) := by decide +kernel
theorem dL_cell_8 : decode cL_cell 8 = .ok (.iaload, 1) := by decide +kernel
theorem dL_cell_9 : decode cL_cell 9 = .ok (.goto 7, 3) := by decide +kernel
theorem dL_cell_12 : decode cL_cell 12 = .ok (.bipush 37, 2) := by decide +kernel
theorem dL_cell_14 : decode cL_cell 14 = .ok (.iload_n 1, 1) := by decide +kernel
theorem dL_cell_15 : decode cL_cell 15 = .ok (.imul, 1) := by decide +kernel
theorem dL_cell_16 : decode cL_cell 16 = .ok (.ireturn, 1) := by decide +kernel
theorem dL_add_0 : decode cL_add 0 = .ok (.aload_n 1, 1) := by decide +kernel
theorem dL_add_1 : decode cL_add 1 = .ok (.aload_n 1, 1) := by decide +kernel
theorem dL_add_2 : decode cL_add 2 = .ok (.iconst 5, 1) := by decide +kernel
theorem dL_add_3 : decode cL_add 3 = .ok (.iaload, 1) := by decide +kernel
theorem dL_add_4 : decode cL_add 4 = .ok (.bipush 20, 2) := by decide +kernel
theorem dL_add_6 : decode cL_add 6 = .ok (.irem, 1) := by decide +kernel
theorem dL_add_7 : decode cL_add 7 = .ok (.iconst 4, 1) := by decide +kernel
theorem dL_add_8 : decode cL_add 8 = .ok (.idiv, 1) := by decide +kernel
theorem dL_add_9 : decode cL_add 9 = .ok (.dup2, 1) := by decide +kernel
theorem dL_add_10 : decode cL_add 10 = .ok (.iaload, 1) := by decide +kernel
theorem dL_add_11 : decode cL_add 11 = .ok (.iload_n 2, 1) := by decide +kernel
theorem dL_add_12 : decode cL_add 12 = .ok (.bipush 24, 2) := by decide +kernel
theorem dL_add_14 : decode cL_add 14 = .ok (.bipush 8, 2) := by decide +kernel
theorem dL_add_16 : decode cL_add 16 = .ok (.aload_n 1, 1) := by decide +kernel
theorem dL_add_17 : decode cL_add 17 = .ok (.iconst 5, 1) := by decide +kernel
theorem dL_add_18 : decode cL_add 18 = .ok (.iaload, 1) := by decide +kernel
theorem dL_add_19 : decode cL_add 19 = .ok (.iconst 4, 1) := by decide +kernel
theorem dL_add_20 : decode cL_add 20 = .ok (.irem, 1) := by decide +kernel
theorem dL_add_21 : decode cL_add 21 = .ok (.imul, 1) := by decide +kernel
theorem dL_add_22 : decode cL_add 22 = .ok (.isub, 1) := by decide +kernel
theorem dL_add_23 : decode cL_add 23 = .ok (.ishl, 1) := by decide +kernel
theorem dL_add_24 : decode cL_add 24 = .ok (.ior, 1) := by decide +kernel
theorem dL_add_25 : decode cL_add 25 = .ok (.iastore, 1) := by decide +kernel
theorem dL_add_26 : decode cL_add 26 = .ok (.aload_n 1, 1) := by decide +kernel
theorem dL_add_27 : decode cL_add 27 = .ok (.iconst 5, 1) := by decide +kernel
theorem dL_add_28 : decode cL_add 28 = .ok (.dup2, 1) := by decide +kernel
theorem dL_add_29 : decode cL_add 29 = .ok (.iaload, 1) := by decide +kernel
theorem dL_add_30 : decode cL_add 30 = .ok (.iconst 1, 1) := by decide +kernel
theorem dL_add_31 : decode cL_add 31 = .ok (.iadd, 1) := by decide +kernel
theorem dL_add_32 : decode cL_add 32 = .ok (.iastore, 1) := by decide +kernel
theorem dL_add_33 : decode cL_add 33 = .ok (.aload_n 1, 1) := by decide +kernel
theorem dL_add_34 : decode cL_add 34 = .ok (.iconst 5, 1) := by decide +kernel
theorem dL_add_35 : decode cL_add 35 = .ok (.iaload, 1) := by decide +kernel
theorem dL_add_36 : decode cL_add 36 = .ok (.bipush 20, 2) := by decide +kernel
theorem dL_add_38 : decode cL_add 38 = .ok (.irem, 1) := by decide +kernel
theorem dL_add_39 : decode cL_add 39 = .ok (.ifCond .eq 4, 3) := by decide +kernel
theorem dL_add_42 : decode cL_add 42 = .ok (.return_, 1) := by decide +kernel
theorem dL_add_43 : decode cL_add 43 = .ok (.aload_n 0, 1) := by decide +kernel
theorem dL_add_44 : decode cL_add 44 = .ok (.aload_n 1, 1) := by decide +kernel
theorem dL_add_45 : decode cL_add 45 = .ok (.iconst 0, 1) := by decide +kernel
theorem dL_add_46 : decode cL_add 46 = .ok (.iaload, 1) := by decide +kernel
theorem dL_add_47 : decode cL_add 47 = .ok (.aload_n 1, 1) := by decide +kernel
theorem dL_add_48 : decode cL_add 48 = .ok (.iconst 1, 1) := by decide +kernel
theorem dL_add_49 : decode cL_add 49 = .ok (.iaload, 1) := by decide +kernel
theorem dL_add_50 : decode cL_add 50 = .ok (.aload_n 1, 1) := by decide +kernel
theorem dL_add_51 : decode cL_add 51 = .ok (.iconst 2, 1) := by decide +kernel
theorem dL_add_52 : decode cL_add 52 = .ok (.iaload, 1) := by decide +kernel
theorem dL_add_53 : decode cL_add 53 = .ok (.aload_n 1, 1) := by decide +kernel
theorem dL_add_54 : decode cL_add 54 = .ok (.iconst 3, 1) := by decide +kernel
theorem dL_add_55 : decode cL_add 55 = .ok (.iaload, 1) := by decide +kernel
theorem dL_add_56 : decode cL_add 56 = .ok (.aload_n 1, 1) := by decide +kernel
theorem dL_add_57 : decode cL_add 57 = .ok (.iconst 4, 1) := by decide +kernel
theorem dL_add_58 : decode cL_add 58 = .ok (.iaload, 1) := by decide +kernel
theorem dL_add_59 : decode cL_add 59 = .ok (.invokevirtual 8, 3) := by decide +kernel
theorem dL_add_62 : decode cL_add 62 = .ok (.pop, 1) := by decide +kernel
theorem dL_add_63 : decode cL_add 63 = .ok (.iconst 0, 1) := by decide +kernel
theorem dL_add_64 : decode cL_add 64 = .ok (.istore_n 3, 1) := by decide +kernel
theorem dL_add_65 : decode cL_add 65 = .ok (.iload_n 3, 1) := by decide +kernel
theorem dL_add_66 : decode cL_add 66 = .ok (.iconst 5, 1) := by decide +kernel
theorem dL_add_67 : decode cL_add 67 = .ok (.if_icmp .ge 13, 3) := by decide +kernel
theorem dL_add_70 : decode cL_add 70 = .ok (.aload_n 1, 1) := by decide +kernel
theorem dL_add_71 : decode cL_add 71 = .ok (.iload_n 3, 1) := by decide +kernel
theorem dL_add_72 : decode cL_add 72 = .ok (.iconst 0, 1) := by decide +kernel
theorem dL_add_73 : decode cL_add 73 = .ok (.iastore, 1) := by decide +kernel
theorem dL_add_74 : decode cL_add 74 = .ok (.iinc 3 1, 3) := by decide +kernel
theorem dL_add_77 : decode cL_add 77 = .ok (.goto (-12), 3) := by decide +kernel
theorem dL_add_80 : decode cL_add 80 = .ok (.return_, 1) := by decide +kernel
theorem dL_number_0 : decode cL_number 0 = .ok (.iconst 1, 1) := by decide +kernel
theorem dL_number_1 : decode cL_number 1 = .ok (.istore_n 3, 1) := by decide +kernel
theorem dL_number_2 : decode cL_number 2 = .ok (.iload_n 3, 1) := by decide +kernel
theorem dL_number_3 : decode cL_number 3 = .ok (.iload_n 2, 1) := by decide +kernel
theorem dL_number_4 : decode cL_number 4 = .ok (.bipush 10, 2) := by decide +kernel
theorem dL_number_6 : decode cL_number 6 = .ok (.idiv, 1) := by decide +kernel
theorem dL_number_7 : decode cL_number 7 = .ok (.if_icmp .gt 11, 3) := by decide +kernel
theorem dL_number_10 : decode cL_number 10 = .ok (.iload_n 3, 1) := by decide +kernel
theorem dL_number_11 : decode cL_number 11 = .ok (.bipush 10, 2) := by decide +kernel
theorem dL_number_13 : decode cL_number 13 = .ok (.imul, 1) := by decide +kernel
theorem dL_number_14 : decode cL_number 14 = .ok (.istore_n 3, 1) := by decide +kernel
theorem dL_number_15 : decode cL_number 15 = .ok (.goto (-13), 3) := by decide +kernel
theorem dL_number_18 : decode cL_number 18 = .ok (.iload_n 3, 1) := by decide +kernel
theorem dL_number_19 : decode cL_number 19 = .ok (.ifCond .le 25, 3) := by decide +kernel
theorem dL_number_22 : decode cL_number 22 = .ok (.aload_n 0, 1) := by decide +kernel
theorem dL_number_23 : decode cL_number 23 = .ok (.aload_n 1, 1) := by decide +kernel
theorem dL_number_24 : decode cL_number 24 = .ok (.bipush 48, 2) := by decide +kernel
theorem dL_number_26 : decode cL_number 26 = .ok (.iload_n 2, 1) := by decide +kernel
theorem dL_number_27 : decode cL_number 27 = .ok (.iload_n 3, 1) := by decide +kernel
theorem dL_number_28 : decode cL_number 28 = .ok (.idiv, 1) := by decide +kernel
theorem dL_number_29 : decode cL_number 29 = .ok (.bipush 10, 2) := by decide +kernel
theorem dL_number_31 : decode cL_number 31 = .ok (.irem, 1) := by decide +kernel
theorem dL_number_32 : decode cL_number 32 = .ok (.iadd, 1) := by decide +kernel
theorem dL_number_33 : decode cL_number 33 = .ok (.invokestatic 14, 3) := by decide +kernel
theorem dL_number_36 : decode cL_number 36 = .ok (.iload_n 3, 1) := by decide +kernel
theorem dL_number_37 : decode cL_number 37 = .ok (.bipush 10, 2) := by decide +kernel
theorem dL_number_39 : decode cL_number 39 = .ok (.idiv, 1) := by decide +kernel
theorem dL_number_40 : decode cL_number 40 = .ok (.istore_n 3, 1) := by decide +kernel
theorem dL_number_41 : decode cL_number 41 = .ok (.goto (-23), 3) := by decide +kernel
theorem dL_number_44 : decode cL_number 44 = .ok (.return_, 1) := by decide +kernel
theorem dL_end_0 : decode cL_end 0 = .ok (.aload_n 1, 1) := by decide +kernel
theorem dL_end_1 : decode cL_end 1 = .ok (.iconst 5, 1) := by decide +kernel
theorem dL_end_2 : decode cL_end 2 = .ok (.iaload, 1) := by decide +kernel
theorem dL_end_3 : decode cL_end 3 = .ok (.istore_n 2, 1) := by decide +kernel
theorem dL_end_4 : decode cL_end 4 = .ok (.aload_n 1, 1) := by decide +kernel
theorem dL_end_5 : decode cL_end 5 = .ok (.iconst 5, 1) := by decide +kernel
theorem dL_end_6 : decode cL_end 6 = .ok (.iaload, 1) := by decide +kernel
theorem dL_end_7 : decode cL_end 7 = .ok (.bipush 20, 2) := by decide +kernel
theorem dL_end_9 : decode cL_end 9 = .ok (.irem, 1) := by decide +kernel
theorem dL_end_10 : decode cL_end 10 = .ok (.ifCond .eq 13, 3) := by decide +kernel
theorem dL_end_13 : decode cL_end 13 = .ok (.aload_n 0, 1) := by decide +kernel
theorem dL_end_14 : decode cL_end 14 = .ok (.aload_n 1, 1) := by decide +kernel
theorem dL_end_15 : decode cL_end 15 = .ok (.bipush 32, 2) := by decide +kernel
theorem dL_end_17 : decode cL_end 17 = .ok (.invokestatic 14, 3) := by decide +kernel
theorem dL_end_20 : decode cL_end 20 = .ok (.goto (-16), 3) := by decide +kernel
theorem dL_end_23 : decode cL_end 23 = .ok (.aload_n 1, 1) := by decide +kernel
theorem dL_end_24 : decode cL_end 24 = .ok (.iconst 5, 1) := by decide +kernel
theorem dL_end_25 : decode cL_end 25 = .ok (.iconst 0, 1) := by decide +kernel
theorem dL_end_26 : decode cL_end 26 = .ok (.iastore, 1) := by decide +kernel
theorem dL_end_27 : decode cL_end 27 = .ok (.iload_n 2, 1) := by decide +kernel
theorem dL_end_28 : decode cL_end 28 = .ok (.ireturn, 1) := by decide +kernel
theorem dL_drawn_0 : decode cL_drawn 0 = .ok (.new 20, 3) := by decide +kernel
theorem dL_drawn_3 : decode cL_drawn 3 = .ok (.dup, 1) := by decide +kernel
theorem dL_drawn_4 : decode cL_drawn 4 = .ok (.invokespecial 22, 3) := by decide +kernel
theorem dL_drawn_7 : decode cL_drawn 7 = .ok (.astore_n 2, 1) := by decide +kernel
theorem dL_drawn_8 : decode cL_drawn 8 = .ok (.aload_n 0, 1) := by decide +kernel
theorem dL_drawn_9 : decode cL_drawn 9 = .ok (.iload_n 1, 1) := by decide +kernel
theorem dL_drawn_10 : decode cL_drawn 10 = .ok (.invokestatic 23, 3) := by decide +kernel
theorem dL_drawn_13 : decode cL_drawn 13 = .ok (.istore_n 3, 1) := by decide +kernel
theorem dL_drawn_14 : decode cL_drawn 14 = .ok (.aload_n 2, 1) := by decide +kernel
theorem dL_drawn_15 : decode cL_drawn 15 = .ok (.iload_n 3, 1) := by decide +kernel
theorem dL_drawn_16 : decode cL_drawn 16 = .ok (.sipush 7201, 3) := by decide +kernel
theorem dL_drawn_19 : decode cL_drawn 19 = .ok (.invokestatic 27, 3) := by decide +kernel
theorem dL_drawn_22 : decode cL_drawn 22 = .ok (.sipush 3600, 3) := by decide +kernel
theorem dL_drawn_25 : decode cL_drawn 25 = .ok (.isub, 1) := by decide +kernel
theorem dL_drawn_26 : decode cL_drawn 26 = .ok (.putfield 31, 3) := by decide +kernel
theorem dL_drawn_29 : decode cL_drawn 29 = .ok (.aload_n 2, 1) := by decide +kernel
theorem dL_drawn_30 : decode cL_drawn 30 = .ok (.iload_n 3, 1) := by decide +kernel
theorem dL_drawn_31 : decode cL_drawn 31 = .ok (.iconst 5, 1) := by decide +kernel
theorem dL_drawn_32 : decode cL_drawn 32 = .ok (.ishr, 1) := by decide +kernel
theorem dL_drawn_33 : decode cL_drawn 33 = .ok (.sipush 21599, 3) := by decide +kernel
theorem dL_drawn_36 : decode cL_drawn 36 = .ok (.invokestatic 27, 3) := by decide +kernel
theorem dL_drawn_39 : decode cL_drawn 39 = .ok (.sipush 10799, 3) := by decide +kernel
theorem dL_drawn_42 : decode cL_drawn 42 = .ok (.isub, 1) := by decide +kernel
theorem dL_drawn_43 : decode cL_drawn 43 = .ok (.putfield 35, 3) := by decide +kernel
theorem dL_drawn_46 : decode cL_drawn 46 = .ok (.aload_n 2, 1) := by decide +kernel
theorem dL_drawn_47 : decode cL_drawn 47 = .ok (.iload_n 3, 1) := by decide +kernel
theorem dL_drawn_48 : decode cL_drawn 48 = .ok (.bipush 7, 2) := by decide +kernel
theorem dL_drawn_50 : decode cL_drawn 50 = .ok (.ishr, 1) := by decide +kernel
theorem dL_drawn_51 : decode cL_drawn 51 = .ok (.bipush 51, 2) := by decide +kernel
theorem dL_drawn_53 : decode cL_drawn 53 = .ok (.invokestatic 27, 3) := by decide +kernel
theorem dL_drawn_56 : decode cL_drawn 56 = .ok (.putfield 38, 3) := by decide +kernel
theorem dL_drawn_59 : decode cL_drawn 59 = .ok (.aload_n 2, 1) := by decide +kernel
theorem dL_drawn_60 : decode cL_drawn 60 = .ok (.iload_n 3, 1) := by decide +kernel
theorem dL_drawn_61 : decode cL_drawn 61 = .ok (.bipush 9, 2) := by decide +kernel
theorem dL_drawn_63 : decode cL_drawn 63 = .ok (.ishr, 1) := by decide +kernel
theorem dL_drawn_64 : decode cL_drawn 64 = .ok (.bipush 121, 2) := by decide +kernel
theorem dL_drawn_66 : decode cL_drawn 66 = .ok (.invokestatic 27, 3) := by decide +kernel
theorem dL_drawn_69 : decode cL_drawn 69 = .ok (.bipush 60, 2) := by decide +kernel
theorem dL_drawn_71 : decode cL_drawn 71 = .ok (.isub, 1) := by decide +kernel
theorem dL_drawn_72 : decode cL_drawn 72 = .ok (.putfield 41, 3) := by decide +kernel
theorem dL_drawn_75 : decode cL_drawn 75 = .ok (.iload_n 3, 1) := by decide +kernel
theorem dL_drawn_76 : decode cL_drawn 76 = .ok (.bipush 11, 2) := by decide +kernel
theorem dL_drawn_78 : decode cL_drawn 78 = .ok (.ishr, 1) := by decide +kernel
theorem dL_drawn_79 : decode cL_drawn 79 = .ok (.iconst 2, 1) := by decide +kernel
theorem dL_drawn_80 : decode cL_drawn 80 = .ok (.invokestatic 27, 3) := by decide +kernel
theorem dL_drawn_83 : decode cL_drawn 83 = .ok (.ifCond .ne 29, 3) := by decide +kernel
theorem dL_drawn_86 : decode cL_drawn 86 = .ok (.aload_n 2, 1) := by decide +kernel
theorem dL_drawn_87 : decode cL_drawn 87 = .ok (.iload_n 3, 1) := by decide +kernel
theorem dL_drawn_88 : decode cL_drawn 88 = .ok (.iconst 4, 1) := by decide +kernel
theorem dL_drawn_89 : decode cL_drawn 89 = .ok (.ishr, 1) := by decide +kernel
theorem dL_drawn_90 : decode cL_drawn 90 = .ok (.sipush 21600, 3) := by decide +kernel
theorem dL_drawn_93 : decode cL_drawn 93 = .ok (.invokestatic 27, 3) := by decide +kernel
theorem dL_drawn_96 : decode cL_drawn 96 = .ok (.putfield 44, 3) := by decide +kernel
theorem dL_drawn_99 : decode cL_drawn 99 = .ok (.aload_n 2, 1) := by decide +kernel
theorem dL_drawn_100 : decode cL_drawn 100 = .ok (.iload_n 3, 1) := by decide +kernel
theorem dL_drawn_101 : decode cL_drawn 101 = .ok (.bipush 13, 2) := by decide +kernel
theorem dL_drawn_103 : decode cL_drawn 103 = .ok (.ishr, 1) := by decide +kernel
theorem dL_drawn_104 : decode cL_drawn 104 = .ok (.bipush 101, 2) := by decide +kernel
theorem dL_drawn_106 : decode cL_drawn 106 = .ok (.invokestatic 27, 3) := by decide +kernel
theorem dL_drawn_109 : decode cL_drawn 109 = .ok (.putfield 47, 3) := by decide +kernel
theorem dL_drawn_112 : decode cL_drawn 112 = .ok (.aload_n 2, 1) := by decide +kernel
theorem dL_drawn_113 : decode cL_drawn 113 = .ok (.iconst 1, 1) := by decide +kernel
theorem dL_drawn_114 : decode cL_drawn 114 = .ok (.iload_n 3, 1) := by decide +kernel
theorem dL_drawn_115 : decode cL_drawn 115 = .ok (.bipush 6, 2) := by decide +kernel
theorem dL_drawn_117 : decode cL_drawn 117 = .ok (.ishr, 1) := by decide +kernel
theorem dL_drawn_118 : decode cL_drawn 118 = .ok (.bipush 6, 2) := by decide +kernel
theorem dL_drawn_120 : decode cL_drawn 120 = .ok (.invokestatic 27, 3) := by decide +kernel
theorem dL_drawn_123 : decode cL_drawn 123 = .ok (.iadd, 1) := by decide +kernel
theorem dL_drawn_124 : decode cL_drawn 124 = .ok (.putfield 50, 3) := by decide +kernel
theorem dL_drawn_127 : decode cL_drawn 127 = .ok (.iconst 0, 1) := by decide +kernel
theorem dL_drawn_128 : decode cL_drawn 128 = .ok (.istore 4, 2) := by decide +kernel
theorem dL_drawn_130 : decode cL_drawn 130 = .ok (.iload 4, 2) := by decide +kernel
theorem dL_drawn_132 : decode cL_drawn 132 = .ok (.aload_n 2, 1) := by decide +kernel
theorem dL_drawn_133 : decode cL_drawn 133 = .ok (.getfield 50, 3) := by decide +kernel
theorem dL_drawn_136 : decode cL_drawn 136 = .ok (.if_icmp .ge 73, 3) := by decide +kernel
theorem dL_drawn_139 : decode cL_drawn 139 = .ok (.aload_n 0, 1) := by decide +kernel
theorem dL_drawn_140 : decode cL_drawn 140 = .ok (.iload_n 1, 1) := by decide +kernel
theorem dL_drawn_141 : decode cL_drawn 141 = .ok (.iconst 1, 1) := by decide +kernel
theorem dL_drawn_142 : decode cL_drawn 142 = .ok (.iadd, 1) := by decide +kernel
theorem dL_drawn_143 : decode cL_drawn 143 = .ok (.iload 4, 2) := by decide +kernel
theorem dL_drawn_145 : decode cL_drawn 145 = .ok (.iadd, 1) := by decide +kernel
theorem dL_drawn_146 : decode cL_drawn 146 = .ok (.invokestatic 23, 3) := by decide +kernel
theorem dL_drawn_149 : decode cL_drawn 149 = .ok (.istore 5, 2) := by decide +kernel
theorem dL_drawn_151 : decode cL_drawn 151 = .ok (.aload_n 2, 1) := by decide +kernel
theorem dL_drawn_152 : decode cL_drawn 152 = .ok (.getfield 53, 3) := by decide +kernel
theorem dL_drawn_155 : decode cL_drawn 155 = .ok (.iload 4, 2) := by decide +kernel
theorem dL_drawn_157 : decode cL_drawn 157 = .ok (.iconst 3, 1) := by decide +kernel
theorem dL_drawn_158 : decode cL_drawn 158 = .ok (.newarray .int, 2) := by decide +kernel
theorem dL_drawn_160 : decode cL_drawn 160 = .ok (.dup, 1) := by decide +kernel
theorem dL_drawn_161 : decode cL_drawn 161 = .ok (.iconst 0, 1) := by decide +kernel
theorem dL_drawn_162 : decode cL_drawn 162 = .ok (.iload 5, 2) := by decide +kernel
theorem dL_drawn_164 : decode cL_drawn 164 = .ok (.sipush 7201, 3) := by decide +kernel
theorem dL_drawn_167 : decode cL_drawn 167 = .ok (.invokestatic 27, 3) := by decide +kernel
theorem dL_drawn_170 : decode cL_drawn 170 = .ok (.sipush 3600, 3) := by decide +kernel
theorem dL_drawn_173 : decode cL_drawn 173 = .ok (.isub, 1) := by decide +kernel
theorem dL_drawn_174 : decode cL_drawn 174 = .ok (.iastore, 1) := by decide +kernel
theorem dL_drawn_175 : decode cL_drawn 175 = .ok (.dup, 1) := by decide +kernel
theorem dL_drawn_176 : decode cL_drawn 176 = .ok (.iconst 1, 1) := by decide +kernel
theorem dL_drawn_177 : decode cL_drawn 177 = .ok (.iload 5, 2) := by decide +kernel
theorem dL_drawn_179 : decode cL_drawn 179 = .ok (.iconst 4, 1) := by decide +kernel
theorem dL_drawn_180 : decode cL_drawn 180 = .ok (.ishr, 1) := by decide +kernel
theorem dL_drawn_181 : decode cL_drawn 181 = .ok (.sipush 21600, 3) := by decide +kernel
theorem dL_drawn_184 : decode cL_drawn 184 = .ok (.invokestatic 27, 3) := by decide +kernel
theorem dL_drawn_187 : decode cL_drawn 187 = .ok (.iastore, 1) := by decide +kernel
theorem dL_drawn_188 : decode cL_drawn 188 = .ok (.dup, 1) := by decide +kernel
theorem dL_drawn_189 : decode cL_drawn 189 = .ok (.iconst 2, 1) := by decide +kernel
theorem dL_drawn_190 : decode cL_drawn 190 = .ok (.iconst 1, 1) := by decide +kernel
theorem dL_drawn_191 : decode cL_drawn 191 = .ok (.iload 5, 2) := by decide +kernel
theorem dL_drawn_193 : decode cL_drawn 193 = .ok (.iconst 2, 1) := by decide +kernel
theorem dL_drawn_194 : decode cL_drawn 194 = .ok (.ishr, 1) := by decide +kernel
theorem dL_drawn_195 : decode cL_drawn 195 = .ok (.bipush 7, 2) := by decide +kernel
theorem dL_drawn_197 : decode cL_drawn 197 = .ok (.invokestatic 27, 3) := by decide +kernel
theorem dL_drawn_200 : decode cL_drawn 200 = .ok (.iadd, 1) := by decide +kernel
theorem dL_drawn_201 : decode cL_drawn 201 = .ok (.iastore, 1) := by decide +kernel
theorem dL_drawn_202 : decode cL_drawn 202 = .ok (.aastore, 1) := by decide +kernel
theorem dL_drawn_203 : decode cL_drawn 203 = .ok (.iinc 4 1, 3) := by decide +kernel
theorem dL_drawn_206 : decode cL_drawn 206 = .ok (.goto (-76), 3) := by decide +kernel
theorem dL_drawn_209 : decode cL_drawn 209 = .ok (.aload_n 2, 1) := by decide +kernel
theorem dL_drawn_210 : decode cL_drawn 210 = .ok (.iload_n 3, 1) := by decide +kernel
theorem dL_drawn_211 : decode cL_drawn 211 = .ok (.bipush 8, 2) := by decide +kernel
theorem dL_drawn_213 : decode cL_drawn 213 = .ok (.ishr, 1) := by decide +kernel
theorem dL_drawn_214 : decode cL_drawn 214 = .ok (.iconst 5, 1) := by decide +kernel
theorem dL_drawn_215 : decode cL_drawn 215 = .ok (.invokestatic 27, 3) := by decide +kernel
theorem dL_drawn_218 : decode cL_drawn 218 = .ok (.putfield 57, 3) := by decide +kernel
theorem dL_drawn_221 : decode cL_drawn 221 = .ok (.iconst 0, 1) := by decide +kernel
theorem dL_drawn_222 : decode cL_drawn 222 = .ok (.istore 4, 2) := by decide +kernel
theorem dL_drawn_224 : decode cL_drawn 224 = .ok (.iconst 0, 1) := by decide +kernel
theorem dL_drawn_225 : decode cL_drawn 225 = .ok (.istore 5, 2) := by decide +kernel
theorem dL_drawn_227 : decode cL_drawn 227 = .ok (.iload 5, 2) := by decide +kernel
theorem dL_drawn_229 : decode cL_drawn 229 = .ok (.aload_n 2, 1) := by decide +kernel
theorem dL_drawn_230 : decode cL_drawn 230 = .ok (.getfield 57, 3) := by decide +kernel
theorem dL_drawn_233 : decode cL_drawn 233 = .ok (.if_icmp .ge 87, 3) := by decide +kernel
theorem dL_drawn_236 : decode cL_drawn 236 = .ok (.aload_n 0, 1) := by decide +kernel
theorem dL_drawn_237 : decode cL_drawn 237 = .ok (.iload_n 1, 1) := by decide +kernel
theorem dL_drawn_238 : decode cL_drawn 238 = .ok (.bipush 7, 2) := by decide +kernel
theorem dL_drawn_240 : decode cL_drawn 240 = .ok (.iadd, 1) := by decide +kernel
theorem dL_drawn_241 : decode cL_drawn 241 = .ok (.iload 5, 2) := by decide +kernel
theorem dL_drawn_243 : decode cL_drawn 243 = .ok (.iadd, 1) := by decide +kernel
theorem dL_drawn_244 : decode cL_drawn 244 = .ok (.invokestatic 23, 3) := by decide +kernel
theorem dL_drawn_247 : decode cL_drawn 247 = .ok (.istore 6, 2) := by decide +kernel
theorem dL_drawn_249 : decode cL_drawn 249 = .ok (.iload 4, 2) := by decide +kernel
theorem dL_drawn_251 : decode cL_drawn 251 = .ok (.iload 6, 2) := by decide +kernel
theorem dL_drawn_253 : decode cL_drawn 253 = .ok (.sipush 300, 3) := by decide +kernel
theorem dL_drawn_256 : decode cL_drawn 256 = .ok (.invokestatic 27, 3) := by decide +kernel
theorem dL_drawn_259 : decode cL_drawn 259 = .ok (.iload 5, 2) := by decide +kernel
theorem dL_drawn_261 : decode cL_drawn 261 = .ok (.ifCond .le 7, 3) := by decide +kernel
theorem dL_drawn_264 : decode cL_drawn 264 = .ok (.iconst 1, 1) := by decide +kernel
theorem dL_drawn_265 : decode cL_drawn 265 = .ok (.goto 4, 3) := by decide +kernel
theorem dL_drawn_268 : decode cL_drawn 268 = .ok (.iconst 0, 1) := by decide +kernel
theorem dL_drawn_269 : decode cL_drawn 269 = .ok (.iadd, 1) := by decide +kernel
theorem dL_drawn_270 : decode cL_drawn 270 = .ok (.iadd, 1) := by decide +kernel
theorem dL_drawn_271 : decode cL_drawn 271 = .ok (.istore 4, 2) := by decide +kernel
theorem dL_drawn_273 : decode cL_drawn 273 = .ok (.aload_n 2, 1) := by decide +kernel
theorem dL_drawn_274 : decode cL_drawn 274 = .ok (.getfield 60, 3) := by decide +kernel
theorem dL_drawn_277 : decode cL_drawn 277 = .ok (.iload 5, 2) := by decide +kernel
theorem dL_drawn_279 : decode cL_drawn 279 = .ok (.iconst 3, 1) := by decide +kernel
theorem dL_drawn_280 : decode cL_drawn 280 = .ok (.newarray .int, 2) := by decide +kernel
theorem dL_drawn_282 : decode cL_drawn 282 = .ok (.dup, 1) := by decide +kernel
theorem dL_drawn_283 : decode cL_drawn 283 = .ok (.iconst 0, 1) := by decide +kernel
theorem dL_drawn_284 : decode cL_drawn 284 = .ok (.iload 4, 2) := by decide +kernel
theorem dL_drawn_286 : decode cL_drawn 286 = .ok (.iastore, 1) := by decide +kernel
theorem dL_drawn_287 : decode cL_drawn 287 = .ok (.dup, 1) := by decide +kernel
theorem dL_drawn_288 : decode cL_drawn 288 = .ok (.iconst 1, 1) := by decide +kernel
theorem dL_drawn_289 : decode cL_drawn 289 = .ok (.iload 6, 2) := by decide +kernel
theorem dL_drawn_291 : decode cL_drawn 291 = .ok (.iconst 3, 1) := by decide +kernel
theorem dL_drawn_292 : decode cL_drawn 292 = .ok (.ishr, 1) := by decide +kernel
theorem dL_drawn_293 : decode cL_drawn 293 = .ok (.sipush 21600, 3) := by decide +kernel
theorem dL_drawn_296 : decode cL_drawn 296 = .ok (.invokestatic 27, 3) := by decide +kernel
theorem dL_drawn_299 : decode cL_drawn 299 = .ok (.iastore, 1) := by decide +kernel
theorem dL_drawn_300 : decode cL_drawn 300 = .ok (.dup, 1) := by decide +kernel
theorem dL_drawn_301 : decode cL_drawn 301 = .ok (.iconst 2, 1) := by decide +kernel
theorem dL_drawn_302 : decode cL_drawn 302 = .ok (.iload 6, 2) := by decide +kernel
theorem dL_drawn_304 : decode cL_drawn 304 = .ok (.iconst 5, 1) := by decide +kernel
theorem dL_drawn_305 : decode cL_drawn 305 = .ok (.ishr, 1) := by decide +kernel
theorem dL_drawn_306 : decode cL_drawn 306 = .ok (.sipush 401, 3) := by decide +kernel
theorem dL_drawn_309 : decode cL_drawn 309 = .ok (.invokestatic 27, 3) := by decide +kernel
theorem dL_drawn_312 : decode cL_drawn 312 = .ok (.iastore, 1) := by decide +kernel
theorem dL_drawn_313 : decode cL_drawn 313 = .ok (.aastore, 1) := by decide +kernel
theorem dL_drawn_314 : decode cL_drawn 314 = .ok (.iinc 5 1, 3) := by decide +kernel
theorem dL_drawn_317 : decode cL_drawn 317 = .ok (.goto (-90), 3) := by decide +kernel
theorem dL_drawn_320 : decode cL_drawn 320 = .ok (.aload_n 2, 1) := by decide +kernel
theorem dL_drawn_321 : decode cL_drawn 321 = .ok (.iload_n 3, 1) := by decide +kernel
theorem dL_drawn_322 : decode cL_drawn 322 = .ok (.bipush 10, 2) := by decide +kernel
theorem dL_drawn_324 : decode cL_drawn 324 = .ok (.ishr, 1) := by decide +kernel
theorem dL_drawn_325 : decode cL_drawn 325 = .ok (.bipush 6, 2) := by decide +kernel
theorem dL_drawn_327 : decode cL_drawn 327 = .ok (.invokestatic 27, 3) := by decide +kernel
theorem dL_drawn_330 : decode cL_drawn 330 = .ok (.putfield 63, 3) := by decide +kernel
theorem dL_drawn_333 : decode cL_drawn 333 = .ok (.iconst 0, 1) := by decide +kernel
theorem dL_drawn_334 : decode cL_drawn 334 = .ok (.istore 5, 2) := by decide +kernel
theorem dL_drawn_336 : decode cL_drawn 336 = .ok (.iload 5, 2) := by decide +kernel
theorem dL_drawn_338 : decode cL_drawn 338 = .ok (.aload_n 2, 1) := by decide +kernel
theorem dL_drawn_339 : decode cL_drawn 339 = .ok (.getfield 63, 3) := by decide +kernel
theorem dL_drawn_342 : decode cL_drawn 342 = .ok (.if_icmp .ge 40, 3) := by decide +kernel
theorem dL_drawn_345 : decode cL_drawn 345 = .ok (.aload_n 2, 1) := by decide +kernel
theorem dL_drawn_346 : decode cL_drawn 346 = .ok (.getfield 66, 3) := by decide +kernel
theorem dL_drawn_349 : decode cL_drawn 349 = .ok (.iload 5, 2) := by decide +kernel
theorem dL_drawn_351 : decode cL_drawn 351 = .ok (.aload_n 2, 1) := by decide +kernel
theorem dL_drawn_352 : decode cL_drawn 352 = .ok (.aload_n 0, 1) := by decide +kernel
theorem dL_drawn_353 : decode cL_drawn 353 = .ok (.iload_n 1, 1) := by decide +kernel
theorem dL_drawn_354 : decode cL_drawn 354 = .ok (.bipush 11, 2) := by decide +kernel
theorem dL_drawn_356 : decode cL_drawn 356 = .ok (.iadd, 1) := by decide +kernel
theorem dL_drawn_357 : decode cL_drawn 357 = .ok (.iload 5, 2) := by decide +kernel
theorem dL_drawn_359 : decode cL_drawn 359 = .ok (.iconst 3, 1) := by decide +kernel
theorem dL_drawn_360 : decode cL_drawn 360 = .ok (.irem, 1) := by decide +kernel
theorem dL_drawn_361 : decode cL_drawn 361 = .ok (.iadd, 1) := by decide +kernel
theorem dL_drawn_362 : decode cL_drawn 362 = .ok (.invokestatic 23, 3) := by decide +kernel
theorem dL_drawn_365 : decode cL_drawn 365 = .ok (.iload 5, 2) := by decide +kernel
theorem dL_drawn_367 : decode cL_drawn 367 = .ok (.iconst 3, 1) := by decide +kernel
