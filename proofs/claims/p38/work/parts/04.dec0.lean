theorem dX0_init_0 : decode cX0_init 0 = .ok (.aload_n 0, 1) := by decide +kernel
theorem dX0_init_1 : decode cX0_init 1 = .ok (.invokespecial 3, 3) := by decide +kernel
theorem dX0_init_4 : decode cX0_init 4 = .ok (.aload_n 0, 1) := by decide +kernel
theorem dX0_init_5 : decode cX0_init 5 = .ok (.bipush 12, 2) := by decide +kernel
theorem dX0_init_7 : decode cX0_init 7 = .ok (.anewarray 9, 3) := by decide +kernel
theorem dX0_init_10 : decode cX0_init 10 = .ok (.putfield 11, 3) := by decide +kernel
theorem dX0_init_13 : decode cX0_init 13 = .ok (.aload_n 0, 1) := by decide +kernel
theorem dX0_init_14 : decode cX0_init 14 = .ok (.new 9, 3) := by decide +kernel
theorem dX0_init_17 : decode cX0_init 17 = .ok (.dup, 1) := by decide +kernel
theorem dX0_init_18 : decode cX0_init 18 = .ok (.invokespecial 17, 3) := by decide +kernel
theorem dX0_init_21 : decode cX0_init 21 = .ok (.putfield 18, 3) := by decide +kernel
theorem dX0_init_24 : decode cX0_init 24 = .ok (.aload_n 0, 1) := by decide +kernel
theorem dX0_init_25 : decode cX0_init 25 = .ok (.new 22, 3) := by decide +kernel
theorem dX0_init_28 : decode cX0_init 28 = .ok (.dup, 1) := by decide +kernel
theorem dX0_init_29 : decode cX0_init 29 = .ok (.invokespecial 24, 3) := by decide +kernel
theorem dX0_init_32 : decode cX0_init 32 = .ok (.putfield 25, 3) := by decide +kernel
theorem dX0_init_35 : decode cX0_init 35 = .ok (.aload_n 0, 1) := by decide +kernel
theorem dX0_init_36 : decode cX0_init 36 = .ok (.new 29, 3) := by decide +kernel
theorem dX0_init_39 : decode cX0_init 39 = .ok (.dup, 1) := by decide +kernel
theorem dX0_init_40 : decode cX0_init 40 = .ok (.invokespecial 31, 3) := by decide +kernel
theorem dX0_init_43 : decode cX0_init 43 = .ok (.putfield 32, 3) := by decide +kernel
theorem dX0_init_46 : decode cX0_init 46 = .ok (.aload_n 0, 1) := by decide +kernel
theorem dX0_init_47 : decode cX0_init 47 = .ok (.new 29, 3) := by decide +kernel
theorem dX0_init_50 : decode cX0_init 50 = .ok (.dup, 1) := by decide +kernel
theorem dX0_init_51 : decode cX0_init 51 = .ok (.invokespecial 31, 3) := by decide +kernel
theorem dX0_init_54 : decode cX0_init 54 = .ok (.putfield 36, 3) := by decide +kernel
theorem dX0_init_57 : decode cX0_init 57 = .ok (.aload_n 0, 1) := by decide +kernel
theorem dX0_init_58 : decode cX0_init 58 = .ok (.new 39, 3) := by decide +kernel
theorem dX0_init_61 : decode cX0_init 61 = .ok (.dup, 1) := by decide +kernel
theorem dX0_init_62 : decode cX0_init 62 = .ok (.invokespecial 41, 3) := by decide +kernel
theorem dX0_init_65 : decode cX0_init 65 = .ok (.putfield 42, 3) := by decide +kernel
theorem dX0_init_68 : decode cX0_init 68 = .ok (.iconst 0, 1) := by decide +kernel
theorem dX0_init_69 : decode cX0_init 69 = .ok (.istore_n 1, 1) := by decide +kernel
theorem dX0_init_70 : decode cX0_init 70 = .ok (.iload_n 1, 1) := by decide +kernel
theorem dX0_init_71 : decode cX0_init 71 = .ok (.aload_n 0, 1) := by decide +kernel
theorem dX0_init_72 : decode cX0_init 72 = .ok (.getfield 11, 3) := by decide +kernel
theorem dX0_init_75 : decode cX0_init 75 = .ok (.arraylength, 1) := by decide +kernel
theorem dX0_init_76 : decode cX0_init 76 = .ok (.if_icmp .ge 22, 3) := by decide +kernel
theorem dX0_init_79 : decode cX0_init 79 = .ok (.aload_n 0, 1) := by decide +kernel
theorem dX0_init_80 : decode cX0_init 80 = .ok (.getfield 11, 3) := by decide +kernel
theorem dX0_init_83 : decode cX0_init 83 = .ok (.iload_n 1, 1) := by decide +kernel
theorem dX0_init_84 : decode cX0_init 84 = .ok (.new 9, 3) := by decide +kernel
theorem dX0_init_87 : decode cX0_init 87 = .ok (.dup, 1) := by decide +kernel
theorem dX0_init_88 : decode cX0_init 88 = .ok (.invokespecial 17, 3) := by decide +kernel
theorem dX0_init_91 : decode cX0_init 91 = .ok (.aastore, 1) := by decide +kernel
theorem dX0_init_92 : decode cX0_init 92 = .ok (.iinc 1 1, 3) := by decide +kernel
theorem dX0_init_95 : decode cX0_init 95 = .ok (.goto (-25), 3) := by decide +kernel
theorem dX0_init_98 : decode cX0_init 98 = .ok (.return_, 1) := by decide +kernel
theorem dX0_lineOf_0 : decode cX0_lineOf 0 = .ok (.iload_n 1, 1) := by decide +kernel
theorem dX0_lineOf_1 : decode cX0_lineOf 1 = .ok (.ifCond .lt 12, 3) := by decide +kernel
theorem dX0_lineOf_4 : decode cX0_lineOf 4 = .ok (.iload_n 1, 1) := by decide +kernel
theorem dX0_lineOf_5 : decode cX0_lineOf 5 = .ok (.aload_n 0, 1) := by decide +kernel
theorem dX0_lineOf_6 : decode cX0_lineOf 6 = .ok (.getfield 11, 3) := by decide +kernel
theorem dX0_lineOf_9 : decode cX0_lineOf 9 = .ok (.arraylength, 1) := by decide +kernel
theorem dX0_lineOf_10 : decode cX0_lineOf 10 = .ok (.if_icmp .lt 7, 3) := by decide +kernel
theorem dX0_lineOf_13 : decode cX0_lineOf 13 = .ok (.aconst_null, 1) := by decide +kernel
theorem dX0_lineOf_14 : decode cX0_lineOf 14 = .ok (.goto 9, 3) := by decide +kernel
theorem dX0_lineOf_17 : decode cX0_lineOf 17 = .ok (.aload_n 0, 1) := by decide +kernel
theorem dX0_lineOf_18 : decode cX0_lineOf 18 = .ok (.getfield 11, 3) := by decide +kernel
theorem dX0_lineOf_21 : decode cX0_lineOf 21 = .ok (.iload_n 1, 1) := by decide +kernel
theorem dX0_lineOf_22 : decode cX0_lineOf 22 = .ok (.aaload, 1) := by decide +kernel
theorem dX0_lineOf_23 : decode cX0_lineOf 23 = .ok (.astore_n 2, 1) := by decide +kernel
theorem dX0_lineOf_24 : decode cX0_lineOf 24 = .ok (.aload_n 2, 1) := by decide +kernel
theorem dX0_lineOf_25 : decode cX0_lineOf 25 = .ok (.ifnonnull 10, 3) := by decide +kernel
theorem dX0_lineOf_28 : decode cX0_lineOf 28 = .ok (.aload_n 0, 1) := by decide +kernel
theorem dX0_lineOf_29 : decode cX0_lineOf 29 = .ok (.getfield 18, 3) := by decide +kernel
theorem dX0_lineOf_32 : decode cX0_lineOf 32 = .ok (.goto 4, 3) := by decide +kernel
theorem dX0_lineOf_35 : decode cX0_lineOf 35 = .ok (.aload_n 2, 1) := by decide +kernel
theorem dX0_lineOf_36 : decode cX0_lineOf 36 = .ok (.areturn, 1) := by decide +kernel
theorem dX0_drawLine_0 : decode cX0_drawLine 0 = .ok (.aload_n 0, 1) := by decide +kernel
theorem dX0_drawLine_1 : decode cX0_drawLine 1 = .ok (.getfield 25, 3) := by decide +kernel
theorem dX0_drawLine_4 : decode cX0_drawLine 4 = .ok (.aload_n 2, 1) := by decide +kernel
theorem dX0_drawLine_5 : decode cX0_drawLine 5 = .ok (.aload_n 2, 1) := by decide +kernel
theorem dX0_drawLine_6 : decode cX0_drawLine 6 = .ok (.getfield 46, 3) := by decide +kernel
theorem dX0_drawLine_9 : decode cX0_drawLine 9 = .ok (.iload_n 3, 1) := by decide +kernel
theorem dX0_drawLine_10 : decode cX0_drawLine 10 = .ok (.invokestatic 52, 3) := by decide +kernel
theorem dX0_drawLine_13 : decode cX0_drawLine 13 = .ok (.invokevirtual 56, 3) := by decide +kernel
theorem dX0_drawLine_16 : decode cX0_drawLine 16 = .ok (.aload_n 0, 1) := by decide +kernel
theorem dX0_drawLine_17 : decode cX0_drawLine 17 = .ok (.getfield 25, 3) := by decide +kernel
theorem dX0_drawLine_20 : decode cX0_drawLine 20 = .ok (.aload_n 1, 1) := by decide +kernel
theorem dX0_drawLine_21 : decode cX0_drawLine 21 = .ok (.invokevirtual 60, 3) := by decide +kernel
theorem dX0_drawLine_24 : decode cX0_drawLine 24 = .ok (.aload_n 0, 1) := by decide +kernel
theorem dX0_drawLine_25 : decode cX0_drawLine 25 = .ok (.iload_n 3, 1) := by decide +kernel
theorem dX0_drawLine_26 : decode cX0_drawLine 26 = .ok (.invokevirtual 64, 3) := by decide +kernel
theorem dX0_drawLine_29 : decode cX0_drawLine 29 = .ok (.astore 5, 2) := by decide +kernel
theorem dX0_drawLine_31 : decode cX0_drawLine 31 = .ok (.aload 5, 2) := by decide +kernel
theorem dX0_drawLine_33 : decode cX0_drawLine 33 = .ok (.aload_n 1, 1) := by decide +kernel
theorem dX0_drawLine_34 : decode cX0_drawLine 34 = .ok (.aload_n 2, 1) := by decide +kernel
theorem dX0_drawLine_35 : decode cX0_drawLine 35 = .ok (.iload_n 3, 1) := by decide +kernel
theorem dX0_drawLine_36 : decode cX0_drawLine 36 = .ok (.aload_n 0, 1) := by decide +kernel
theorem dX0_drawLine_37 : decode cX0_drawLine 37 = .ok (.getfield 25, 3) := by decide +kernel
theorem dX0_drawLine_40 : decode cX0_drawLine 40 = .ok (.invokevirtual 68, 3) := by decide +kernel
theorem dX0_drawLine_43 : decode cX0_drawLine 43 = .ok (.aload_n 0, 1) := by decide +kernel
theorem dX0_drawLine_44 : decode cX0_drawLine 44 = .ok (.getfield 25, 3) := by decide +kernel
theorem dX0_drawLine_47 : decode cX0_drawLine 47 = .ok (.getfield 72, 3) := by decide +kernel
theorem dX0_drawLine_50 : decode cX0_drawLine 50 = .ok (.istore 6, 2) := by decide +kernel
theorem dX0_drawLine_52 : decode cX0_drawLine 52 = .ok (.aload_n 0, 1) := by decide +kernel
theorem dX0_drawLine_53 : decode cX0_drawLine 53 = .ok (.getfield 25, 3) := by decide +kernel
theorem dX0_drawLine_56 : decode cX0_drawLine 56 = .ok (.getfield 76, 3) := by decide +kernel
theorem dX0_drawLine_59 : decode cX0_drawLine 59 = .ok (.istore 7, 2) := by decide +kernel
theorem dX0_drawLine_61 : decode cX0_drawLine 61 = .ok (.aload_n 0, 1) := by decide +kernel
theorem dX0_drawLine_62 : decode cX0_drawLine 62 = .ok (.getfield 25, 3) := by decide +kernel
theorem dX0_drawLine_65 : decode cX0_drawLine 65 = .ok (.aload_n 2, 1) := by decide +kernel
theorem dX0_drawLine_66 : decode cX0_drawLine 66 = .ok (.iload 4, 2) := by decide +kernel
theorem dX0_drawLine_68 : decode cX0_drawLine 68 = .ok (.invokevirtual 56, 3) := by decide +kernel
theorem dX0_drawLine_71 : decode cX0_drawLine 71 = .ok (.aload 5, 2) := by decide +kernel
theorem dX0_drawLine_73 : decode cX0_drawLine 73 = .ok (.aload_n 0, 1) := by decide +kernel
theorem dX0_drawLine_74 : decode cX0_drawLine 74 = .ok (.getfield 25, 3) := by decide +kernel
theorem dX0_drawLine_77 : decode cX0_drawLine 77 = .ok (.getfield 72, 3) := by decide +kernel
theorem dX0_drawLine_80 : decode cX0_drawLine 80 = .ok (.iload 6, 2) := by decide +kernel
theorem dX0_drawLine_82 : decode cX0_drawLine 82 = .ok (.isub, 1) := by decide +kernel
theorem dX0_drawLine_83 : decode cX0_drawLine 83 = .ok (.aload_n 0, 1) := by decide +kernel
theorem dX0_drawLine_84 : decode cX0_drawLine 84 = .ok (.getfield 25, 3) := by decide +kernel
theorem dX0_drawLine_87 : decode cX0_drawLine 87 = .ok (.getfield 76, 3) := by decide +kernel
theorem dX0_drawLine_90 : decode cX0_drawLine 90 = .ok (.iload 7, 2) := by decide +kernel
theorem dX0_drawLine_92 : decode cX0_drawLine 92 = .ok (.isub, 1) := by decide +kernel
theorem dX0_drawLine_93 : decode cX0_drawLine 93 = .ok (.invokevirtual 79, 3) := by decide +kernel
theorem dX0_drawLine_96 : decode cX0_drawLine 96 = .ok (.return_, 1) := by decide +kernel
theorem dX0_drawAll_0 : decode cX0_drawAll 0 = .ok (.iconst 0, 1) := by decide +kernel
theorem dX0_drawAll_1 : decode cX0_drawAll 1 = .ok (.istore 4, 2) := by decide +kernel
theorem dX0_drawAll_3 : decode cX0_drawAll 3 = .ok (.iload 4, 2) := by decide +kernel
theorem dX0_drawAll_5 : decode cX0_drawAll 5 = .ok (.aload_n 2, 1) := by decide +kernel
theorem dX0_drawAll_6 : decode cX0_drawAll 6 = .ok (.getfield 83, 3) := by decide +kernel
theorem dX0_drawAll_9 : decode cX0_drawAll 9 = .ok (.if_icmp .ge 18, 3) := by decide +kernel
theorem dX0_drawAll_12 : decode cX0_drawAll 12 = .ok (.aload_n 0, 1) := by decide +kernel
theorem dX0_drawAll_13 : decode cX0_drawAll 13 = .ok (.aload_n 1, 1) := by decide +kernel
theorem dX0_drawAll_14 : decode cX0_drawAll 14 = .ok (.aload_n 2, 1) := by decide +kernel
theorem dX0_drawAll_15 : decode cX0_drawAll 15 = .ok (.iload 4, 2) := by decide +kernel
theorem dX0_drawAll_17 : decode cX0_drawAll 17 = .ok (.iload_n 3, 1) := by decide +kernel
theorem dX0_drawAll_18 : decode cX0_drawAll 18 = .ok (.invokevirtual 86, 3) := by decide +kernel
theorem dX0_drawAll_21 : decode cX0_drawAll 21 = .ok (.iinc 4 1, 3) := by decide +kernel
theorem dX0_drawAll_24 : decode cX0_drawAll 24 = .ok (.goto (-21), 3) := by decide +kernel
theorem dX0_drawAll_27 : decode cX0_drawAll 27 = .ok (.return_, 1) := by decide +kernel
theorem dX0_findLeastHat_0 : decode cX0_findLeastHat 0 = .ok (.iconst (-1), 1) := by decide +kernel
theorem dX0_findLeastHat_1 : decode cX0_findLeastHat 1 = .ok (.istore_n 2, 1) := by decide +kernel
theorem dX0_findLeastHat_2 : decode cX0_findLeastHat 2 = .ok (.iconst 0, 1) := by decide +kernel
theorem dX0_findLeastHat_3 : decode cX0_findLeastHat 3 = .ok (.istore_n 3, 1) := by decide +kernel
theorem dX0_findLeastHat_4 : decode cX0_findLeastHat 4 = .ok (.iconst 0, 1) := by decide +kernel
theorem dX0_findLeastHat_5 : decode cX0_findLeastHat 5 = .ok (.istore 4, 2) := by decide +kernel
theorem dX0_findLeastHat_7 : decode cX0_findLeastHat 7 = .ok (.iload 4, 2) := by decide +kernel
theorem dX0_findLeastHat_9 : decode cX0_findLeastHat 9 = .ok (.iload_n 1, 1) := by decide +kernel
theorem dX0_findLeastHat_10 : decode cX0_findLeastHat 10 = .ok (.if_icmp .ge 120, 3) := by decide +kernel
theorem dX0_findLeastHat_13 : decode cX0_findLeastHat 13 = .ok (.iload 4, 2) := by decide +kernel
theorem dX0_findLeastHat_15 : decode cX0_findLeastHat 15 = .ok (.iconst 1, 1) := by decide +kernel
theorem dX0_findLeastHat_16 : decode cX0_findLeastHat 16 = .ok (.iadd, 1) := by decide +kernel
theorem dX0_findLeastHat_17 : decode cX0_findLeastHat 17 = .ok (.istore 5, 2) := by decide +kernel
theorem dX0_findLeastHat_19 : decode cX0_findLeastHat 19 = .ok (.iload 5, 2) := by decide +kernel
theorem dX0_findLeastHat_21 : decode cX0_findLeastHat 21 = .ok (.iload_n 1, 1) := by decide +kernel
theorem dX0_findLeastHat_22 : decode cX0_findLeastHat 22 = .ok (.if_icmp .ge 102, 3) := by decide +kernel
theorem dX0_findLeastHat_25 : decode cX0_findLeastHat 25 = .ok (.iload 5, 2) := by decide +kernel
theorem dX0_findLeastHat_27 : decode cX0_findLeastHat 27 = .ok (.iconst 1, 1) := by decide +kernel
theorem dX0_findLeastHat_28 : decode cX0_findLeastHat 28 = .ok (.iadd, 1) := by decide +kernel
theorem dX0_findLeastHat_29 : decode cX0_findLeastHat 29 = .ok (.istore 6, 2) := by decide +kernel
theorem dX0_findLeastHat_31 : decode cX0_findLeastHat 31 = .ok (.iload 6, 2) := by decide +kernel
theorem dX0_findLeastHat_33 : decode cX0_findLeastHat 33 = .ok (.iload_n 1, 1) := by decide +kernel
theorem dX0_findLeastHat_34 : decode cX0_findLeastHat 34 = .ok (.if_icmp .ge 84, 3) := by decide +kernel
theorem dX0_findLeastHat_37 : decode cX0_findLeastHat 37 = .ok (.aload_n 0, 1) := by decide +kernel
theorem dX0_findLeastHat_38 : decode cX0_findLeastHat 38 = .ok (.getfield 42, 3) := by decide +kernel
theorem dX0_findLeastHat_41 : decode cX0_findLeastHat 41 = .ok (.aload_n 0, 1) := by decide +kernel
theorem dX0_findLeastHat_42 : decode cX0_findLeastHat 42 = .ok (.iload 4, 2) := by decide +kernel
theorem dX0_findLeastHat_44 : decode cX0_findLeastHat 44 = .ok (.invokevirtual 64, 3) := by decide +kernel
theorem dX0_findLeastHat_47 : decode cX0_findLeastHat 47 = .ok (.aload_n 0, 1) := by decide +kernel
theorem dX0_findLeastHat_48 : decode cX0_findLeastHat 48 = .ok (.iload 5, 2) := by decide +kernel
theorem dX0_findLeastHat_50 : decode cX0_findLeastHat 50 = .ok (.invokevirtual 64, 3) := by decide +kernel
theorem dX0_findLeastHat_53 : decode cX0_findLeastHat 53 = .ok (.aload_n 0, 1) := by decide +kernel
theorem dX0_findLeastHat_54 : decode cX0_findLeastHat 54 = .ok (.iload 6, 2) := by decide +kernel
theorem dX0_findLeastHat_56 : decode cX0_findLeastHat 56 = .ok (.invokevirtual 64, 3) := by decide +kernel
theorem dX0_findLeastHat_59 : decode cX0_findLeastHat 59 = .ok (.invokevirtual 90, 3) := by decide +kernel
theorem dX0_findLeastHat_62 : decode cX0_findLeastHat 62 = .ok (.aload_n 0, 1) := by decide +kernel
theorem dX0_findLeastHat_63 : decode cX0_findLeastHat 63 = .ok (.getfield 42, 3) := by decide +kernel
theorem dX0_findLeastHat_66 : decode cX0_findLeastHat 66 = .ok (.getfield 94, 3) := by decide +kernel
theorem dX0_findLeastHat_69 : decode cX0_findLeastHat 69 = .ok (.ifCond .eq 43, 3) := by decide +kernel
theorem dX0_findLeastHat_72 : decode cX0_findLeastHat 72 = .ok (.iload_n 2, 1) := by decide +kernel
theorem dX0_findLeastHat_73 : decode cX0_findLeastHat 73 = .ok (.iconst (-1), 1) := by decide +kernel
theorem dX0_findLeastHat_74 : decode cX0_findLeastHat 74 = .ok (.if_icmp .eq 14, 3) := by decide +kernel
theorem dX0_findLeastHat_77 : decode cX0_findLeastHat 77 = .ok (.aload_n 0, 1) := by decide +kernel
theorem dX0_findLeastHat_78 : decode cX0_findLeastHat 78 = .ok (.getfield 42, 3) := by decide +kernel
theorem dX0_findLeastHat_81 : decode cX0_findLeastHat 81 = .ok (.invokevirtual 98, 3) := by decide +kernel
theorem dX0_findLeastHat_84 : decode cX0_findLeastHat 84 = .ok (.iload_n 3, 1) := by decide +kernel
theorem dX0_findLeastHat_85 : decode cX0_findLeastHat 85 = .ok (.if_icmp .ge 27, 3) := by decide +kernel
theorem dX0_findLeastHat_88 : decode cX0_findLeastHat 88 = .ok (.sipush 10000, 3) := by decide +kernel
theorem dX0_findLeastHat_91 : decode cX0_findLeastHat 91 = .ok (.iload 4, 2) := by decide +kernel
theorem dX0_findLeastHat_93 : decode cX0_findLeastHat 93 = .ok (.imul, 1) := by decide +kernel
theorem dX0_findLeastHat_94 : decode cX0_findLeastHat 94 = .ok (.bipush 100, 2) := by decide +kernel
theorem dX0_findLeastHat_96 : decode cX0_findLeastHat 96 = .ok (.iload 5, 2) := by decide +kernel
theorem dX0_findLeastHat_98 : decode cX0_findLeastHat 98 = .ok (.imul, 1) := by decide +kernel
theorem dX0_findLeastHat_99 : decode cX0_findLeastHat 99 = .ok (.iadd, 1) := by decide +kernel
theorem dX0_findLeastHat_100 : decode cX0_findLeastHat 100 = .ok (.iload 6, 2) := by decide +kernel
theorem dX0_findLeastHat_102 : decode cX0_findLeastHat 102 = .ok (.iadd, 1) := by decide +kernel
theorem dX0_findLeastHat_103 : decode cX0_findLeastHat 103 = .ok (.istore_n 2, 1) := by decide +kernel
theorem dX0_findLeastHat_104 : decode cX0_findLeastHat 104 = .ok (.aload_n 0, 1) := by decide +kernel
theorem dX0_findLeastHat_105 : decode cX0_findLeastHat 105 = .ok (.getfield 42, 3) := by decide +kernel
theorem dX0_findLeastHat_108 : decode cX0_findLeastHat 108 = .ok (.invokevirtual 98, 3) := by decide +kernel
theorem dX0_findLeastHat_111 : decode cX0_findLeastHat 111 = .ok (.istore_n 3, 1) := by decide +kernel
theorem dX0_findLeastHat_112 : decode cX0_findLeastHat 112 = .ok (.iinc 6 1, 3) := by decide +kernel
theorem dX0_findLeastHat_115 : decode cX0_findLeastHat 115 = .ok (.goto (-84), 3) := by decide +kernel
theorem dX0_findLeastHat_118 : decode cX0_findLeastHat 118 = .ok (.iinc 5 1, 3) := by decide +kernel
theorem dX0_findLeastHat_121 : decode cX0_findLeastHat 121 = .ok (.goto (-102), 3) := by decide +kernel
theorem dX0_findLeastHat_124 : decode cX0_findLeastHat 124 = .ok (.iinc 4 1, 3) := by decide +kernel
theorem dX0_findLeastHat_127 : decode cX0_findLeastHat 127 = .ok (.goto (-120), 3) := by decide +kernel
theorem dX0_findLeastHat_130 : decode cX0_findLeastHat 130 = .ok (.iload_n 2, 1) := by decide +kernel
theorem dX0_findLeastHat_131 : decode cX0_findLeastHat 131 = .ok (.ireturn, 1) := by decide +kernel
theorem dX0_findFix_0 : decode cX0_findFix 0 = .ok (.lconst 0, 1) := by decide +kernel
theorem dX0_findFix_1 : decode cX0_findFix 1 = .ok (.lstore 4, 2) := by decide +kernel
theorem dX0_findFix_3 : decode cX0_findFix 3 = .ok (.lconst 0, 1) := by decide +kernel
theorem dX0_findFix_4 : decode cX0_findFix 4 = .ok (.lstore 6, 2) := by decide +kernel
theorem dX0_findFix_6 : decode cX0_findFix 6 = .ok (.lconst 0, 1) := by decide +kernel
theorem dX0_findFix_7 : decode cX0_findFix 7 = .ok (.lstore 8, 2) := by decide +kernel
theorem dX0_findFix_9 : decode cX0_findFix 9 = .ok (.lconst 0, 1) := by decide +kernel
theorem dX0_findFix_10 : decode cX0_findFix 10 = .ok (.lstore 10, 2) := by decide +kernel
theorem dX0_findFix_12 : decode cX0_findFix 12 = .ok (.lconst 0, 1) := by decide +kernel
theorem dX0_findFix_13 : decode cX0_findFix 13 = .ok (.lstore 12, 2) := by decide +kernel
theorem dX0_findFix_15 : decode cX0_findFix 15 = .ok (.iconst 0, 1) := by decide +kernel
theorem dX0_findFix_16 : decode cX0_findFix 16 = .ok (.istore 14, 2) := by decide +kernel
theorem dX0_findFix_18 : decode cX0_findFix 18 = .ok (.iload 14, 2) := by decide +kernel
theorem dX0_findFix_20 : decode cX0_findFix 20 = .ok (.aload_n 2, 1) := by decide +kernel
theorem dX0_findFix_21 : decode cX0_findFix 21 = .ok (.getfield 83, 3) := by decide +kernel
theorem dX0_findFix_24 : decode cX0_findFix 24 = .ok (.if_icmp .ge 126, 3) := by decide +kernel
theorem dX0_findFix_27 : decode cX0_findFix 27 = .ok (.aload_n 0, 1) := by decide +kernel
theorem dX0_findFix_28 : decode cX0_findFix 28 = .ok (.aload_n 1, 1) := by decide +kernel
theorem dX0_findFix_29 : decode cX0_findFix 29 = .ok (.aload_n 2, 1) := by decide +kernel
theorem dX0_findFix_30 : decode cX0_findFix 30 = .ok (.iload 14, 2) := by decide +kernel
theorem dX0_findFix_32 : decode cX0_findFix 32 = .ok (.iload_n 3, 1) := by decide +kernel
theorem dX0_findFix_33 : decode cX0_findFix 33 = .ok (.invokevirtual 86, 3) := by decide +kernel
theorem dX0_findFix_36 : decode cX0_findFix 36 = .ok (.aload_n 0, 1) := by decide +kernel
theorem dX0_findFix_37 : decode cX0_findFix 37 = .ok (.iload 14, 2) := by decide +kernel
theorem dX0_findFix_39 : decode cX0_findFix 39 = .ok (.invokevirtual 64, 3) := by decide +kernel
theorem dX0_findFix_42 : decode cX0_findFix 42 = .ok (.astore 15, 2) := by decide +kernel
theorem dX0_findFix_44 : decode cX0_findFix 44 = .ok (.lload 4, 2) := by decide +kernel
theorem dX0_findFix_46 : decode cX0_findFix 46 = .ok (.aload 15, 2) := by decide +kernel
theorem dX0_findFix_48 : decode cX0_findFix 48 = .ok (.getfield 102, 3) := by decide +kernel
theorem dX0_findFix_51 : decode cX0_findFix 51 = .ok (.i2l, 1) := by decide +kernel
theorem dX0_findFix_52 : decode cX0_findFix 52 = .ok (.aload 15, 2) := by decide +kernel
theorem dX0_findFix_54 : decode cX0_findFix 54 = .ok (.getfield 102, 3) := by decide +kernel
theorem dX0_findFix_57 : decode cX0_findFix 57 = .ok (.i2l, 1) := by decide +kernel
theorem dX0_findFix_58 : decode cX0_findFix 58 = .ok (.invokestatic 105, 3) := by decide +kernel
theorem dX0_findFix_61 : decode cX0_findFix 61 = .ok (.ladd, 1) := by decide +kernel
theorem dX0_findFix_62 : decode cX0_findFix 62 = .ok (.lstore 4, 2) := by decide +kernel
theorem dX0_findFix_64 : decode cX0_findFix 64 = .ok (.lload 6, 2) := by decide +kernel
theorem dX0_findFix_66 : decode cX0_findFix 66 = .ok (.aload 15, 2) := by decide +kernel
theorem dX0_findFix_68 : decode cX0_findFix 68 = .ok (.getfield 102, 3) := by decide +kernel
theorem dX0_findFix_71 : decode cX0_findFix 71 = .ok (.i2l, 1) := by decide +kernel
theorem dX0_findFix_72 : decode cX0_findFix 72 = .ok (.aload 15, 2) := by decide +kernel
theorem dX0_findFix_74 : decode cX0_findFix 74 = .ok (.getfield 109, 3) := by decide +kernel
theorem dX0_findFix_77 : decode cX0_findFix 77 = .ok (.i2l, 1) := by decide +kernel
theorem dX0_findFix_78 : decode cX0_findFix 78 = .ok (.invokestatic 105, 3) := by decide +kernel
theorem dX0_findFix_81 : decode cX0_findFix 81 = .ok (.ladd, 1) := by decide +kernel
theorem dX0_findFix_82 : decode cX0_findFix 82 = .ok (.lstore 6, 2) := by decide +kernel
theorem dX0_findFix_84 : decode cX0_findFix 84 = .ok (.lload 8, 2) := by decide +kernel
theorem dX0_findFix_86 : decode cX0_findFix 86 = .ok (.aload 15, 2) := by decide +kernel
theorem dX0_findFix_88 : decode cX0_findFix 88 = .ok (.getfield 109, 3) := by decide +kernel
theorem dX0_findFix_91 : decode cX0_findFix 91 = .ok (.i2l, 1) := by decide +kernel
theorem dX0_findFix_92 : decode cX0_findFix 92 = .ok (.aload 15, 2) := by decide +kernel
theorem dX0_findFix_94 : decode cX0_findFix 94 = .ok (.getfield 109, 3) := by decide +kernel
theorem dX0_findFix_97 : decode cX0_findFix 97 = .ok (.i2l, 1) := by decide +kernel
theorem dX0_findFix_98 : decode cX0_findFix 98 = .ok (.invokestatic 105, 3) := by decide +kernel
theorem dX0_findFix_101 : decode cX0_findFix 101 = .ok (.ladd, 1) := by decide +kernel
theorem dX0_findFix_102 : decode cX0_findFix 102 = .ok (.lstore 8, 2) := by decide +kernel
theorem dX0_findFix_104 : decode cX0_findFix 104 = .ok (.lload 10, 2) := by decide +kernel
theorem dX0_findFix_106 : decode cX0_findFix 106 = .ok (.aload 15, 2) := by decide +kernel
theorem dX0_findFix_108 : decode cX0_findFix 108 = .ok (.getfield 112, 3) := by decide +kernel
theorem dX0_findFix_111 : decode cX0_findFix 111 = .ok (.i2l, 1) := by decide +kernel
theorem dX0_findFix_112 : decode cX0_findFix 112 = .ok (.aload 15, 2) := by decide +kernel
theorem dX0_findFix_114 : decode cX0_findFix 114 = .ok (.getfield 102, 3) := by decide +kernel
theorem dX0_findFix_117 : decode cX0_findFix 117 = .ok (.i2l, 1) := by decide +kernel
theorem dX0_findFix_118 : decode cX0_findFix 118 = .ok (.invokestatic 105, 3) := by decide +kernel
theorem dX0_findFix_121 : decode cX0_findFix 121 = .ok (.ladd, 1) := by decide +kernel
theorem dX0_findFix_122 : decode cX0_findFix 122 = .ok (.lstore 10, 2) := by decide +kernel
theorem dX0_findFix_124 : decode cX0_findFix 124 = .ok (.lload 12, 2) := by decide +kernel
theorem dX0_findFix_126 : decode cX0_findFix 126 = .ok (.aload 15, 2) := by decide +kernel
theorem dX0_findFix_128 : decode cX0_findFix 128 = .ok (.getfield 112, 3) := by decide +kernel
theorem dX0_findFix_131 : decode cX0_findFix 131 = .ok (.i2l, 1) := by decide +kernel
theorem dX0_findFix_132 : decode cX0_findFix 132 = .ok (.aload 15, 2) := by decide +kernel
theorem dX0_findFix_134 : decode cX0_findFix 134 = .ok (.getfield 109, 3) := by decide +kernel
theorem dX0_findFix_137 : decode cX0_findFix 137 = .ok (.i2l, 1) := by decide +kernel
theorem dX0_findFix_138 : decode cX0_findFix 138 = .ok (.invokestatic 105, 3) := by decide +kernel
theorem dX0_findFix_141 : decode cX0_findFix 141 = .ok (.ladd, 1) := by decide +kernel
theorem dX0_findFix_142 : decode cX0_findFix 142 = .ok (.lstore 12, 2) := by decide +kernel
theorem dX0_findFix_144 : decode cX0_findFix 144 = .ok (.iinc 14 1, 3) := by decide +kernel
theorem dX0_findFix_147 : decode cX0_findFix 147 = .ok (.goto (-129), 3) := by decide +kernel
theorem dX0_findFix_150 : decode cX0_findFix 150 = .ok (.lload 4, 2) := by decide +kernel
theorem dX0_findFix_152 : decode cX0_findFix 152 = .ok (.lload 8, 2) := by decide +kernel
theorem dX0_findFix_154 : decode cX0_findFix 154 = .ok (.lmul, 1) := by decide +kernel
theorem dX0_findFix_155 : decode cX0_findFix 155 = .ok (.lload 6, 2) := by decide +kernel
theorem dX0_findFix_157 : decode cX0_findFix 157 = .ok (.lload 6, 2) := by decide +kernel
theorem dX0_findFix_159 : decode cX0_findFix 159 = .ok (.lmul, 1) := by decide +kernel
theorem dX0_findFix_160 : decode cX0_findFix 160 = .ok (.lsub, 1) := by decide +kernel
theorem dX0_findFix_161 : decode cX0_findFix 161 = .ok (.lstore 14, 2) := by decide +kernel
theorem dX0_findFix_163 : decode cX0_findFix 163 = .ok (.aload_n 0, 1) := by decide +kernel
theorem dX0_findFix_164 : decode cX0_findFix 164 = .ok (.getfield 36, 3) := by decide +kernel
theorem dX0_findFix_167 : decode cX0_findFix 167 = .ok (.iconst 0, 1) := by decide +kernel
theorem dX0_findFix_168 : decode cX0_findFix 168 = .ok (.putfield 115, 3) := by decide +kernel
theorem dX0_findFix_171 : decode cX0_findFix 171 = .ok (.lload 14, 2) := by decide +kernel
theorem dX0_findFix_173 : decode cX0_findFix 173 = .ok (.ldc2_w 116, 3) := by decide +kernel
theorem dX0_findFix_176 : decode cX0_findFix 176 = .ok (.lcmp, 1) := by decide +kernel
theorem dX0_findFix_177 : decode cX0_findFix 177 = .ok (.ifCond .lt 60, 3) := by decide +kernel
theorem dX0_findFix_180 : decode cX0_findFix 180 = .ok (.lload 14, 2) := by decide +kernel
theorem dX0_findFix_182 : decode cX0_findFix 182 = .ok (.ldc2_w 118, 3) := by decide +kernel
theorem dX0_findFix_185 : decode cX0_findFix 185 = .ok (.invokestatic 120, 3) := by decide +kernel
theorem dX0_findFix_188 : decode cX0_findFix 188 = .ok (.lstore 16, 2) := by decide +kernel
theorem dX0_findFix_190 : decode cX0_findFix 190 = .ok (.aload_n 0, 1) := by decide +kernel
theorem dX0_findFix_191 : decode cX0_findFix 191 = .ok (.getfield 36, 3) := by decide +kernel
theorem dX0_findFix_194 : decode cX0_findFix 194 = .ok (.lload 10, 2) := by decide +kernel
theorem dX0_findFix_196 : decode cX0_findFix 196 = .ok (.lload 8, 2) := by decide +kernel
theorem dX0_findFix_198 : decode cX0_findFix 198 = .ok (.lmul, 1) := by decide +kernel
theorem dX0_findFix_199 : decode cX0_findFix 199 = .ok (.lload 12, 2) := by decide +kernel
theorem dX0_findFix_201 : decode cX0_findFix 201 = .ok (.lload 6, 2) := by decide +kernel
theorem dX0_findFix_203 : decode cX0_findFix 203 = .ok (.lmul, 1) := by decide +kernel
theorem dX0_findFix_204 : decode cX0_findFix 204 = .ok (.lsub, 1) := by decide +kernel
theorem dX0_findFix_205 : decode cX0_findFix 205 = .ok (.ldc2_w 118, 3) := by decide +kernel
theorem dX0_findFix_208 : decode cX0_findFix 208 = .ok (.lmul, 1) := by decide +kernel
theorem dX0_findFix_209 : decode cX0_findFix 209 = .ok (.lload 16, 2) := by decide +kernel
theorem dX0_findFix_211 : decode cX0_findFix 211 = .ok (.invokestatic 120, 3) := by decide +kernel
theorem dX0_findFix_214 : decode cX0_findFix 214 = .ok (.lload 12, 2) := by decide +kernel
theorem dX0_findFix_216 : decode cX0_findFix 216 = .ok (.lload 4, 2) := by decide +kernel
theorem dX0_findFix_218 : decode cX0_findFix 218 = .ok (.lmul, 1) := by decide +kernel
theorem dX0_findFix_219 : decode cX0_findFix 219 = .ok (.lload 10, 2) := by decide +kernel
theorem dX0_findFix_221 : decode cX0_findFix 221 = .ok (.lload 6, 2) := by decide +kernel
theorem dX0_findFix_223 : decode cX0_findFix 223 = .ok (.lmul, 1) := by decide +kernel
theorem dX0_findFix_224 : decode cX0_findFix 224 = .ok (.lsub, 1) := by decide +kernel
theorem dX0_findFix_225 : decode cX0_findFix 225 = .ok (.ldc2_w 118, 3) := by decide +kernel
theorem dX0_findFix_228 : decode cX0_findFix 228 = .ok (.lmul, 1) := by decide +kernel
theorem dX0_findFix_229 : decode cX0_findFix 229 = .ok (.lload 16, 2) := by decide +kernel
theorem dX0_findFix_231 : decode cX0_findFix 231 = .ok (.invokestatic 120, 3) := by decide +kernel
theorem dX0_findFix_234 : decode cX0_findFix 234 = .ok (.invokevirtual 123, 3) := by decide +kernel
theorem dX0_findFix_237 : decode cX0_findFix 237 = .ok (.aload_n 0, 1) := by decide +kernel
theorem dX0_findFix_238 : decode cX0_findFix 238 = .ok (.getfield 25, 3) := by decide +kernel
theorem dX0_findFix_241 : decode cX0_findFix 241 = .ok (.aload_n 2, 1) := by decide +kernel
theorem dX0_findFix_242 : decode cX0_findFix 242 = .ok (.iload_n 3, 1) := by decide +kernel
theorem dX0_findFix_243 : decode cX0_findFix 243 = .ok (.invokevirtual 56, 3) := by decide +kernel
theorem dX0_findFix_246 : decode cX0_findFix 246 = .ok (.aload_n 0, 1) := by decide +kernel
theorem dX0_findFix_247 : decode cX0_findFix 247 = .ok (.getfield 36, 3) := by decide +kernel
theorem dX0_findFix_250 : decode cX0_findFix 250 = .ok (.getfield 115, 3) := by decide +kernel
theorem dX0_findFix_253 : decode cX0_findFix 253 = .ok (.ireturn, 1) := by decide +kernel
theorem dX0_distanceOff_0 : decode cX0_distanceOff 0 = .ok (.aload_n 0, 1) := by decide +kernel
theorem dX0_distanceOff_1 : decode cX0_distanceOff 1 = .ok (.getfield 36, 3) := by decide +kernel
theorem dX0_distanceOff_4 : decode cX0_distanceOff 4 = .ok (.getfield 127, 3) := by decide +kernel
theorem dX0_distanceOff_7 : decode cX0_distanceOff 7 = .ok (.aload_n 0, 1) := by decide +kernel
theorem dX0_distanceOff_8 : decode cX0_distanceOff 8 = .ok (.getfield 25, 3) := by decide +kernel
theorem dX0_distanceOff_11 : decode cX0_distanceOff 11 = .ok (.getfield 72, 3) := by decide +kernel
theorem dX0_distanceOff_14 : decode cX0_distanceOff 14 = .ok (.isub, 1) := by decide +kernel
theorem dX0_distanceOff_15 : decode cX0_distanceOff 15 = .ok (.i2l, 1) := by decide +kernel
theorem dX0_distanceOff_16 : decode cX0_distanceOff 16 = .ok (.lstore_n 1, 1) := by decide +kernel
theorem dX0_distanceOff_17 : decode cX0_distanceOff 17 = .ok (.aload_n 0, 1) := by decide +kernel
theorem dX0_distanceOff_18 : decode cX0_distanceOff 18 = .ok (.getfield 36, 3) := by decide +kernel
theorem dX0_distanceOff_21 : decode cX0_distanceOff 21 = .ok (.getfield 128, 3) := by decide +kernel
theorem dX0_distanceOff_24 : decode cX0_distanceOff 24 = .ok (.aload_n 0, 1) := by decide +kernel
theorem dX0_distanceOff_25 : decode cX0_distanceOff 25 = .ok (.getfield 25, 3) := by decide +kernel
theorem dX0_distanceOff_28 : decode cX0_distanceOff 28 = .ok (.getfield 76, 3) := by decide +kernel
theorem dX0_distanceOff_31 : decode cX0_distanceOff 31 = .ok (.isub, 1) := by decide +kernel
theorem dX0_distanceOff_32 : decode cX0_distanceOff 32 = .ok (.i2l, 1) := by decide +kernel
theorem dX0_distanceOff_33 : decode cX0_distanceOff 33 = .ok (.lstore_n 3, 1) := by decide +kernel
theorem dX0_distanceOff_34 : decode cX0_distanceOff 34 = .ok (.lload_n 1, 1) := by decide +kernel
theorem dX0_distanceOff_35 : decode cX0_distanceOff 35 = .ok (.lload_n 1, 1) := by decide +kernel
theorem dX0_distanceOff_36 : decode cX0_distanceOff 36 = .ok (.lmul, 1) := by decide +kernel
theorem dX0_distanceOff_37 : decode cX0_distanceOff 37 = .ok (.lload_n 3, 1) := by decide +kernel
theorem dX0_distanceOff_38 : decode cX0_distanceOff 38 = .ok (.lload_n 3, 1) := by decide +kernel
theorem dX0_distanceOff_39 : decode cX0_distanceOff 39 = .ok (.lmul, 1) := by decide +kernel
theorem dX0_distanceOff_40 : decode cX0_distanceOff 40 = .ok (.ladd, 1) := by decide +kernel
theorem dX0_distanceOff_41 : decode cX0_distanceOff 41 = .ok (.invokestatic 129, 3) := by decide +kernel
theorem dX0_distanceOff_44 : decode cX0_distanceOff 44 = .ok (.ireturn, 1) := by decide +kernel
theorem dX0_directionOff_0 : decode cX0_directionOff 0 = .ok (.iload_n 1, 1) := by decide +kernel
theorem dX0_directionOff_1 : decode cX0_directionOff 1 = .ok (.ifCond .ne 5, 3) := by decide +kernel
theorem dX0_directionOff_4 : decode cX0_directionOff 4 = .ok (.iconst 0, 1) := by decide +kernel
theorem dX0_directionOff_5 : decode cX0_directionOff 5 = .ok (.ireturn, 1) := by decide +kernel
theorem dX0_directionOff_6 : decode cX0_directionOff 6 = .ok (.aload_n 0, 1) := by decide +kernel
theorem dX0_directionOff_7 : decode cX0_directionOff 7 = .ok (.getfield 36, 3) := by decide +kernel
theorem dX0_directionOff_10 : decode cX0_directionOff 10 = .ok (.getfield 127, 3) := by decide +kernel
theorem dX0_directionOff_13 : decode cX0_directionOff 13 = .ok (.aload_n 0, 1) := by decide +kernel
theorem dX0_directionOff_14 : decode cX0_directionOff 14 = .ok (.getfield 25, 3) := by decide +kernel
theorem dX0_directionOff_17 : decode cX0_directionOff 17 = .ok (.getfield 72, 3) := by decide +kernel
theorem dX0_directionOff_20 : decode cX0_directionOff 20 = .ok (.isub, 1) := by decide +kernel
theorem dX0_directionOff_21 : decode cX0_directionOff 21 = .ok (.i2l, 1) := by decide +kernel
theorem dX0_directionOff_22 : decode cX0_directionOff 22 = .ok (.lstore_n 2, 1) := by decide +kernel
theorem dX0_directionOff_23 : decode cX0_directionOff 23 = .ok (.aload_n 0, 1) := by decide +kernel
theorem dX0_directionOff_24 : decode cX0_directionOff 24 = .ok (.getfield 36, 3) := by decide +kernel
theorem dX0_directionOff_27 : decode cX0_directionOff 27 = .ok (.getfield 128, 3) := by decide +kernel
theorem dX0_directionOff_30 : decode cX0_directionOff 30 = .ok (.aload_n 0, 1) := by decide +kernel
theorem dX0_directionOff_31 : decode cX0_directionOff 31 = .ok (.getfield 25, 3) := by decide +kernel
theorem dX0_directionOff_34 : decode cX0_directionOff 34 = .ok (.getfield 76, 3) := by decide +kernel
theorem dX0_directionOff_37 : decode cX0_directionOff 37 = .ok (.if_icmp .lt 7, 3) := by decide +kernel
theorem dX0_directionOff_40 : decode cX0_directionOff 40 = .ok (.iconst 1, 1) := by decide +kernel
theorem dX0_directionOff_41 : decode cX0_directionOff 41 = .ok (.goto 4, 3) := by decide +kernel
theorem dX0_directionOff_44 : decode cX0_directionOff 44 = .ok (.iconst 0, 1) := by decide +kernel
theorem dX0_directionOff_45 : decode cX0_directionOff 45 = .ok (.istore 4, 2) := by decide +kernel
theorem dX0_directionOff_47 : decode cX0_directionOff 47 = .ok (.lload_n 2, 1) := by decide +kernel
theorem dX0_directionOff_48 : decode cX0_directionOff 48 = .ok (.invokestatic 133, 3) := by decide +kernel
theorem dX0_directionOff_51 : decode cX0_directionOff 51 = .ok (.ldc2_w 139, 3) := by decide +kernel
theorem dX0_directionOff_54 : decode cX0_directionOff 54 = .ok (.lmul, 1) := by decide +kernel
theorem dX0_directionOff_55 : decode cX0_directionOff 55 = .ok (.iload_n 1, 1) := by decide +kernel
theorem dX0_directionOff_56 : decode cX0_directionOff 56 = .ok (.i2l, 1) := by decide +kernel
theorem dX0_directionOff_57 : decode cX0_directionOff 57 = .ok (.invokestatic 120, 3) := by decide +kernel
theorem dX0_directionOff_60 : decode cX0_directionOff 60 = .ok (.invokestatic 141, 3) := by decide +kernel
theorem dX0_directionOff_63 : decode cX0_directionOff 63 = .ok (.invokestatic 144, 3) := by decide +kernel
theorem dX0_directionOff_66 : decode cX0_directionOff 66 = .ok (.istore 5, 2) := by decide +kernel
theorem dX0_directionOff_68 : decode cX0_directionOff 68 = .ok (.lload_n 2, 1) := by decide +kernel
theorem dX0_directionOff_69 : decode cX0_directionOff 69 = .ok (.lconst 0, 1) := by decide +kernel
theorem dX0_directionOff_70 : decode cX0_directionOff 70 = .ok (.lcmp, 1) := by decide +kernel
theorem dX0_directionOff_71 : decode cX0_directionOff 71 = .ok (.ifCond .lt 20, 3) := by decide +kernel
theorem dX0_directionOff_74 : decode cX0_directionOff 74 = .ok (.iload 4, 2) := by decide +kernel
theorem dX0_directionOff_76 : decode cX0_directionOff 76 = .ok (.ifCond .eq 8, 3) := by decide +kernel
theorem dX0_directionOff_79 : decode cX0_directionOff 79 = .ok (.iload 5, 2) := by decide +kernel
theorem dX0_directionOff_81 : decode cX0_directionOff 81 = .ok (.goto 9, 3) := by decide +kernel
theorem dX0_directionOff_84 : decode cX0_directionOff 84 = .ok (.sipush 10800, 3) := by decide +kernel
theorem dX0_directionOff_87 : decode cX0_directionOff 87 = .ok (.iload 5, 2) := by decide +kernel
theorem dX0_directionOff_89 : decode cX0_directionOff 89 = .ok (.isub, 1) := by decide +kernel
theorem dX0_directionOff_90 : decode cX0_directionOff 90 = .ok (.ireturn, 1) := by decide +kernel
theorem dX0_directionOff_91 : decode cX0_directionOff 91 = .ok (.iload 4, 2) := by decide +kernel
theorem dX0_directionOff_93 : decode cX0_directionOff 93 = .ok (.ifCond .ne 10, 3) := by decide +kernel
theorem dX0_directionOff_96 : decode cX0_directionOff 96 = .ok (.sipush 10800, 3) := by decide +kernel
theorem dX0_directionOff_99 : decode cX0_directionOff 99 = .ok (.iload 5, 2) := by decide +kernel
theorem dX0_directionOff_101 : decode cX0_directionOff 101 = .ok (.iadd, 1) := by decide +kernel
theorem dX0_directionOff_102 : decode cX0_directionOff 102 = .ok (.ireturn, 1) := by decide +kernel
theorem dX0_directionOff_103 : decode cX0_directionOff 103 = .ok (.iload 5, 2) := by decide +kernel
theorem dX0_directionOff_105 : decode cX0_directionOff 105 = .ok (.ifCond .ne 7, 3) := by decide +kernel
theorem dX0_directionOff_108 : decode cX0_directionOff 108 = .ok (.iconst 0, 1) := by decide +kernel
theorem dX0_directionOff_109 : decode cX0_directionOff 109 = .ok (.goto 9, 3) := by decide +kernel
theorem dX0_directionOff_112 : decode cX0_directionOff 112 = .ok (.sipush 21600, 3) := by decide +kernel
theorem dX0_directionOff_115 : decode cX0_directionOff 115 = .ok (.iload 5, 2) := by decide +kernel
theorem dX0_directionOff_117 : decode cX0_directionOff 117 = .ok (.isub, 1) := by decide +kernel
theorem dX0_directionOff_118 : decode cX0_directionOff 118 = .ok (.ireturn, 1) := by decide +kernel
theorem dX1_init_0 : decode cX1_init 0 = .ok (.aload_n 0, 1) := by decide +kernel
theorem dX1_init_1 : decode cX1_init 1 = .ok (.invokespecial 1, 3) := by decide +kernel
theorem dX1_init_4 : decode cX1_init 4 = .ok (.aload_n 0, 1) := by decide +kernel
theorem dX1_init_5 : decode cX1_init 5 = .ok (.new 7, 3) := by decide +kernel
theorem dX1_init_8 : decode cX1_init 8 = .ok (.dup, 1) := by decide +kernel
theorem dX1_init_9 : decode cX1_init 9 = .ok (.invokespecial 9, 3) := by decide +kernel
theorem dX1_init_12 : decode cX1_init 12 = .ok (.putfield 10, 3) := by decide +kernel
theorem dX1_init_15 : decode cX1_init 15 = .ok (.aload_n 0, 1) := by decide +kernel
theorem dX1_init_16 : decode cX1_init 16 = .ok (.new 7, 3) := by decide +kernel
theorem dX1_init_19 : decode cX1_init 19 = .ok (.dup, 1) := by decide +kernel
theorem dX1_init_20 : decode cX1_init 20 = .ok (.invokespecial 9, 3) := by decide +kernel
theorem dX1_init_23 : decode cX1_init 23 = .ok (.putfield 16, 3) := by decide +kernel
theorem dX1_init_26 : decode cX1_init 26 = .ok (.aload_n 0, 1) := by decide +kernel
theorem dX1_init_27 : decode cX1_init 27 = .ok (.new 7, 3) := by decide +kernel
theorem dX1_init_30 : decode cX1_init 30 = .ok (.dup, 1) := by decide +kernel
theorem dX1_init_31 : decode cX1_init 31 = .ok (.invokespecial 9, 3) := by decide +kernel
theorem dX1_init_34 : decode cX1_init 34 = .ok (.putfield 19, 3) := by decide +kernel
theorem dX1_init_37 : decode cX1_init 37 = .ok (.return_, 1) := by decide +kernel
theorem dX1_span_0 : decode cX1_span 0 = .ok (.aload_n 0, 1) := by decide +kernel
theorem dX1_span_1 : decode cX1_span 1 = .ok (.getfield 10, 3) := by decide +kernel
theorem dX1_span_4 : decode cX1_span 4 = .ok (.aload_n 1, 1) := by decide +kernel
theorem dX1_span_5 : decode cX1_span 5 = .ok (.aload_n 2, 1) := by decide +kernel
theorem dX1_span_6 : decode cX1_span 6 = .ok (.invokevirtual 22, 3) := by decide +kernel
theorem dX1_span_9 : decode cX1_span 9 = .ok (.aload_n 0, 1) := by decide +kernel
theorem dX1_span_10 : decode cX1_span 10 = .ok (.getfield 16, 3) := by decide +kernel
theorem dX1_span_13 : decode cX1_span 13 = .ok (.aload_n 1, 1) := by decide +kernel
theorem dX1_span_14 : decode cX1_span 14 = .ok (.aload_n 3, 1) := by decide +kernel
theorem dX1_span_15 : decode cX1_span 15 = .ok (.invokevirtual 22, 3) := by decide +kernel
theorem dX1_span_18 : decode cX1_span 18 = .ok (.aload_n 0, 1) := by decide +kernel
theorem dX1_span_19 : decode cX1_span 19 = .ok (.getfield 19, 3) := by decide +kernel
theorem dX1_span_22 : decode cX1_span 22 = .ok (.aload_n 2, 1) := by decide +kernel
theorem dX1_span_23 : decode cX1_span 23 = .ok (.aload_n 3, 1) := by decide +kernel
theorem dX1_span_24 : decode cX1_span 24 = .ok (.invokevirtual 22, 3) := by decide +kernel
theorem dX1_span_27 : decode cX1_span 27 = .ok (.aload_n 0, 1) := by decide +kernel
theorem dX1_span_28 : decode cX1_span 28 = .ok (.aload_n 0, 1) := by decide +kernel
theorem dX1_span_29 : decode cX1_span 29 = .ok (.getfield 10, 3) := by decide +kernel
theorem dX1_span_32 : decode cX1_span 32 = .ok (.getfield 26, 3) := by decide +kernel
theorem dX1_span_35 : decode cX1_span 35 = .ok (.ifCond .eq 27, 3) := by decide +kernel
theorem dX1_span_38 : decode cX1_span 38 = .ok (.aload_n 0, 1) := by decide +kernel
theorem dX1_span_39 : decode cX1_span 39 = .ok (.getfield 16, 3) := by decide +kernel
theorem dX1_span_42 : decode cX1_span 42 = .ok (.getfield 26, 3) := by decide +kernel
theorem dX1_span_45 : decode cX1_span 45 = .ok (.ifCond .eq 17, 3) := by decide +kernel
theorem dX1_span_48 : decode cX1_span 48 = .ok (.aload_n 0, 1) := by decide +kernel
theorem dX1_span_49 : decode cX1_span 49 = .ok (.getfield 19, 3) := by decide +kernel
theorem dX1_span_52 : decode cX1_span 52 = .ok (.getfield 26, 3) := by decide +kernel
theorem dX1_span_55 : decode cX1_span 55 = .ok (.ifCond .eq 7, 3) := by decide +kernel
theorem dX1_span_58 : decode cX1_span 58 = .ok (.iconst 1, 1) := by decide +kernel
theorem dX1_span_59 : decode cX1_span 59 = .ok (.goto 4, 3) := by decide +kernel
theorem dX1_span_62 : decode cX1_span 62 = .ok (.iconst 0, 1) := by decide +kernel
theorem dX1_span_63 : decode cX1_span 63 = .ok (.putfield 30, 3) := by decide +kernel
theorem dX1_span_66 : decode cX1_span 66 = .ok (.return_, 1) := by decide +kernel
theorem dX1_squareMiles_0 : decode cX1_squareMiles 0 = .ok (.aload_n 0, 1) := by decide +kernel
theorem dX1_squareMiles_1 : decode cX1_squareMiles 1 = .ok (.getfield 10, 3) := by decide +kernel
theorem dX1_squareMiles_4 : decode cX1_squareMiles 4 = .ok (.aload_n 0, 1) := by decide +kernel
theorem dX1_squareMiles_5 : decode cX1_squareMiles 5 = .ok (.getfield 16, 3) := by decide +kernel
theorem dX1_squareMiles_8 : decode cX1_squareMiles 8 = .ok (.aload_n 0, 1) := by decide +kernel
theorem dX1_squareMiles_9 : decode cX1_squareMiles 9 = .ok (.getfield 19, 3) := by decide +kernel
theorem dX1_squareMiles_12 : decode cX1_squareMiles 12 = .ok (.getfield 31, 3) := by decide +kernel
theorem dX1_squareMiles_15 : decode cX1_squareMiles 15 = .ok (.aload_n 0, 1) := by decide +kernel
theorem dX1_squareMiles_16 : decode cX1_squareMiles 16 = .ok (.getfield 19, 3) := by decide +kernel
theorem dX1_squareMiles_19 : decode cX1_squareMiles 19 = .ok (.getfield 35, 3) := by decide +kernel
theorem dX1_squareMiles_22 : decode cX1_squareMiles 22 = .ok (.invokestatic 38, 3) := by decide +kernel
theorem dX1_squareMiles_25 : decode cX1_squareMiles 25 = .ok (.invokestatic 42, 3) := by decide +kernel
theorem dX1_squareMiles_28 : decode cX1_squareMiles 28 = .ok (.ldc2_w 48, 3) := by decide +kernel
theorem dX1_squareMiles_31 : decode cX1_squareMiles 31 = .ok (.invokestatic 50, 3) := by decide +kernel
theorem dX1_squareMiles_34 : decode cX1_squareMiles 34 = .ok (.l2i, 1) := by decide +kernel
theorem dX1_squareMiles_35 : decode cX1_squareMiles 35 = .ok (.ireturn, 1) := by decide +kernel
theorem dX1_middleEast_0 : decode cX1_middleEast 0 = .ok (.aload_n 0, 1) := by decide +kernel
theorem dX1_middleEast_1 : decode cX1_middleEast 1 = .ok (.getfield 10, 3) := by decide +kernel
theorem dX1_middleEast_4 : decode cX1_middleEast 4 = .ok (.getfield 31, 3) := by decide +kernel
theorem dX1_middleEast_7 : decode cX1_middleEast 7 = .ok (.i2l, 1) := by decide +kernel
theorem dX1_middleEast_8 : decode cX1_middleEast 8 = .ok (.aload_n 0, 1) := by decide +kernel
theorem dX1_middleEast_9 : decode cX1_middleEast 9 = .ok (.getfield 16, 3) := by decide +kernel
theorem dX1_middleEast_12 : decode cX1_middleEast 12 = .ok (.getfield 31, 3) := by decide +kernel
theorem dX1_middleEast_15 : decode cX1_middleEast 15 = .ok (.i2l, 1) := by decide +kernel
theorem dX1_middleEast_16 : decode cX1_middleEast 16 = .ok (.ladd, 1) := by decide +kernel
theorem dX1_middleEast_17 : decode cX1_middleEast 17 = .ok (.aload_n 0, 1) := by decide +kernel
theorem dX1_middleEast_18 : decode cX1_middleEast 18 = .ok (.getfield 19, 3) := by decide +kernel
theorem dX1_middleEast_21 : decode cX1_middleEast 21 = .ok (.getfield 31, 3) := by decide +kernel
theorem dX1_middleEast_24 : decode cX1_middleEast 24 = .ok (.i2l, 1) := by decide +kernel
theorem dX1_middleEast_25 : decode cX1_middleEast 25 = .ok (.ladd, 1) := by decide +kernel
theorem dX1_middleEast_26 : decode cX1_middleEast 26 = .ok (.ldc2_w 56, 3) := by decide +kernel
theorem dX1_middleEast_29 : decode cX1_middleEast 29 = .ok (.invokestatic 50, 3) := by decide +kernel
theorem dX1_middleEast_32 : decode cX1_middleEast 32 = .ok (.l2i, 1) := by decide +kernel
theorem dX1_middleEast_33 : decode cX1_middleEast 33 = .ok (.ireturn, 1) := by decide +kernel
theorem dX1_middleNorth_0 : decode cX1_middleNorth 0 = .ok (.aload_n 0, 1) := by decide +kernel
theorem dX1_middleNorth_1 : decode cX1_middleNorth 1 = .ok (.getfield 10, 3) := by decide +kernel
theorem dX1_middleNorth_4 : decode cX1_middleNorth 4 = .ok (.getfield 35, 3) := by decide +kernel
theorem dX1_middleNorth_7 : decode cX1_middleNorth 7 = .ok (.i2l, 1) := by decide +kernel
theorem dX1_middleNorth_8 : decode cX1_middleNorth 8 = .ok (.aload_n 0, 1) := by decide +kernel
theorem dX1_middleNorth_9 : decode cX1_middleNorth 9 = .ok (.getfield 16, 3) := by decide +kernel
theorem dX1_middleNorth_12 : decode cX1_middleNorth 12 = .ok (.getfield 35, 3) := by decide +kernel
theorem dX1_middleNorth_15 : decode cX1_middleNorth 15 = .ok (.i2l, 1) := by decide +kernel
theorem dX1_middleNorth_16 : decode cX1_middleNorth 16 = .ok (.ladd, 1) := by decide +kernel
theorem dX1_middleNorth_17 : decode cX1_middleNorth 17 = .ok (.aload_n 0, 1) := by decide +kernel
theorem dX1_middleNorth_18 : decode cX1_middleNorth 18 = .ok (.getfield 19, 3) := by decide +kernel
theorem dX1_middleNorth_21 : decode cX1_middleNorth 21 = .ok (.getfield 35, 3) := by decide +kernel
theorem dX1_middleNorth_24 : decode cX1_middleNorth 24 = .ok (.i2l, 1) := by decide +kernel
theorem dX1_middleNorth_25 : decode cX1_middleNorth 25 = .ok (.ladd, 1) := by decide +kernel
theorem dX1_middleNorth_26 : decode cX1_middleNorth 26 = .ok (.ldc2_w 56, 3) := by decide +kernel
theorem dX1_middleNorth_29 : decode cX1_middleNorth 29 = .ok (.invokestatic 50, 3) := by decide +kernel
theorem dX1_middleNorth_32 : decode cX1_middleNorth 32 = .ok (.l2i, 1) := by decide +kernel
theorem dX1_middleNorth_33 : decode cX1_middleNorth 33 = .ok (.ireturn, 1) := by decide +kernel
theorem dX1_holds_0 : decode cX1_holds 0 = .ok (.aload_n 0, 1) := by decide +kernel
theorem dX1_holds_1 : decode cX1_holds 1 = .ok (.getfield 10, 3) := by decide +kernel
theorem dX1_holds_4 : decode cX1_holds 4 = .ok (.aload_n 0, 1) := by decide +kernel
theorem dX1_holds_5 : decode cX1_holds 5 = .ok (.getfield 16, 3) := by decide +kernel
theorem dX1_holds_8 : decode cX1_holds 8 = .ok (.aload_n 0, 1) := by decide +kernel
theorem dX1_holds_9 : decode cX1_holds 9 = .ok (.getfield 19, 3) := by decide +kernel
theorem dX1_holds_12 : decode cX1_holds 12 = .ok (.iload_n 1, 1) := by decide +kernel
theorem dX1_holds_13 : decode cX1_holds 13 = .ok (.iload_n 2, 1) := by decide +kernel
theorem dX1_holds_14 : decode cX1_holds 14 = .ok (.invokestatic 58, 3) := by decide +kernel
theorem dX1_holds_17 : decode cX1_holds 17 = .ok (.ifCond .eq 47, 3) := by decide +kernel
theorem dX1_holds_20 : decode cX1_holds 20 = .ok (.aload_n 0, 1) := by decide +kernel
theorem dX1_holds_21 : decode cX1_holds 21 = .ok (.getfield 10, 3) := by decide +kernel
theorem dX1_holds_24 : decode cX1_holds 24 = .ok (.aload_n 0, 1) := by decide +kernel
theorem dX1_holds_25 : decode cX1_holds 25 = .ok (.getfield 19, 3) := by decide +kernel
theorem dX1_holds_28 : decode cX1_holds 28 = .ok (.aload_n 0, 1) := by decide +kernel
theorem dX1_holds_29 : decode cX1_holds 29 = .ok (.getfield 16, 3) := by decide +kernel
theorem dX1_holds_32 : decode cX1_holds 32 = .ok (.iload_n 1, 1) := by decide +kernel
theorem dX1_holds_33 : decode cX1_holds 33 = .ok (.iload_n 2, 1) := by decide +kernel
theorem dX1_holds_34 : decode cX1_holds 34 = .ok (.invokestatic 58, 3) := by decide +kernel
theorem dX1_holds_37 : decode cX1_holds 37 = .ok (.ifCond .eq 27, 3) := by decide +kernel
theorem dX1_holds_40 : decode cX1_holds 40 = .ok (.aload_n 0, 1) := by decide +kernel
theorem dX1_holds_41 : decode cX1_holds 41 = .ok (.getfield 16, 3) := by decide +kernel
theorem dX1_holds_44 : decode cX1_holds 44 = .ok (.aload_n 0, 1) := by decide +kernel
theorem dX1_holds_45 : decode cX1_holds 45 = .ok (.getfield 19, 3) := by decide +kernel
theorem dX1_holds_48 : decode cX1_holds 48 = .ok (.aload_n 0, 1) := by decide +kernel
theorem dX1_holds_49 : decode cX1_holds 49 = .ok (.getfield 10, 3) := by decide +kernel
theorem dX1_holds_52 : decode cX1_holds 52 = .ok (.iload_n 1, 1) := by decide +kernel
theorem dX1_holds_53 : decode cX1_holds 53 = .ok (.iload_n 2, 1) := by decide +kernel
theorem dX1_holds_54 : decode cX1_holds 54 = .ok (.invokestatic 58, 3) := by decide +kernel
theorem dX1_holds_57 : decode cX1_holds 57 = .ok (.ifCond .eq 7, 3) := by decide +kernel
theorem dX1_holds_60 : decode cX1_holds 60 = .ok (.iconst 1, 1) := by decide +kernel
theorem dX1_holds_61 : decode cX1_holds 61 = .ok (.goto 4, 3) := by decide +kernel
theorem dX1_holds_64 : decode cX1_holds 64 = .ok (.iconst 0, 1) := by decide +kernel
theorem dX1_holds_65 : decode cX1_holds 65 = .ok (.ireturn, 1) := by decide +kernel
theorem dX1_isBeside_0 : decode cX1_isBeside 0 = .ok (.aload_n 0, 1) := by decide +kernel
theorem dX1_isBeside_1 : decode cX1_isBeside 1 = .ok (.aload_n 1, 1) := by decide +kernel
theorem dX1_isBeside_2 : decode cX1_isBeside 2 = .ok (.iload_n 3, 1) := by decide +kernel
theorem dX1_isBeside_3 : decode cX1_isBeside 3 = .ok (.iload 4, 2) := by decide +kernel
theorem dX1_isBeside_5 : decode cX1_isBeside 5 = .ok (.invokestatic 38, 3) := by decide +kernel
theorem dX1_isBeside_8 : decode cX1_isBeside 8 = .ok (.lstore 5, 2) := by decide +kernel
theorem dX1_isBeside_10 : decode cX1_isBeside 10 = .ok (.aload_n 0, 1) := by decide +kernel
theorem dX1_isBeside_11 : decode cX1_isBeside 11 = .ok (.aload_n 1, 1) := by decide +kernel
theorem dX1_isBeside_12 : decode cX1_isBeside 12 = .ok (.aload_n 2, 1) := by decide +kernel
theorem dX1_isBeside_13 : decode cX1_isBeside 13 = .ok (.getfield 31, 3) := by decide +kernel
theorem dX1_isBeside_16 : decode cX1_isBeside 16 = .ok (.aload_n 2, 1) := by decide +kernel
theorem dX1_isBeside_17 : decode cX1_isBeside 17 = .ok (.getfield 35, 3) := by decide +kernel
theorem dX1_isBeside_20 : decode cX1_isBeside 20 = .ok (.invokestatic 38, 3) := by decide +kernel
theorem dX1_isBeside_23 : decode cX1_isBeside 23 = .ok (.lstore 7, 2) := by decide +kernel
theorem dX1_isBeside_25 : decode cX1_isBeside 25 = .ok (.lload 5, 2) := by decide +kernel
theorem dX1_isBeside_27 : decode cX1_isBeside 27 = .ok (.lconst 0, 1) := by decide +kernel
theorem dX1_isBeside_28 : decode cX1_isBeside 28 = .ok (.lcmp, 1) := by decide +kernel
theorem dX1_isBeside_29 : decode cX1_isBeside 29 = .ok (.ifCond .eq 37, 3) := by decide +kernel
theorem dX1_isBeside_32 : decode cX1_isBeside 32 = .ok (.lload 7, 2) := by decide +kernel
theorem dX1_isBeside_34 : decode cX1_isBeside 34 = .ok (.lconst 0, 1) := by decide +kernel
theorem dX1_isBeside_35 : decode cX1_isBeside 35 = .ok (.lcmp, 1) := by decide +kernel
theorem dX1_isBeside_36 : decode cX1_isBeside 36 = .ok (.ifCond .eq 30, 3) := by decide +kernel
theorem dX1_isBeside_39 : decode cX1_isBeside 39 = .ok (.lload 5, 2) := by decide +kernel
theorem dX1_isBeside_41 : decode cX1_isBeside 41 = .ok (.lconst 0, 1) := by decide +kernel
theorem dX1_isBeside_42 : decode cX1_isBeside 42 = .ok (.lcmp, 1) := by decide +kernel
theorem dX1_isBeside_43 : decode cX1_isBeside 43 = .ok (.ifCond .le 7, 3) := by decide +kernel
theorem dX1_isBeside_46 : decode cX1_isBeside 46 = .ok (.iconst 1, 1) := by decide +kernel
theorem dX1_isBeside_47 : decode cX1_isBeside 47 = .ok (.goto 4, 3) := by decide +kernel
theorem dX1_isBeside_50 : decode cX1_isBeside 50 = .ok (.iconst 0, 1) := by decide +kernel
theorem dX1_isBeside_51 : decode cX1_isBeside 51 = .ok (.lload 7, 2) := by decide +kernel
theorem dX1_isBeside_53 : decode cX1_isBeside 53 = .ok (.lconst 0, 1) := by decide +kernel
theorem dX1_isBeside_54 : decode cX1_isBeside 54 = .ok (.lcmp, 1) := by decide +kernel
theorem dX1_isBeside_55 : decode cX1_isBeside 55 = .ok (.ifCond .le 7, 3) := by decide +kernel
theorem dX1_isBeside_58 : decode cX1_isBeside 58 = .ok (.iconst 1, 1) := by decide +kernel
theorem dX1_isBeside_59 : decode cX1_isBeside 59 = .ok (.goto 4, 3) := by decide +kernel
theorem dX1_isBeside_62 : decode cX1_isBeside 62 = .ok (.iconst 0, 1) := by decide +kernel
theorem dX1_isBeside_63 : decode cX1_isBeside 63 = .ok (.if_icmp .ne 7, 3) := by decide +kernel
theorem dX1_isBeside_66 : decode cX1_isBeside 66 = .ok (.iconst 1, 1) := by decide +kernel
theorem dX1_isBeside_67 : decode cX1_isBeside 67 = .ok (.goto 4, 3) := by decide +kernel
theorem dX1_isBeside_70 : decode cX1_isBeside 70 = .ok (.iconst 0, 1) := by decide +kernel
theorem dX1_isBeside_71 : decode cX1_isBeside 71 = .ok (.ireturn, 1) := by decide +kernel
theorem dX1_turn_0 : decode cX1_turn 0 = .ok (.aload_n 1, 1) := by decide +kernel
theorem dX1_turn_1 : decode cX1_turn 1 = .ok (.getfield 31, 3) := by decide +kernel
theorem dX1_turn_4 : decode cX1_turn 4 = .ok (.aload_n 0, 1) := by decide +kernel
theorem dX1_turn_5 : decode cX1_turn 5 = .ok (.getfield 31, 3) := by decide +kernel
theorem dX1_turn_8 : decode cX1_turn 8 = .ok (.isub, 1) := by decide +kernel
theorem dX1_turn_9 : decode cX1_turn 9 = .ok (.i2l, 1) := by decide +kernel
theorem dX1_turn_10 : decode cX1_turn 10 = .ok (.iload_n 3, 1) := by decide +kernel
theorem dX1_turn_11 : decode cX1_turn 11 = .ok (.aload_n 0, 1) := by decide +kernel
theorem dX1_turn_12 : decode cX1_turn 12 = .ok (.getfield 35, 3) := by decide +kernel
theorem dX1_turn_15 : decode cX1_turn 15 = .ok (.isub, 1) := by decide +kernel
theorem dX1_turn_16 : decode cX1_turn 16 = .ok (.i2l, 1) := by decide +kernel
theorem dX1_turn_17 : decode cX1_turn 17 = .ok (.lmul, 1) := by decide +kernel
theorem dX1_turn_18 : decode cX1_turn 18 = .ok (.iload_n 2, 1) := by decide +kernel
theorem dX1_turn_19 : decode cX1_turn 19 = .ok (.aload_n 0, 1) := by decide +kernel
theorem dX1_turn_20 : decode cX1_turn 20 = .ok (.getfield 31, 3) := by decide +kernel
theorem dX1_turn_23 : decode cX1_turn 23 = .ok (.isub, 1) := by decide +kernel
theorem dX1_turn_24 : decode cX1_turn 24 = .ok (.i2l, 1) := by decide +kernel
theorem dX1_turn_25 : decode cX1_turn 25 = .ok (.aload_n 1, 1) := by decide +kernel
theorem dX1_turn_26 : decode cX1_turn 26 = .ok (.getfield 35, 3) := by decide +kernel
theorem dX1_turn_29 : decode cX1_turn 29 = .ok (.aload_n 0, 1) := by decide +kernel
theorem dX1_turn_30 : decode cX1_turn 30 = .ok (.getfield 35, 3) := by decide +kernel
theorem dX1_turn_33 : decode cX1_turn 33 = .ok (.isub, 1) := by decide +kernel
theorem dX1_turn_34 : decode cX1_turn 34 = .ok (.i2l, 1) := by decide +kernel
theorem dX1_turn_35 : decode cX1_turn 35 = .ok (.lmul, 1) := by decide +kernel
theorem dX1_turn_36 : decode cX1_turn 36 = .ok (.lsub, 1) := by decide +kernel
theorem dX1_turn_37 : decode cX1_turn 37 = .ok (.lreturn, 1) := by decide +kernel
theorem dX2_init_0 : decode cX2_init 0 = .ok (.aload_n 0, 1) := by decide +kernel
theorem dX2_init_1 : decode cX2_init 1 = .ok (.invokespecial 3, 3) := by decide +kernel
theorem dX2_init_4 : decode cX2_init 4 = .ok (.aload_n 0, 1) := by decide +kernel
theorem dX2_init_5 : decode cX2_init 5 = .ok (.bipush 10, 2) := by decide +kernel
theorem dX2_init_7 : decode cX2_init 7 = .ok (.anewarray 9, 3) := by decide +kernel
theorem dX2_init_10 : decode cX2_init 10 = .ok (.putfield 11, 3) := by decide +kernel
theorem dX2_init_13 : decode cX2_init 13 = .ok (.iconst 0, 1) := by decide +kernel
theorem dX2_init_14 : decode cX2_init 14 = .ok (.istore_n 1, 1) := by decide +kernel
theorem dX2_init_15 : decode cX2_init 15 = .ok (.iload_n 1, 1) := by decide +kernel
theorem dX2_init_16 : decode cX2_init 16 = .ok (.aload_n 0, 1) := by decide +kernel
theorem dX2_init_17 : decode cX2_init 17 = .ok (.getfield 11, 3) := by decide +kernel
theorem dX2_init_20 : decode cX2_init 20 = .ok (.arraylength, 1) := by decide +kernel
theorem dX2_init_21 : decode cX2_init 21 = .ok (.if_icmp .ge 22, 3) := by decide +kernel
theorem dX2_init_24 : decode cX2_init 24 = .ok (.aload_n 0, 1) := by decide +kernel
theorem dX2_init_25 : decode cX2_init 25 = .ok (.getfield 11, 3) := by decide +kernel
theorem dX2_init_28 : decode cX2_init 28 = .ok (.iload_n 1, 1) := by decide +kernel
theorem dX2_init_29 : decode cX2_init 29 = .ok (.new 9, 3) := by decide +kernel
theorem dX2_init_32 : decode cX2_init 32 = .ok (.dup, 1) := by decide +kernel
theorem dX2_init_33 : decode cX2_init 33 = .ok (.invokespecial 17, 3) := by decide +kernel
theorem dX2_init_36 : decode cX2_init 36 = .ok (.aastore, 1) := by decide +kernel
theorem dX2_init_37 : decode cX2_init 37 = .ok (.iinc 1 1, 3) := by decide +kernel
theorem dX2_init_40 : decode cX2_init 40 = .ok (.goto (-25), 3) := by decide +kernel
theorem dX2_init_43 : decode cX2_init 43 = .ok (.return_, 1) := by decide +kernel
theorem dX2_clear_0 : decode cX2_clear 0 = .ok (.aload_n 0, 1) := by decide +kernel
theorem dX2_clear_1 : decode cX2_clear 1 = .ok (.iconst 0, 1) := by decide +kernel
theorem dX2_clear_2 : decode cX2_clear 2 = .ok (.putfield 18, 3) := by decide +kernel
theorem dX2_clear_5 : decode cX2_clear 5 = .ok (.aload_n 0, 1) := by decide +kernel
theorem dX2_clear_6 : decode cX2_clear 6 = .ok (.iconst 0, 1) := by decide +kernel
theorem dX2_clear_7 : decode cX2_clear 7 = .ok (.putfield 22, 3) := by decide +kernel
theorem dX2_clear_10 : decode cX2_clear 10 = .ok (.return_, 1) := by decide +kernel
theorem dX2_remember_0 : decode cX2_remember 0 = .ok (.aload_n 1, 1) := by decide +kernel
theorem dX2_remember_1 : decode cX2_remember 1 = .ok (.aload_n 0, 1) := by decide +kernel
theorem dX2_remember_2 : decode cX2_remember 2 = .ok (.aload_n 0, 1) := by decide +kernel
theorem dX2_remember_3 : decode cX2_remember 3 = .ok (.getfield 18, 3) := by decide +kernel
theorem dX2_remember_6 : decode cX2_remember 6 = .ok (.invokevirtual 25, 3) := by decide +kernel
theorem dX2_remember_9 : decode cX2_remember 9 = .ok (.invokestatic 29, 3) := by decide +kernel
theorem dX2_remember_12 : decode cX2_remember 12 = .ok (.aload_n 0, 1) := by decide +kernel
theorem dX2_remember_13 : decode cX2_remember 13 = .ok (.aload_n 0, 1) := by decide +kernel
theorem dX2_remember_14 : decode cX2_remember 14 = .ok (.getfield 18, 3) := by decide +kernel
theorem dX2_remember_17 : decode cX2_remember 17 = .ok (.iconst 1, 1) := by decide +kernel
theorem dX2_remember_18 : decode cX2_remember 18 = .ok (.iadd, 1) := by decide +kernel
theorem dX2_remember_19 : decode cX2_remember 19 = .ok (.bipush 10, 2) := by decide +kernel
theorem dX2_remember_21 : decode cX2_remember 21 = .ok (.irem, 1) := by decide +kernel
theorem dX2_remember_22 : decode cX2_remember 22 = .ok (.putfield 18, 3) := by decide +kernel
theorem dX2_remember_25 : decode cX2_remember 25 = .ok (.aload_n 0, 1) := by decide +kernel
theorem dX2_remember_26 : decode cX2_remember 26 = .ok (.aload_n 0, 1) := by decide +kernel
theorem dX2_remember_27 : decode cX2_remember 27 = .ok (.getfield 22, 3) := by decide +kernel
theorem dX2_remember_30 : decode cX2_remember 30 = .ok (.iconst 1, 1) := by decide +kernel
theorem dX2_remember_31 : decode cX2_remember 31 = .ok (.iadd, 1) := by decide +kernel
theorem dX2_remember_32 : decode cX2_remember 32 = .ok (.bipush 10, 2) := by decide +kernel
theorem dX2_remember_34 : decode cX2_remember 34 = .ok (.invokestatic 33, 3) := by decide +kernel
theorem dX2_remember_37 : decode cX2_remember 37 = .ok (.putfield 22, 3) := by decide +kernel
theorem dX2_remember_40 : decode cX2_remember 40 = .ok (.return_, 1) := by decide +kernel
theorem dX2_bringBack_0 : decode cX2_bringBack 0 = .ok (.aload_n 0, 1) := by decide +kernel
theorem dX2_bringBack_1 : decode cX2_bringBack 1 = .ok (.aload_n 0, 1) := by decide +kernel
theorem dX2_bringBack_2 : decode cX2_bringBack 2 = .ok (.getfield 18, 3) := by decide +kernel
theorem dX2_bringBack_5 : decode cX2_bringBack 5 = .ok (.bipush 10, 2) := by decide +kernel
theorem dX2_bringBack_7 : decode cX2_bringBack 7 = .ok (.iadd, 1) := by decide +kernel
theorem dX2_bringBack_8 : decode cX2_bringBack 8 = .ok (.iconst 1, 1) := by decide +kernel
theorem dX2_bringBack_9 : decode cX2_bringBack 9 = .ok (.isub, 1) := by decide +kernel
theorem dX2_bringBack_10 : decode cX2_bringBack 10 = .ok (.bipush 10, 2) := by decide +kernel
theorem dX2_bringBack_12 : decode cX2_bringBack 12 = .ok (.irem, 1) := by decide +kernel
theorem dX2_bringBack_13 : decode cX2_bringBack 13 = .ok (.putfield 18, 3) := by decide +kernel
theorem dX2_bringBack_16 : decode cX2_bringBack 16 = .ok (.aload_n 0, 1) := by decide +kernel
theorem dX2_bringBack_17 : decode cX2_bringBack 17 = .ok (.dup, 1) := by decide +kernel
theorem dX2_bringBack_18 : decode cX2_bringBack 18 = .ok (.getfield 22, 3) := by decide +kernel
theorem dX2_bringBack_21 : decode cX2_bringBack 21 = .ok (.iconst 1, 1) := by decide +kernel
theorem dX2_bringBack_22 : decode cX2_bringBack 22 = .ok (.isub, 1) := by decide +kernel
theorem dX2_bringBack_23 : decode cX2_bringBack 23 = .ok (.putfield 22, 3) := by decide +kernel
theorem dX2_bringBack_26 : decode cX2_bringBack 26 = .ok (.aload_n 0, 1) := by decide +kernel
theorem dX2_bringBack_27 : decode cX2_bringBack 27 = .ok (.aload_n 0, 1) := by decide +kernel
theorem dX2_bringBack_28 : decode cX2_bringBack 28 = .ok (.getfield 18, 3) := by decide +kernel
theorem dX2_bringBack_31 : decode cX2_bringBack 31 = .ok (.invokevirtual 25, 3) := by decide +kernel
theorem dX2_bringBack_34 : decode cX2_bringBack 34 = .ok (.aload_n 1, 1) := by decide +kernel
theorem dX2_bringBack_35 : decode cX2_bringBack 35 = .ok (.invokestatic 29, 3) := by decide +kernel
theorem dX2_bringBack_38 : decode cX2_bringBack 38 = .ok (.return_, 1) := by decide +kernel
theorem dX2_logAt_0 : decode cX2_logAt 0 = .ok (.iload_n 1, 1) := by decide +kernel
theorem dX2_logAt_1 : decode cX2_logAt 1 = .ok (.ifCond .lt 12, 3) := by decide +kernel
theorem dX2_logAt_4 : decode cX2_logAt 4 = .ok (.iload_n 1, 1) := by decide +kernel
theorem dX2_logAt_5 : decode cX2_logAt 5 = .ok (.aload_n 0, 1) := by decide +kernel
theorem dX2_logAt_6 : decode cX2_logAt 6 = .ok (.getfield 11, 3) := by decide +kernel
theorem dX2_logAt_9 : decode cX2_logAt 9 = .ok (.arraylength, 1) := by decide +kernel
theorem dX2_logAt_10 : decode cX2_logAt 10 = .ok (.if_icmp .lt 7, 3) := by decide +kernel
theorem dX2_logAt_13 : decode cX2_logAt 13 = .ok (.aconst_null, 1) := by decide +kernel
theorem dX2_logAt_14 : decode cX2_logAt 14 = .ok (.goto 9, 3) := by decide +kernel
theorem dX2_logAt_17 : decode cX2_logAt 17 = .ok (.aload_n 0, 1) := by decide +kernel
theorem dX2_logAt_18 : decode cX2_logAt 18 = .ok (.getfield 11, 3) := by decide +kernel
theorem dX2_logAt_21 : decode cX2_logAt 21 = .ok (.iload_n 1, 1) := by decide +kernel
theorem dX2_logAt_22 : decode cX2_logAt 22 = .ok (.aaload, 1) := by decide +kernel
theorem dX2_logAt_23 : decode cX2_logAt 23 = .ok (.areturn, 1) := by decide +kernel
theorem dX2_copyLog_0 : decode cX2_copyLog 0 = .ok (.aload_n 0, 1) := by decide +kernel
theorem dX2_copyLog_1 : decode cX2_copyLog 1 = .ok (.ifnull 12, 3) := by decide +kernel
theorem dX2_copyLog_4 : decode cX2_copyLog 4 = .ok (.aload_n 1, 1) := by decide +kernel
theorem dX2_copyLog_5 : decode cX2_copyLog 5 = .ok (.ifnull 8, 3) := by decide +kernel
theorem dX2_copyLog_8 : decode cX2_copyLog 8 = .ok (.aload_n 1, 1) := by decide +kernel
theorem dX2_copyLog_9 : decode cX2_copyLog 9 = .ok (.aload_n 0, 1) := by decide +kernel
theorem dX2_copyLog_10 : decode cX2_copyLog 10 = .ok (.invokevirtual 39, 3) := by decide +kernel
theorem dX2_copyLog_13 : decode cX2_copyLog 13 = .ok (.return_, 1) := by decide +kernel
theorem dX3_init_0 : decode cX3_init 0 = .ok (.aload_n 0, 1) := by decide +kernel
theorem dX3_init_1 : decode cX3_init 1 = .ok (.invokespecial 3, 3) := by decide +kernel
theorem dX3_init_4 : decode cX3_init 4 = .ok (.return_, 1) := by decide +kernel
theorem dX3_reduce_0 : decode cX3_reduce 0 = .ok (.aload_n 2, 1) := by decide +kernel
theorem dX3_reduce_1 : decode cX3_reduce 1 = .ok (.getfield 9, 3) := by decide +kernel
theorem dX3_reduce_4 : decode cX3_reduce 4 = .ok (.iload_n 3, 1) := by decide +kernel
theorem dX3_reduce_5 : decode cX3_reduce 5 = .ok (.invokestatic 15, 3) := by decide +kernel
theorem dX3_reduce_8 : decode cX3_reduce 8 = .ok (.istore 5, 2) := by decide +kernel
theorem dX3_reduce_10 : decode cX3_reduce 10 = .ok (.aload_n 1, 1) := by decide +kernel
theorem dX3_reduce_11 : decode cX3_reduce 11 = .ok (.getfield 19, 3) := by decide +kernel
theorem dX3_reduce_14 : decode cX3_reduce 14 = .ok (.iload 5, 2) := by decide +kernel
theorem dX3_reduce_16 : decode cX3_reduce 16 = .ok (.invokestatic 15, 3) := by decide +kernel
theorem dX3_reduce_19 : decode cX3_reduce 19 = .ok (.istore 6, 2) := by decide +kernel
theorem dX3_reduce_21 : decode cX3_reduce 21 = .ok (.aload_n 1, 1) := by decide +kernel
theorem dX3_reduce_22 : decode cX3_reduce 22 = .ok (.getfield 24, 3) := by decide +kernel
theorem dX3_reduce_25 : decode cX3_reduce 25 = .ok (.iload 5, 2) := by decide +kernel
theorem dX3_reduce_27 : decode cX3_reduce 27 = .ok (.invokestatic 15, 3) := by decide +kernel
theorem dX3_reduce_30 : decode cX3_reduce 30 = .ok (.bipush 15, 2) := by decide +kernel
theorem dX3_reduce_32 : decode cX3_reduce 32 = .ok (.aload_n 2, 1) := by decide +kernel
theorem dX3_reduce_33 : decode cX3_reduce 33 = .ok (.getfield 27, 3) := by decide +kernel
theorem dX3_reduce_36 : decode cX3_reduce 36 = .ok (.iload_n 3, 1) := by decide +kernel
theorem dX3_reduce_37 : decode cX3_reduce 37 = .ok (.invokestatic 15, 3) := by decide +kernel
theorem dX3_reduce_40 : decode cX3_reduce 40 = .ok (.imul, 1) := by decide +kernel
theorem dX3_reduce_41 : decode cX3_reduce 41 = .ok (.iadd, 1) := by decide +kernel
theorem dX3_reduce_42 : decode cX3_reduce 42 = .ok (.aload 4, 2) := by decide +kernel
theorem dX3_reduce_44 : decode cX3_reduce 44 = .ok (.getfield 30, 3) := by decide +kernel
theorem dX3_reduce_47 : decode cX3_reduce 47 = .ok (.iadd, 1) := by decide +kernel
theorem dX3_reduce_48 : decode cX3_reduce 48 = .ok (.istore 7, 2) := by decide +kernel
theorem dX3_reduce_50 : decode cX3_reduce 50 = .ok (.aload_n 0, 1) := by decide +kernel
theorem dX3_reduce_51 : decode cX3_reduce 51 = .ok (.aload_n 2, 1) := by decide +kernel
theorem dX3_reduce_52 : decode cX3_reduce 52 = .ok (.getfield 36, 3) := by decide +kernel
theorem dX3_reduce_55 : decode cX3_reduce 55 = .ok (.iload_n 3, 1) := by decide +kernel
theorem dX3_reduce_56 : decode cX3_reduce 56 = .ok (.invokestatic 15, 3) := by decide +kernel
theorem dX3_reduce_59 : decode cX3_reduce 59 = .ok (.aload_n 2, 1) := by decide +kernel
theorem dX3_reduce_60 : decode cX3_reduce 60 = .ok (.getfield 39, 3) := by decide +kernel
theorem dX3_reduce_63 : decode cX3_reduce 63 = .ok (.iadd, 1) := by decide +kernel
theorem dX3_reduce_64 : decode cX3_reduce 64 = .ok (.aload_n 2, 1) := by decide +kernel
theorem dX3_reduce_65 : decode cX3_reduce 65 = .ok (.invokevirtual 42, 3) := by decide +kernel
theorem dX3_reduce_68 : decode cX3_reduce 68 = .ok (.isub, 1) := by decide +kernel
theorem dX3_reduce_69 : decode cX3_reduce 69 = .ok (.putfield 46, 3) := by decide +kernel
theorem dX3_reduce_72 : decode cX3_reduce 72 = .ok (.aload_n 0, 1) := by decide +kernel
theorem dX3_reduce_73 : decode cX3_reduce 73 = .ok (.aload_n 0, 1) := by decide +kernel
theorem dX3_reduce_74 : decode cX3_reduce 74 = .ok (.getfield 46, 3) := by decide +kernel
theorem dX3_reduce_77 : decode cX3_reduce 77 = .ok (.aload_n 0, 1) := by decide +kernel
theorem dX3_reduce_78 : decode cX3_reduce 78 = .ok (.getfield 46, 3) := by decide +kernel
theorem dX3_reduce_81 : decode cX3_reduce 81 = .ok (.invokestatic 51, 3) := by decide +kernel
theorem dX3_reduce_84 : decode cX3_reduce 84 = .ok (.i2l, 1) := by decide +kernel
theorem dX3_reduce_85 : decode cX3_reduce 85 = .ok (.aload_n 0, 1) := by decide +kernel
theorem dX3_reduce_86 : decode cX3_reduce 86 = .ok (.getfield 46, 3) := by decide +kernel
theorem dX3_reduce_89 : decode cX3_reduce 89 = .ok (.invokestatic 55, 3) := by decide +kernel
theorem dX3_reduce_92 : decode cX3_reduce 92 = .ok (.i2l, 1) := by decide +kernel
theorem dX3_reduce_93 : decode cX3_reduce 93 = .ok (.invokestatic 58, 3) := by decide +kernel
theorem dX3_reduce_96 : decode cX3_reduce 96 = .ok (.l2i, 1) := by decide +kernel
theorem dX3_reduce_97 : decode cX3_reduce 97 = .ok (.isub, 1) := by decide +kernel
theorem dX3_reduce_98 : decode cX3_reduce 98 = .ok (.putfield 62, 3) := by decide +kernel
theorem dX3_reduce_101 : decode cX3_reduce 101 = .ok (.aload_n 0, 1) := by decide +kernel
theorem dX3_reduce_102 : decode cX3_reduce 102 = .ok (.aload 4, 2) := by decide +kernel
theorem dX3_reduce_104 : decode cX3_reduce 104 = .ok (.getfield 65, 3) := by decide +kernel
theorem dX3_reduce_107 : decode cX3_reduce 107 = .ok (.iload 6, 2) := by decide +kernel
theorem dX3_reduce_109 : decode cX3_reduce 109 = .ok (.iload 7, 2) := by decide +kernel
theorem dX3_reduce_111 : decode cX3_reduce 111 = .ok (.invokestatic 68, 3) := by decide +kernel
theorem dX3_reduce_114 : decode cX3_reduce 114 = .ok (.putfield 72, 3) := by decide +kernel
theorem dX3_reduce_117 : decode cX3_reduce 117 = .ok (.aload_n 0, 1) := by decide +kernel
theorem dX3_reduce_118 : decode cX3_reduce 118 = .ok (.aload 4, 2) := by decide +kernel
theorem dX3_reduce_120 : decode cX3_reduce 120 = .ok (.getfield 65, 3) := by decide +kernel
theorem dX3_reduce_123 : decode cX3_reduce 123 = .ok (.iload 6, 2) := by decide +kernel
theorem dX3_reduce_125 : decode cX3_reduce 125 = .ok (.iload 7, 2) := by decide +kernel
theorem dX3_reduce_127 : decode cX3_reduce 127 = .ok (.aload_n 0, 1) := by decide +kernel
theorem dX3_reduce_128 : decode cX3_reduce 128 = .ok (.getfield 72, 3) := by decide +kernel
theorem dX3_reduce_131 : decode cX3_reduce 131 = .ok (.invokestatic 75, 3) := by decide +kernel
theorem dX3_reduce_134 : decode cX3_reduce 134 = .ok (.putfield 79, 3) := by decide +kernel
theorem dX3_reduce_137 : decode cX3_reduce 137 = .ok (.aload_n 0, 1) := by decide +kernel
theorem dX3_reduce_138 : decode cX3_reduce 138 = .ok (.aload_n 0, 1) := by decide +kernel
theorem dX3_reduce_139 : decode cX3_reduce 139 = .ok (.getfield 62, 3) := by decide +kernel
theorem dX3_reduce_142 : decode cX3_reduce 142 = .ok (.aload_n 0, 1) := by decide +kernel
theorem dX3_reduce_143 : decode cX3_reduce 143 = .ok (.getfield 72, 3) := by decide +kernel
theorem dX3_reduce_146 : decode cX3_reduce 146 = .ok (.isub, 1) := by decide +kernel
theorem dX3_reduce_147 : decode cX3_reduce 147 = .ok (.putfield 82, 3) := by decide +kernel
theorem dX3_reduce_150 : decode cX3_reduce 150 = .ok (.aload_n 0, 1) := by decide +kernel
theorem dX3_reduce_151 : decode cX3_reduce 151 = .ok (.aload_n 0, 1) := by decide +kernel
theorem dX3_reduce_152 : decode cX3_reduce 152 = .ok (.getfield 79, 3) := by decide +kernel
theorem dX3_reduce_155 : decode cX3_reduce 155 = .ok (.invokestatic 55, 3) := by decide +kernel
theorem dX3_reduce_158 : decode cX3_reduce 158 = .ok (.putfield 85, 3) := by decide +kernel
theorem dX3_reduce_161 : decode cX3_reduce 161 = .ok (.aload_n 0, 1) := by decide +kernel
theorem dX3_reduce_162 : decode cX3_reduce 162 = .ok (.aload_n 0, 1) := by decide +kernel
theorem dX3_reduce_163 : decode cX3_reduce 163 = .ok (.getfield 79, 3) := by decide +kernel
theorem dX3_reduce_166 : decode cX3_reduce 166 = .ok (.invokestatic 51, 3) := by decide +kernel
theorem dX3_reduce_169 : decode cX3_reduce 169 = .ok (.putfield 88, 3) := by decide +kernel
theorem dX3_reduce_172 : decode cX3_reduce 172 = .ok (.aload 4, 2) := by decide +kernel
theorem dX3_reduce_174 : decode cX3_reduce 174 = .ok (.getfield 30, 3) := by decide +kernel
theorem dX3_reduce_177 : decode cX3_reduce 177 = .ok (.i2l, 1) := by decide +kernel
theorem dX3_reduce_178 : decode cX3_reduce 178 = .ok (.aload_n 1, 1) := by decide +kernel
theorem dX3_reduce_179 : decode cX3_reduce 179 = .ok (.getfield 91, 3) := by decide +kernel
theorem dX3_reduce_182 : decode cX3_reduce 182 = .ok (.i2l, 1) := by decide +kernel
theorem dX3_reduce_183 : decode cX3_reduce 183 = .ok (.lsub, 1) := by decide +kernel
theorem dX3_reduce_184 : decode cX3_reduce 184 = .ok (.invokestatic 92, 3) := by decide +kernel
theorem dX3_reduce_187 : decode cX3_reduce 187 = .ok (.i2l, 1) := by decide +kernel
theorem dX3_reduce_188 : decode cX3_reduce 188 = .ok (.lstore 8, 2) := by decide +kernel
theorem dX3_reduce_190 : decode cX3_reduce 190 = .ok (.lload 8, 2) := by decide +kernel
theorem dX3_reduce_192 : decode cX3_reduce 192 = .ok (.aload_n 1, 1) := by decide +kernel
theorem dX3_reduce_193 : decode cX3_reduce 193 = .ok (.getfield 96, 3) := by decide +kernel
theorem dX3_reduce_196 : decode cX3_reduce 196 = .ok (.invokestatic 51, 3) := by decide +kernel
theorem dX3_reduce_199 : decode cX3_reduce 199 = .ok (.i2l, 1) := by decide +kernel
theorem dX3_reduce_200 : decode cX3_reduce 200 = .ok (.lmul, 1) := by decide +kernel
theorem dX3_reduce_201 : decode cX3_reduce 201 = .ok (.ldc2_w 97, 3) := by decide +kernel
theorem dX3_reduce_204 : decode cX3_reduce 204 = .ok (.invokestatic 58, 3) := by decide +kernel
theorem dX3_reduce_207 : decode cX3_reduce 207 = .ok (.lstore 10, 2) := by decide +kernel
theorem dX3_reduce_209 : decode cX3_reduce 209 = .ok (.ldc2_w 99, 3) := by decide +kernel
theorem dX3_reduce_212 : decode cX3_reduce 212 = .ok (.aload 4, 2) := by decide +kernel
theorem dX3_reduce_214 : decode cX3_reduce 214 = .ok (.getfield 65, 3) := by decide +kernel
theorem dX3_reduce_217 : decode cX3_reduce 217 = .ok (.aload_n 1, 1) := by decide +kernel
theorem dX3_reduce_218 : decode cX3_reduce 218 = .ok (.getfield 96, 3) := by decide +kernel
theorem dX3_reduce_221 : decode cX3_reduce 221 = .ok (.isub, 1) := by decide +kernel
theorem dX3_reduce_222 : decode cX3_reduce 222 = .ok (.i2l, 1) := by decide +kernel
theorem dX3_reduce_223 : decode cX3_reduce 223 = .ok (.lmul, 1) := by decide +kernel
theorem dX3_reduce_224 : decode cX3_reduce 224 = .ok (.lstore 12, 2) := by decide +kernel
theorem dX3_reduce_226 : decode cX3_reduce 226 = .ok (.aload_n 0, 1) := by decide +kernel
theorem dX3_reduce_227 : decode cX3_reduce 227 = .ok (.aload_n 0, 1) := by decide +kernel
theorem dX3_reduce_228 : decode cX3_reduce 228 = .ok (.lload 10, 2) := by decide +kernel
theorem dX3_reduce_230 : decode cX3_reduce 230 = .ok (.lload 12, 2) := by decide +kernel
theorem dX3_reduce_232 : decode cX3_reduce 232 = .ok (.invokevirtual 101, 3) := by decide +kernel
theorem dX3_reduce_235 : decode cX3_reduce 235 = .ok (.bipush 100, 2) := by decide +kernel
theorem dX3_reduce_237 : decode cX3_reduce 237 = .ok (.aload_n 0, 1) := by decide +kernel
theorem dX3_reduce_238 : decode cX3_reduce 238 = .ok (.getfield 82, 3) := by decide +kernel
theorem dX3_reduce_241 : decode cX3_reduce 241 = .ok (.imul, 1) := by decide +kernel
theorem dX3_reduce_242 : decode cX3_reduce 242 = .ok (.iadd, 1) := by decide +kernel
theorem dX3_reduce_243 : decode cX3_reduce 243 = .ok (.putfield 105, 3) := by decide +kernel
theorem dX3_reduce_246 : decode cX3_reduce 246 = .ok (.return_, 1) := by decide +kernel
theorem dX3_carry_0 : decode cX3_carry 0 = .ok (.aload_n 0, 1) := by decide +kernel
theorem dX3_carry_1 : decode cX3_carry 1 = .ok (.aload_n 0, 1) := by decide +kernel
theorem dX3_carry_2 : decode cX3_carry 2 = .ok (.getfield 105, 3) := by decide +kernel
theorem dX3_carry_5 : decode cX3_carry 5 = .ok (.aload_n 0, 1) := by decide +kernel
theorem dX3_carry_6 : decode cX3_carry 6 = .ok (.iload_n 1, 1) := by decide +kernel
theorem dX3_carry_7 : decode cX3_carry 7 = .ok (.i2l, 1) := by decide +kernel
theorem dX3_carry_8 : decode cX3_carry 8 = .ok (.iload_n 2, 1) := by decide +kernel
theorem dX3_carry_9 : decode cX3_carry 9 = .ok (.i2l, 1) := by decide +kernel
theorem dX3_carry_10 : decode cX3_carry 10 = .ok (.invokevirtual 101, 3) := by decide +kernel
theorem dX3_carry_13 : decode cX3_carry 13 = .ok (.iadd, 1) := by decide +kernel
theorem dX3_carry_14 : decode cX3_carry 14 = .ok (.putfield 108, 3) := by decide +kernel
theorem dX3_carry_17 : decode cX3_carry 17 = .ok (.return_, 1) := by decide +kernel
theorem dX3_missedBy_0 : decode cX3_missedBy 0 = .ok (.aload_n 0, 1) := by decide +kernel
theorem dX3_missedBy_1 : decode cX3_missedBy 1 = .ok (.aload_n 1, 1) := by decide +kernel
theorem dX3_missedBy_2 : decode cX3_missedBy 2 = .ok (.getfield 111, 3) := by decide +kernel
theorem dX3_missedBy_5 : decode cX3_missedBy 5 = .ok (.i2l, 1) := by decide +kernel
theorem dX3_missedBy_6 : decode cX3_missedBy 6 = .ok (.aload_n 1, 1) := by decide +kernel
theorem dX3_missedBy_7 : decode cX3_missedBy 7 = .ok (.getfield 116, 3) := by decide +kernel
theorem dX3_missedBy_10 : decode cX3_missedBy 10 = .ok (.i2l, 1) := by decide +kernel
theorem dX3_missedBy_11 : decode cX3_missedBy 11 = .ok (.invokevirtual 101, 3) := by decide +kernel
theorem dX3_missedBy_14 : decode cX3_missedBy 14 = .ok (.aload_n 0, 1) := by decide +kernel
theorem dX3_missedBy_15 : decode cX3_missedBy 15 = .ok (.getfield 108, 3) := by decide +kernel
theorem dX3_missedBy_18 : decode cX3_missedBy 18 = .ok (.isub, 1) := by decide +kernel
theorem dX3_missedBy_19 : decode cX3_missedBy 19 = .ok (.ireturn, 1) := by decide +kernel
theorem dX3_along_0 : decode cX3_along 0 = .ok (.lload_n 1, 1) := by decide +kernel
theorem dX3_along_1 : decode cX3_along 1 = .ok (.aload_n 0, 1) := by decide +kernel
theorem dX3_along_2 : decode cX3_along 2 = .ok (.getfield 85, 3) := by decide +kernel
theorem dX3_along_5 : decode cX3_along 5 = .ok (.i2l, 1) := by decide +kernel
theorem dX3_along_6 : decode cX3_along 6 = .ok (.lmul, 1) := by decide +kernel
theorem dX3_along_7 : decode cX3_along 7 = .ok (.lload_n 3, 1) := by decide +kernel
theorem dX3_along_8 : decode cX3_along 8 = .ok (.aload_n 0, 1) := by decide +kernel
theorem dX3_along_9 : decode cX3_along 9 = .ok (.getfield 88, 3) := by decide +kernel
theorem dX3_along_12 : decode cX3_along 12 = .ok (.i2l, 1) := by decide +kernel
theorem dX3_along_13 : decode cX3_along 13 = .ok (.lmul, 1) := by decide +kernel
theorem dX3_along_14 : decode cX3_along 14 = .ok (.ladd, 1) := by decide +kernel
theorem dX3_along_15 : decode cX3_along 15 = .ok (.ldc2_w 119, 3) := by decide +kernel
theorem dX3_along_18 : decode cX3_along 18 = .ok (.invokestatic 58, 3) := by decide +kernel
theorem dX3_along_21 : decode cX3_along 21 = .ok (.l2i, 1) := by decide +kernel
theorem dX3_along_22 : decode cX3_along 22 = .ok (.ireturn, 1) := by decide +kernel
theorem dX3_expectedAltitude_0 : decode cX3_expectedAltitude 0 = .ok (.iload_n 0, 1) := by decide +kernel
theorem dX3_expectedAltitude_1 : decode cX3_expectedAltitude 1 = .ok (.invokestatic 55, 3) := by decide +kernel
theorem dX3_expectedAltitude_4 : decode cX3_expectedAltitude 4 = .ok (.i2l, 1) := by decide +kernel
theorem dX3_expectedAltitude_5 : decode cX3_expectedAltitude 5 = .ok (.iload_n 1, 1) := by decide +kernel
theorem dX3_expectedAltitude_6 : decode cX3_expectedAltitude 6 = .ok (.invokestatic 55, 3) := by decide +kernel
theorem dX3_expectedAltitude_9 : decode cX3_expectedAltitude 9 = .ok (.i2l, 1) := by decide +kernel
theorem dX3_expectedAltitude_10 : decode cX3_expectedAltitude 10 = .ok (.invokestatic 121, 3) := by decide +kernel
theorem dX3_expectedAltitude_13 : decode cX3_expectedAltitude 13 = .ok (.lstore_n 3, 1) := by decide +kernel
theorem dX3_expectedAltitude_14 : decode cX3_expectedAltitude 14 = .ok (.iload_n 0, 1) := by decide +kernel
theorem dX3_expectedAltitude_15 : decode cX3_expectedAltitude 15 = .ok (.invokestatic 51, 3) := by decide +kernel
theorem dX3_expectedAltitude_18 : decode cX3_expectedAltitude 18 = .ok (.i2l, 1) := by decide +kernel
theorem dX3_expectedAltitude_19 : decode cX3_expectedAltitude 19 = .ok (.iload_n 1, 1) := by decide +kernel
theorem dX3_expectedAltitude_20 : decode cX3_expectedAltitude 20 = .ok (.invokestatic 51, 3) := by decide +kernel
theorem dX3_expectedAltitude_23 : decode cX3_expectedAltitude 23 = .ok (.i2l, 1) := by decide +kernel
theorem dX3_expectedAltitude_24 : decode cX3_expectedAltitude 24 = .ok (.invokestatic 121, 3) := by decide +kernel
theorem dX3_expectedAltitude_27 : decode cX3_expectedAltitude 27 = .ok (.lstore 5, 2) := by decide +kernel
theorem dX3_expectedAltitude_29 : decode cX3_expectedAltitude 29 = .ok (.lload_n 3, 1) := by decide +kernel
theorem dX3_expectedAltitude_30 : decode cX3_expectedAltitude 30 = .ok (.lload 5, 2) := by decide +kernel
theorem dX3_expectedAltitude_32 : decode cX3_expectedAltitude 32 = .ok (.iload_n 2, 1) := by decide +kernel
theorem dX3_expectedAltitude_33 : decode cX3_expectedAltitude 33 = .ok (.invokestatic 51, 3) := by decide +kernel
theorem dX3_expectedAltitude_36 : decode cX3_expectedAltitude 36 = .ok (.i2l, 1) := by decide +kernel
theorem dX3_expectedAltitude_37 : decode cX3_expectedAltitude 37 = .ok (.invokestatic 121, 3) := by decide +kernel
theorem dX3_expectedAltitude_40 : decode cX3_expectedAltitude 40 = .ok (.ladd, 1) := by decide +kernel
theorem dX3_expectedAltitude_41 : decode cX3_expectedAltitude 41 = .ok (.invokestatic 124, 3) := by decide +kernel
theorem dX3_expectedAltitude_44 : decode cX3_expectedAltitude 44 = .ok (.invokestatic 127, 3) := by decide +kernel
theorem dX3_expectedAltitude_47 : decode cX3_expectedAltitude 47 = .ok (.ireturn, 1) := by decide +kernel
theorem dX3_azimuthTo_0 : decode cX3_azimuthTo 0 = .ok (.iload_n 0, 1) := by decide +kernel
theorem dX3_azimuthTo_1 : decode cX3_azimuthTo 1 = .ok (.invokestatic 51, 3) := by decide +kernel
theorem dX3_azimuthTo_4 : decode cX3_azimuthTo 4 = .ok (.i2l, 1) := by decide +kernel
theorem dX3_azimuthTo_5 : decode cX3_azimuthTo 5 = .ok (.iload_n 3, 1) := by decide +kernel
theorem dX3_azimuthTo_6 : decode cX3_azimuthTo 6 = .ok (.invokestatic 51, 3) := by decide +kernel
theorem dX3_azimuthTo_9 : decode cX3_azimuthTo 9 = .ok (.i2l, 1) := by decide +kernel
theorem dX3_azimuthTo_10 : decode cX3_azimuthTo 10 = .ok (.invokestatic 121, 3) := by decide +kernel
theorem dX3_azimuthTo_13 : decode cX3_azimuthTo 13 = .ok (.lstore 4, 2) := by decide +kernel
theorem dX3_azimuthTo_15 : decode cX3_azimuthTo 15 = .ok (.ldc 130, 2) := by decide +kernel
theorem dX3_azimuthTo_17 : decode cX3_azimuthTo 17 = .ok (.istore 6, 2) := by decide +kernel
theorem dX3_azimuthTo_19 : decode cX3_azimuthTo 19 = .ok (.lload 4, 2) := by decide +kernel
theorem dX3_azimuthTo_21 : decode cX3_azimuthTo 21 = .ok (.lconst 0, 1) := by decide +kernel
theorem dX3_azimuthTo_22 : decode cX3_azimuthTo 22 = .ok (.lcmp, 1) := by decide +kernel
theorem dX3_azimuthTo_23 : decode cX3_azimuthTo 23 = .ok (.ifCond .le 40, 3) := by decide +kernel
theorem dX3_azimuthTo_26 : decode cX3_azimuthTo 26 = .ok (.iload_n 1, 1) := by decide +kernel
theorem dX3_azimuthTo_27 : decode cX3_azimuthTo 27 = .ok (.invokestatic 55, 3) := by decide +kernel
theorem dX3_azimuthTo_30 : decode cX3_azimuthTo 30 = .ok (.i2l, 1) := by decide +kernel
theorem dX3_azimuthTo_31 : decode cX3_azimuthTo 31 = .ok (.iload_n 0, 1) := by decide +kernel
theorem dX3_azimuthTo_32 : decode cX3_azimuthTo 32 = .ok (.invokestatic 55, 3) := by decide +kernel
theorem dX3_azimuthTo_35 : decode cX3_azimuthTo 35 = .ok (.i2l, 1) := by decide +kernel
theorem dX3_azimuthTo_36 : decode cX3_azimuthTo 36 = .ok (.iload_n 3, 1) := by decide +kernel
theorem dX3_azimuthTo_37 : decode cX3_azimuthTo 37 = .ok (.invokestatic 55, 3) := by decide +kernel
theorem dX3_azimuthTo_40 : decode cX3_azimuthTo 40 = .ok (.i2l, 1) := by decide +kernel
theorem dX3_azimuthTo_41 : decode cX3_azimuthTo 41 = .ok (.invokestatic 121, 3) := by decide +kernel
theorem dX3_azimuthTo_44 : decode cX3_azimuthTo 44 = .ok (.lsub, 1) := by decide +kernel
theorem dX3_azimuthTo_45 : decode cX3_azimuthTo 45 = .ok (.lstore 7, 2) := by decide +kernel
theorem dX3_azimuthTo_47 : decode cX3_azimuthTo 47 = .ok (.lload 7, 2) := by decide +kernel
theorem dX3_azimuthTo_49 : decode cX3_azimuthTo 49 = .ok (.ldc2_w 119, 3) := by decide +kernel
theorem dX3_azimuthTo_52 : decode cX3_azimuthTo 52 = .ok (.lmul, 1) := by decide +kernel
theorem dX3_azimuthTo_53 : decode cX3_azimuthTo 53 = .ok (.lload 4, 2) := by decide +kernel
theorem dX3_azimuthTo_55 : decode cX3_azimuthTo 55 = .ok (.invokestatic 58, 3) := by decide +kernel
theorem dX3_azimuthTo_58 : decode cX3_azimuthTo 58 = .ok (.invokestatic 124, 3) := by decide +kernel
theorem dX3_azimuthTo_61 : decode cX3_azimuthTo 61 = .ok (.istore 6, 2) := by decide +kernel
theorem dX3_azimuthTo_63 : decode cX3_azimuthTo 63 = .ok (.sipush 5400, 3) := by decide +kernel
theorem dX3_azimuthTo_66 : decode cX3_azimuthTo 66 = .ok (.iload 6, 2) := by decide +kernel
theorem dX3_azimuthTo_68 : decode cX3_azimuthTo 68 = .ok (.invokestatic 127, 3) := by decide +kernel
theorem dX3_azimuthTo_71 : decode cX3_azimuthTo 71 = .ok (.isub, 1) := by decide +kernel
theorem dX3_azimuthTo_72 : decode cX3_azimuthTo 72 = .ok (.istore 7, 2) := by decide +kernel
theorem dX3_azimuthTo_74 : decode cX3_azimuthTo 74 = .ok (.iload_n 2, 1) := by decide +kernel
theorem dX3_azimuthTo_75 : decode cX3_azimuthTo 75 = .ok (.invokestatic 55, 3) := by decide +kernel
theorem dX3_azimuthTo_78 : decode cX3_azimuthTo 78 = .ok (.ifCond .gt 6, 3) := by decide +kernel
theorem dX3_azimuthTo_81 : decode cX3_azimuthTo 81 = .ok (.iload 7, 2) := by decide +kernel
theorem dX3_azimuthTo_83 : decode cX3_azimuthTo 83 = .ok (.ireturn, 1) := by decide +kernel
theorem dX3_azimuthTo_84 : decode cX3_azimuthTo 84 = .ok (.iload 7, 2) := by decide +kernel
theorem dX3_azimuthTo_86 : decode cX3_azimuthTo 86 = .ok (.ifCond .ne 7, 3) := by decide +kernel
theorem dX3_azimuthTo_89 : decode cX3_azimuthTo 89 = .ok (.iconst 0, 1) := by decide +kernel
theorem dX3_azimuthTo_90 : decode cX3_azimuthTo 90 = .ok (.goto 9, 3) := by decide +kernel
theorem dX3_azimuthTo_93 : decode cX3_azimuthTo 93 = .ok (.sipush 21600, 3) := by decide +kernel
theorem dX3_azimuthTo_96 : decode cX3_azimuthTo 96 = .ok (.iload 7, 2) := by decide +kernel
theorem dX3_azimuthTo_98 : decode cX3_azimuthTo 98 = .ok (.isub, 1) := by decide +kernel
theorem dX3_azimuthTo_99 : decode cX3_azimuthTo 99 = .ok (.ireturn, 1) := by decide +kernel
theorem dX4_init_0 : decode cX4_init 0 = .ok (.aload_n 0, 1) := by decide +kernel
theorem dX4_init_1 : decode cX4_init 1 = .ok (.invokespecial 3, 3) := by decide +kernel
theorem dX4_init_4 : decode cX4_init 4 = .ok (.aload_n 0, 1) := by decide +kernel
theorem dX4_init_5 : decode cX4_init 5 = .ok (.bipush 8, 2) := by decide +kernel
theorem dX4_init_7 : decode cX4_init 7 = .ok (.newarray .int, 2) := by decide +kernel
theorem dX4_init_9 : decode cX4_init 9 = .ok (.putfield 9, 3) := by decide +kernel
theorem dX4_init_12 : decode cX4_init 12 = .ok (.aload_n 0, 1) := by decide +kernel
theorem dX4_init_13 : decode cX4_init 13 = .ok (.bipush 8, 2) := by decide +kernel
theorem dX4_init_15 : decode cX4_init 15 = .ok (.newarray .int, 2) := by decide +kernel
theorem dX4_init_17 : decode cX4_init 17 = .ok (.putfield 15, 3) := by decide +kernel
theorem dX4_init_20 : decode cX4_init 20 = .ok (.aload_n 0, 1) := by decide +kernel
theorem dX4_init_21 : decode cX4_init 21 = .ok (.bipush 8, 2) := by decide +kernel
theorem dX4_init_23 : decode cX4_init 23 = .ok (.newarray .int, 2) := by decide +kernel
theorem dX4_init_25 : decode cX4_init 25 = .ok (.putfield 18, 3) := by decide +kernel
theorem dX4_init_28 : decode cX4_init 28 = .ok (.aload_n 0, 1) := by decide +kernel
theorem dX4_init_29 : decode cX4_init 29 = .ok (.bipush 12, 2) := by decide +kernel
theorem dX4_init_31 : decode cX4_init 31 = .ok (.newarray .int, 2) := by decide +kernel
theorem dX4_init_33 : decode cX4_init 33 = .ok (.putfield 21, 3) := by decide +kernel
theorem dX4_init_36 : decode cX4_init 36 = .ok (.aload_n 0, 1) := by decide +kernel
theorem dX4_init_37 : decode cX4_init 37 = .ok (.bipush 12, 2) := by decide +kernel
theorem dX4_init_39 : decode cX4_init 39 = .ok (.newarray .int, 2) := by decide +kernel
theorem dX4_init_41 : decode cX4_init 41 = .ok (.putfield 24, 3) := by decide +kernel
theorem dX4_init_44 : decode cX4_init 44 = .ok (.aload_n 0, 1) := by decide +kernel
theorem dX4_init_45 : decode cX4_init 45 = .ok (.bipush 12, 2) := by decide +kernel
theorem dX4_init_47 : decode cX4_init 47 = .ok (.newarray .int, 2) := by decide +kernel
theorem dX4_init_49 : decode cX4_init 49 = .ok (.putfield 27, 3) := by decide +kernel
theorem dX4_init_52 : decode cX4_init 52 = .ok (.return_, 1) := by decide +kernel
theorem dX4_clear_0 : decode cX4_clear 0 = .ok (.aload_n 0, 1) := by decide +kernel
theorem dX4_clear_1 : decode cX4_clear 1 = .ok (.iconst 0, 1) := by decide +kernel
theorem dX4_clear_2 : decode cX4_clear 2 = .ok (.putfield 30, 3) := by decide +kernel
theorem dX4_clear_5 : decode cX4_clear 5 = .ok (.aload_n 0, 1) := by decide +kernel
theorem dX4_clear_6 : decode cX4_clear 6 = .ok (.iconst 0, 1) := by decide +kernel
theorem dX4_clear_7 : decode cX4_clear 7 = .ok (.putfield 34, 3) := by decide +kernel
theorem dX4_clear_10 : decode cX4_clear 10 = .ok (.aload_n 0, 1) := by decide +kernel
theorem dX4_clear_11 : decode cX4_clear 11 = .ok (.iconst 0, 1) := by decide +kernel
theorem dX4_clear_12 : decode cX4_clear 12 = .ok (.putfield 37, 3) := by decide +kernel
theorem dX4_clear_15 : decode cX4_clear 15 = .ok (.aload_n 0, 1) := by decide +kernel
theorem dX4_clear_16 : decode cX4_clear 16 = .ok (.iconst 0, 1) := by decide +kernel
theorem dX4_clear_17 : decode cX4_clear 17 = .ok (.putfield 40, 3) := by decide +kernel
theorem dX4_clear_20 : decode cX4_clear 20 = .ok (.aload_n 0, 1) := by decide +kernel
theorem dX4_clear_21 : decode cX4_clear 21 = .ok (.iconst 0, 1) := by decide +kernel
theorem dX4_clear_22 : decode cX4_clear 22 = .ok (.putfield 43, 3) := by decide +kernel
theorem dX4_clear_25 : decode cX4_clear 25 = .ok (.aload_n 0, 1) := by decide +kernel
theorem dX4_clear_26 : decode cX4_clear 26 = .ok (.iconst 0, 1) := by decide +kernel
theorem dX4_clear_27 : decode cX4_clear 27 = .ok (.putfield 46, 3) := by decide +kernel
theorem dX4_clear_30 : decode cX4_clear 30 = .ok (.return_, 1) := by decide +kernel
theorem dX4_copyFrom_0 : decode cX4_copyFrom 0 = .ok (.aload_n 0, 1) := by decide +kernel
theorem dX4_copyFrom_1 : decode cX4_copyFrom 1 = .ok (.aload_n 1, 1) := by decide +kernel
theorem dX4_copyFrom_2 : decode cX4_copyFrom 2 = .ok (.getfield 30, 3) := by decide +kernel
theorem dX4_copyFrom_5 : decode cX4_copyFrom 5 = .ok (.putfield 30, 3) := by decide +kernel
theorem dX4_copyFrom_8 : decode cX4_copyFrom 8 = .ok (.aload_n 0, 1) := by decide +kernel
theorem dX4_copyFrom_9 : decode cX4_copyFrom 9 = .ok (.aload_n 1, 1) := by decide +kernel
theorem dX4_copyFrom_10 : decode cX4_copyFrom 10 = .ok (.getfield 34, 3) := by decide +kernel
theorem dX4_copyFrom_13 : decode cX4_copyFrom 13 = .ok (.putfield 34, 3) := by decide +kernel
theorem dX4_copyFrom_16 : decode cX4_copyFrom 16 = .ok (.aload_n 0, 1) := by decide +kernel
theorem dX4_copyFrom_17 : decode cX4_copyFrom 17 = .ok (.aload_n 1, 1) := by decide +kernel
theorem dX4_copyFrom_18 : decode cX4_copyFrom 18 = .ok (.getfield 37, 3) := by decide +kernel
theorem dX4_copyFrom_21 : decode cX4_copyFrom 21 = .ok (.putfield 37, 3) := by decide +kernel
theorem dX4_copyFrom_24 : decode cX4_copyFrom 24 = .ok (.aload_n 0, 1) := by decide +kernel
theorem dX4_copyFrom_25 : decode cX4_copyFrom 25 = .ok (.aload_n 1, 1) := by decide +kernel
theorem dX4_copyFrom_26 : decode cX4_copyFrom 26 = .ok (.getfield 40, 3) := by decide +kernel
theorem dX4_copyFrom_29 : decode cX4_copyFrom 29 = .ok (.putfield 40, 3) := by decide +kernel
theorem dX4_copyFrom_32 : decode cX4_copyFrom 32 = .ok (.aload_n 0, 1) := by decide +kernel
theorem dX4_copyFrom_33 : decode cX4_copyFrom 33 = .ok (.aload_n 1, 1) := by decide +kernel
theorem dX4_copyFrom_34 : decode cX4_copyFrom 34 = .ok (.getfield 43, 3) := by decide +kernel
theorem dX4_copyFrom_37 : decode cX4_copyFrom 37 = .ok (.putfield 43, 3) := by decide +kernel
theorem dX4_copyFrom_40 : decode cX4_copyFrom 40 = .ok (.aload_n 1, 1) := by decide +kernel
theorem dX4_copyFrom_41 : decode cX4_copyFrom 41 = .ok (.getfield 9, 3) := by decide +kernel
theorem dX4_copyFrom_44 : decode cX4_copyFrom 44 = .ok (.aload_n 0, 1) := by decide +kernel
theorem dX4_copyFrom_45 : decode cX4_copyFrom 45 = .ok (.getfield 9, 3) := by decide +kernel
theorem dX4_copyFrom_48 : decode cX4_copyFrom 48 = .ok (.invokestatic 49, 3) := by decide +kernel
theorem dX4_copyFrom_51 : decode cX4_copyFrom 51 = .ok (.aload_n 1, 1) := by decide +kernel
theorem dX4_copyFrom_52 : decode cX4_copyFrom 52 = .ok (.getfield 15, 3) := by decide +kernel
theorem dX4_copyFrom_55 : decode cX4_copyFrom 55 = .ok (.aload_n 0, 1) := by decide +kernel
theorem dX4_copyFrom_56 : decode cX4_copyFrom 56 = .ok (.getfield 15, 3) := by decide +kernel
theorem dX4_copyFrom_59 : decode cX4_copyFrom 59 = .ok (.invokestatic 49, 3) := by decide +kernel
theorem dX4_copyFrom_62 : decode cX4_copyFrom 62 = .ok (.aload_n 1, 1) := by decide +kernel
theorem dX4_copyFrom_63 : decode cX4_copyFrom 63 = .ok (.getfield 18, 3) := by decide +kernel
theorem dX4_copyFrom_66 : decode cX4_copyFrom 66 = .ok (.aload_n 0, 1) := by decide +kernel
theorem dX4_copyFrom_67 : decode cX4_copyFrom 67 = .ok (.getfield 18, 3) := by decide +kernel
theorem dX4_copyFrom_70 : decode cX4_copyFrom 70 = .ok (.invokestatic 49, 3) := by decide +kernel
theorem dX4_copyFrom_73 : decode cX4_copyFrom 73 = .ok (.aload_n 0, 1) := by decide +kernel
theorem dX4_copyFrom_74 : decode cX4_copyFrom 74 = .ok (.aload_n 1, 1) := by decide +kernel
theorem dX4_copyFrom_75 : decode cX4_copyFrom 75 = .ok (.getfield 46, 3) := by decide +kernel
theorem dX4_copyFrom_78 : decode cX4_copyFrom 78 = .ok (.putfield 46, 3) := by decide +kernel
theorem dX4_copyFrom_81 : decode cX4_copyFrom 81 = .ok (.aload_n 1, 1) := by decide +kernel
theorem dX4_copyFrom_82 : decode cX4_copyFrom 82 = .ok (.getfield 21, 3) := by decide +kernel
theorem dX4_copyFrom_85 : decode cX4_copyFrom 85 = .ok (.aload_n 0, 1) := by decide +kernel
theorem dX4_copyFrom_86 : decode cX4_copyFrom 86 = .ok (.getfield 21, 3) := by decide +kernel
theorem dX4_copyFrom_89 : decode cX4_copyFrom 89 = .ok (.invokestatic 49, 3) := by decide +kernel
theorem dX4_copyFrom_92 : decode cX4_copyFrom 92 = .ok (.aload_n 1, 1) := by decide +kernel
theorem dX4_copyFrom_93 : decode cX4_copyFrom 93 = .ok (.getfield 24, 3) := by decide +kernel
theorem dX4_copyFrom_96 : decode cX4_copyFrom 96 = .ok (.aload_n 0, 1) := by decide +kernel
theorem dX4_copyFrom_97 : decode cX4_copyFrom 97 = .ok (.getfield 24, 3) := by decide +kernel
theorem dX4_copyFrom_100 : decode cX4_copyFrom 100 = .ok (.invokestatic 49, 3) := by decide +kernel
theorem dX4_copyFrom_103 : decode cX4_copyFrom 103 = .ok (.aload_n 1, 1) := by decide +kernel
theorem dX4_copyFrom_104 : decode cX4_copyFrom 104 = .ok (.getfield 27, 3) := by decide +kernel
theorem dX4_copyFrom_107 : decode cX4_copyFrom 107 = .ok (.aload_n 0, 1) := by decide +kernel
theorem dX4_copyFrom_108 : decode cX4_copyFrom 108 = .ok (.getfield 27, 3) := by decide +kernel
theorem dX4_copyFrom_111 : decode cX4_copyFrom 111 = .ok (.invokestatic 49, 3) := by decide +kernel
theorem dX4_copyFrom_114 : decode cX4_copyFrom 114 = .ok (.return_, 1) := by decide +kernel
theorem dX4_dip_0 : decode cX4_dip 0 = .ok (.ldc2_w 53, 3) := by decide +kernel
theorem dX4_dip_3 : decode cX4_dip 3 = .ok (.aload_n 0, 1) := by decide +kernel
theorem dX4_dip_4 : decode cX4_dip 4 = .ok (.getfield 30, 3) := by decide +kernel
theorem dX4_dip_7 : decode cX4_dip 7 = .ok (.i2l, 1) := by decide +kernel
theorem dX4_dip_8 : decode cX4_dip 8 = .ok (.lmul, 1) := by decide +kernel
theorem dX4_dip_9 : decode cX4_dip 9 = .ok (.invokestatic 55, 3) := by decide +kernel
theorem dX4_dip_12 : decode cX4_dip 12 = .ok (.ireturn, 1) := by decide +kernel
theorem dX4_lastLegTime_0 : decode cX4_lastLegTime 0 = .ok (.aload_n 0, 1) := by decide +kernel
theorem dX4_lastLegTime_1 : decode cX4_lastLegTime 1 = .ok (.getfield 43, 3) := by decide +kernel
theorem dX4_lastLegTime_4 : decode cX4_lastLegTime 4 = .ok (.ifCond .ne 7, 3) := by decide +kernel
theorem dX4_lastLegTime_7 : decode cX4_lastLegTime 7 = .ok (.iconst (-1), 1) := by decide +kernel
theorem dX4_lastLegTime_8 : decode cX4_lastLegTime 8 = .ok (.goto 16, 3) := by decide +kernel
theorem dX4_lastLegTime_11 : decode cX4_lastLegTime 11 = .ok (.aload_n 0, 1) := by decide +kernel
theorem dX4_lastLegTime_12 : decode cX4_lastLegTime 12 = .ok (.getfield 9, 3) := by decide +kernel
theorem dX4_lastLegTime_15 : decode cX4_lastLegTime 15 = .ok (.aload_n 0, 1) := by decide +kernel
theorem dX4_lastLegTime_16 : decode cX4_lastLegTime 16 = .ok (.getfield 43, 3) := by decide +kernel
theorem dX4_lastLegTime_19 : decode cX4_lastLegTime 19 = .ok (.iconst 1, 1) := by decide +kernel
theorem dX4_lastLegTime_20 : decode cX4_lastLegTime 20 = .ok (.isub, 1) := by decide +kernel
theorem dX4_lastLegTime_21 : decode cX4_lastLegTime 21 = .ok (.invokestatic 59, 3) := by decide +kernel
theorem dX4_lastLegTime_24 : decode cX4_lastLegTime 24 = .ok (.ireturn, 1) := by decide +kernel
theorem dX4_addLeg_0 : decode cX4_addLeg 0 = .ok (.aload_n 0, 1) := by decide +kernel
theorem dX4_addLeg_1 : decode cX4_addLeg 1 = .ok (.getfield 43, 3) := by decide +kernel
theorem dX4_addLeg_4 : decode cX4_addLeg 4 = .ok (.bipush 8, 2) := by decide +kernel
theorem dX4_addLeg_6 : decode cX4_addLeg 6 = .ok (.if_icmp .ge 49, 3) := by decide +kernel
theorem dX4_addLeg_9 : decode cX4_addLeg 9 = .ok (.aload_n 0, 1) := by decide +kernel
theorem dX4_addLeg_10 : decode cX4_addLeg 10 = .ok (.getfield 9, 3) := by decide +kernel
theorem dX4_addLeg_13 : decode cX4_addLeg 13 = .ok (.aload_n 0, 1) := by decide +kernel
theorem dX4_addLeg_14 : decode cX4_addLeg 14 = .ok (.getfield 43, 3) := by decide +kernel
theorem dX4_addLeg_17 : decode cX4_addLeg 17 = .ok (.iload_n 1, 1) := by decide +kernel
theorem dX4_addLeg_18 : decode cX4_addLeg 18 = .ok (.invokestatic 63, 3) := by decide +kernel
theorem dX4_addLeg_21 : decode cX4_addLeg 21 = .ok (.aload_n 0, 1) := by decide +kernel
theorem dX4_addLeg_22 : decode cX4_addLeg 22 = .ok (.getfield 15, 3) := by decide +kernel
theorem dX4_addLeg_25 : decode cX4_addLeg 25 = .ok (.aload_n 0, 1) := by decide +kernel
theorem dX4_addLeg_26 : decode cX4_addLeg 26 = .ok (.getfield 43, 3) := by decide +kernel
theorem dX4_addLeg_29 : decode cX4_addLeg 29 = .ok (.iload_n 2, 1) := by decide +kernel
theorem dX4_addLeg_30 : decode cX4_addLeg 30 = .ok (.invokestatic 63, 3) := by decide +kernel
theorem dX4_addLeg_33 : decode cX4_addLeg 33 = .ok (.aload_n 0, 1) := by decide +kernel
theorem dX4_addLeg_34 : decode cX4_addLeg 34 = .ok (.getfield 18, 3) := by decide +kernel
theorem dX4_addLeg_37 : decode cX4_addLeg 37 = .ok (.aload_n 0, 1) := by decide +kernel
theorem dX4_addLeg_38 : decode cX4_addLeg 38 = .ok (.getfield 43, 3) := by decide +kernel
theorem dX4_addLeg_41 : decode cX4_addLeg 41 = .ok (.iload_n 3, 1) := by decide +kernel
theorem dX4_addLeg_42 : decode cX4_addLeg 42 = .ok (.invokestatic 63, 3) := by decide +kernel
theorem dX4_addLeg_45 : decode cX4_addLeg 45 = .ok (.aload_n 0, 1) := by decide +kernel
theorem dX4_addLeg_46 : decode cX4_addLeg 46 = .ok (.dup, 1) := by decide +kernel
theorem dX4_addLeg_47 : decode cX4_addLeg 47 = .ok (.getfield 43, 3) := by decide +kernel
theorem dX4_addLeg_50 : decode cX4_addLeg 50 = .ok (.iconst 1, 1) := by decide +kernel
theorem dX4_addLeg_51 : decode cX4_addLeg 51 = .ok (.iadd, 1) := by decide +kernel
theorem dX4_addLeg_52 : decode cX4_addLeg 52 = .ok (.putfield 43, 3) := by decide +kernel
theorem dX4_addLeg_55 : decode cX4_addLeg 55 = .ok (.return_, 1) := by decide +kernel
theorem dX4_addSight_0 : decode cX4_addSight 0 = .ok (.aload_n 0, 1) := by decide +kernel
theorem dX4_addSight_1 : decode cX4_addSight 1 = .ok (.getfield 46, 3) := by decide +kernel
theorem dX4_addSight_4 : decode cX4_addSight 4 = .ok (.bipush 12, 2) := by decide +kernel
theorem dX4_addSight_6 : decode cX4_addSight 6 = .ok (.if_icmp .ge 49, 3) := by decide +kernel
theorem dX4_addSight_9 : decode cX4_addSight 9 = .ok (.aload_n 0, 1) := by decide +kernel
theorem dX4_addSight_10 : decode cX4_addSight 10 = .ok (.getfield 21, 3) := by decide +kernel
theorem dX4_addSight_13 : decode cX4_addSight 13 = .ok (.aload_n 0, 1) := by decide +kernel
theorem dX4_addSight_14 : decode cX4_addSight 14 = .ok (.getfield 46, 3) := by decide +kernel
theorem dX4_addSight_17 : decode cX4_addSight 17 = .ok (.iload_n 1, 1) := by decide +kernel
theorem dX4_addSight_18 : decode cX4_addSight 18 = .ok (.invokestatic 63, 3) := by decide +kernel
theorem dX4_addSight_21 : decode cX4_addSight 21 = .ok (.aload_n 0, 1) := by decide +kernel
theorem dX4_addSight_22 : decode cX4_addSight 22 = .ok (.getfield 24, 3) := by decide +kernel
theorem dX4_addSight_25 : decode cX4_addSight 25 = .ok (.aload_n 0, 1) := by decide +kernel
theorem dX4_addSight_26 : decode cX4_addSight 26 = .ok (.getfield 46, 3) := by decide +kernel
theorem dX4_addSight_29 : decode cX4_addSight 29 = .ok (.iload_n 2, 1) := by decide +kernel
theorem dX4_addSight_30 : decode cX4_addSight 30 = .ok (.invokestatic 63, 3) := by decide +kernel
theorem dX4_addSight_33 : decode cX4_addSight 33 = .ok (.aload_n 0, 1) := by decide +kernel
theorem dX4_addSight_34 : decode cX4_addSight 34 = .ok (.getfield 27, 3) := by decide +kernel
theorem dX4_addSight_37 : decode cX4_addSight 37 = .ok (.aload_n 0, 1) := by decide +kernel
theorem dX4_addSight_38 : decode cX4_addSight 38 = .ok (.getfield 46, 3) := by decide +kernel
theorem dX4_addSight_41 : decode cX4_addSight 41 = .ok (.iload_n 3, 1) := by decide +kernel
theorem dX4_addSight_42 : decode cX4_addSight 42 = .ok (.invokestatic 63, 3) := by decide +kernel
theorem dX4_addSight_45 : decode cX4_addSight 45 = .ok (.aload_n 0, 1) := by decide +kernel
theorem dX4_addSight_46 : decode cX4_addSight 46 = .ok (.dup, 1) := by decide +kernel
theorem dX4_addSight_47 : decode cX4_addSight 47 = .ok (.getfield 46, 3) := by decide +kernel
theorem dX4_addSight_50 : decode cX4_addSight 50 = .ok (.iconst 1, 1) := by decide +kernel
theorem dX4_addSight_51 : decode cX4_addSight 51 = .ok (.iadd, 1) := by decide +kernel
theorem dX4_addSight_52 : decode cX4_addSight 52 = .ok (.putfield 46, 3) := by decide +kernel
theorem dX4_addSight_55 : decode cX4_addSight 55 = .ok (.return_, 1) := by decide +kernel
theorem dX4_removeSight_0 : decode cX4_removeSight 0 = .ok (.iload_n 1, 1) := by decide +kernel
theorem dX4_removeSight_1 : decode cX4_removeSight 1 = .ok (.iconst 1, 1) := by decide +kernel
theorem dX4_removeSight_2 : decode cX4_removeSight 2 = .ok (.iadd, 1) := by decide +kernel
theorem dX4_removeSight_3 : decode cX4_removeSight 3 = .ok (.istore_n 2, 1) := by decide +kernel
theorem dX4_removeSight_4 : decode cX4_removeSight 4 = .ok (.iload_n 2, 1) := by decide +kernel
theorem dX4_removeSight_5 : decode cX4_removeSight 5 = .ok (.aload_n 0, 1) := by decide +kernel
theorem dX4_removeSight_6 : decode cX4_removeSight 6 = .ok (.getfield 46, 3) := by decide +kernel
theorem dX4_removeSight_9 : decode cX4_removeSight 9 = .ok (.if_icmp .ge 63, 3) := by decide +kernel
theorem dX4_removeSight_12 : decode cX4_removeSight 12 = .ok (.aload_n 0, 1) := by decide +kernel
theorem dX4_removeSight_13 : decode cX4_removeSight 13 = .ok (.getfield 21, 3) := by decide +kernel
theorem dX4_removeSight_16 : decode cX4_removeSight 16 = .ok (.iload_n 2, 1) := by decide +kernel
theorem dX4_removeSight_17 : decode cX4_removeSight 17 = .ok (.iconst 1, 1) := by decide +kernel
theorem dX4_removeSight_18 : decode cX4_removeSight 18 = .ok (.isub, 1) := by decide +kernel
theorem dX4_removeSight_19 : decode cX4_removeSight 19 = .ok (.aload_n 0, 1) := by decide +kernel
theorem dX4_removeSight_20 : decode cX4_removeSight 20 = .ok (.getfield 21, 3) := by decide +kernel
theorem dX4_removeSight_23 : decode cX4_removeSight 23 = .ok (.iload_n 2, 1) := by decide +kernel
theorem dX4_removeSight_24 : decode cX4_removeSight 24 = .ok (.invokestatic 59, 3) := by decide +kernel
theorem dX4_removeSight_27 : decode cX4_removeSight 27 = .ok (.invokestatic 63, 3) := by decide +kernel
theorem dX4_removeSight_30 : decode cX4_removeSight 30 = .ok (.aload_n 0, 1) := by decide +kernel
theorem dX4_removeSight_31 : decode cX4_removeSight 31 = .ok (.getfield 24, 3) := by decide +kernel
theorem dX4_removeSight_34 : decode cX4_removeSight 34 = .ok (.iload_n 2, 1) := by decide +kernel
theorem dX4_removeSight_35 : decode cX4_removeSight 35 = .ok (.iconst 1, 1) := by decide +kernel
theorem dX4_removeSight_36 : decode cX4_removeSight 36 = .ok (.isub, 1) := by decide +kernel
theorem dX4_removeSight_37 : decode cX4_removeSight 37 = .ok (.aload_n 0, 1) := by decide +kernel
theorem dX4_removeSight_38 : decode cX4_removeSight 38 = .ok (.getfield 24, 3) := by decide +kernel
theorem dX4_removeSight_41 : decode cX4_removeSight 41 = .ok (.iload_n 2, 1) := by decide +kernel
theorem dX4_removeSight_42 : decode cX4_removeSight 42 = .ok (.invokestatic 59, 3) := by decide +kernel
theorem dX4_removeSight_45 : decode cX4_removeSight 45 = .ok (.invokestatic 63, 3) := by decide +kernel
theorem dX4_removeSight_48 : decode cX4_removeSight 48 = .ok (.aload_n 0, 1) := by decide +kernel
theorem dX4_removeSight_49 : decode cX4_removeSight 49 = .ok (.getfield 27, 3) := by decide +kernel
theorem dX4_removeSight_52 : decode cX4_removeSight 52 = .ok (.iload_n 2, 1) := by decide +kernel
theorem dX4_removeSight_53 : decode cX4_removeSight 53 = .ok (.iconst 1, 1) := by decide +kernel
theorem dX4_removeSight_54 : decode cX4_removeSight 54 = .ok (.isub, 1) := by decide +kernel
theorem dX4_removeSight_55 : decode cX4_removeSight 55 = .ok (.aload_n 0, 1) := by decide +kernel
theorem dX4_removeSight_56 : decode cX4_removeSight 56 = .ok (.getfield 27, 3) := by decide +kernel
theorem dX4_removeSight_59 : decode cX4_removeSight 59 = .ok (.iload_n 2, 1) := by decide +kernel
theorem dX4_removeSight_60 : decode cX4_removeSight 60 = .ok (.invokestatic 59, 3) := by decide +kernel
theorem dX4_removeSight_63 : decode cX4_removeSight 63 = .ok (.invokestatic 63, 3) := by decide +kernel
theorem dX4_removeSight_66 : decode cX4_removeSight 66 = .ok (.iinc 2 1, 3) := by decide +kernel
theorem dX4_removeSight_69 : decode cX4_removeSight 69 = .ok (.goto (-65), 3) := by decide +kernel
theorem dX4_removeSight_72 : decode cX4_removeSight 72 = .ok (.aload_n 0, 1) := by decide +kernel
theorem dX4_removeSight_73 : decode cX4_removeSight 73 = .ok (.dup, 1) := by decide +kernel
theorem dX4_removeSight_74 : decode cX4_removeSight 74 = .ok (.getfield 46, 3) := by decide +kernel
theorem dX4_removeSight_77 : decode cX4_removeSight 77 = .ok (.iconst 1, 1) := by decide +kernel
theorem dX4_removeSight_78 : decode cX4_removeSight 78 = .ok (.isub, 1) := by decide +kernel
theorem dX4_removeSight_79 : decode cX4_removeSight 79 = .ok (.putfield 46, 3) := by decide +kernel
theorem dX4_removeSight_82 : decode cX4_removeSight 82 = .ok (.return_, 1) := by decide +kernel
theorem dX4_sightsOf_0 : decode cX4_sightsOf 0 = .ok (.iconst 0, 1) := by decide +kernel
theorem dX4_sightsOf_1 : decode cX4_sightsOf 1 = .ok (.istore_n 2, 1) := by decide +kernel
theorem dX4_sightsOf_2 : decode cX4_sightsOf 2 = .ok (.iconst 0, 1) := by decide +kernel
theorem dX4_sightsOf_3 : decode cX4_sightsOf 3 = .ok (.istore_n 3, 1) := by decide +kernel
theorem dX4_sightsOf_4 : decode cX4_sightsOf 4 = .ok (.iload_n 3, 1) := by decide +kernel
theorem dX4_sightsOf_5 : decode cX4_sightsOf 5 = .ok (.aload_n 0, 1) := by decide +kernel
theorem dX4_sightsOf_6 : decode cX4_sightsOf 6 = .ok (.getfield 46, 3) := by decide +kernel
theorem dX4_sightsOf_9 : decode cX4_sightsOf 9 = .ok (.if_icmp .ge 24, 3) := by decide +kernel
theorem dX4_sightsOf_12 : decode cX4_sightsOf 12 = .ok (.aload_n 0, 1) := by decide +kernel
theorem dX4_sightsOf_13 : decode cX4_sightsOf 13 = .ok (.getfield 21, 3) := by decide +kernel
theorem dX4_sightsOf_16 : decode cX4_sightsOf 16 = .ok (.iload_n 3, 1) := by decide +kernel
theorem dX4_sightsOf_17 : decode cX4_sightsOf 17 = .ok (.invokestatic 59, 3) := by decide +kernel
theorem dX4_sightsOf_20 : decode cX4_sightsOf 20 = .ok (.iload_n 1, 1) := by decide +kernel
theorem dX4_sightsOf_21 : decode cX4_sightsOf 21 = .ok (.if_icmp .ne 6, 3) := by decide +kernel
theorem dX4_sightsOf_24 : decode cX4_sightsOf 24 = .ok (.iinc 2 1, 3) := by decide +kernel
theorem dX4_sightsOf_27 : decode cX4_sightsOf 27 = .ok (.iinc 3 1, 3) := by decide +kernel
theorem dX4_sightsOf_30 : decode cX4_sightsOf 30 = .ok (.goto (-26), 3) := by decide +kernel
theorem dX4_sightsOf_33 : decode cX4_sightsOf 33 = .ok (.iload_n 2, 1) := by decide +kernel
theorem dX4_sightsOf_34 : decode cX4_sightsOf 34 = .ok (.ireturn, 1) := by decide +kernel
theorem dX5_init_0 : decode cX5_init 0 = .ok (.aload_n 0, 1) := by decide +kernel
theorem dX5_init_1 : decode cX5_init 1 = .ok (.invokespecial 3, 3) := by decide +kernel
theorem dX5_init_4 : decode cX5_init 4 = .ok (.return_, 1) := by decide +kernel
theorem dX5_putAt_0 : decode cX5_putAt 0 = .ok (.aload_n 0, 1) := by decide +kernel
theorem dX5_putAt_1 : decode cX5_putAt 1 = .ok (.iconst 1, 1) := by decide +kernel
theorem dX5_putAt_2 : decode cX5_putAt 2 = .ok (.putfield 9, 3) := by decide +kernel
theorem dX5_putAt_5 : decode cX5_putAt 5 = .ok (.aload_n 0, 1) := by decide +kernel
theorem dX5_putAt_6 : decode cX5_putAt 6 = .ok (.lload_n 1, 1) := by decide +kernel
theorem dX5_putAt_7 : decode cX5_putAt 7 = .ok (.invokestatic 15, 3) := by decide +kernel
theorem dX5_putAt_10 : decode cX5_putAt 10 = .ok (.putfield 19, 3) := by decide +kernel
theorem dX5_putAt_13 : decode cX5_putAt 13 = .ok (.aload_n 0, 1) := by decide +kernel
theorem dX5_putAt_14 : decode cX5_putAt 14 = .ok (.lload_n 3, 1) := by decide +kernel
theorem dX5_putAt_15 : decode cX5_putAt 15 = .ok (.invokestatic 15, 3) := by decide +kernel
theorem dX5_putAt_18 : decode cX5_putAt 18 = .ok (.putfield 23, 3) := by decide +kernel
theorem dX5_putAt_21 : decode cX5_putAt 21 = .ok (.return_, 1) := by decide +kernel
theorem dX5_cross_0 : decode cX5_cross 0 = .ok (.aload_n 1, 1) := by decide +kernel
theorem dX5_cross_1 : decode cX5_cross 1 = .ok (.getfield 26, 3) := by decide +kernel
theorem dX5_cross_4 : decode cX5_cross 4 = .ok (.i2l, 1) := by decide +kernel
theorem dX5_cross_5 : decode cX5_cross 5 = .ok (.aload_n 2, 1) := by decide +kernel
theorem dX5_cross_6 : decode cX5_cross 6 = .ok (.getfield 31, 3) := by decide +kernel
theorem dX5_cross_9 : decode cX5_cross 9 = .ok (.i2l, 1) := by decide +kernel
theorem dX5_cross_10 : decode cX5_cross 10 = .ok (.lmul, 1) := by decide +kernel
theorem dX5_cross_11 : decode cX5_cross 11 = .ok (.aload_n 2, 1) := by decide +kernel
theorem dX5_cross_12 : decode cX5_cross 12 = .ok (.getfield 26, 3) := by decide +kernel
theorem dX5_cross_15 : decode cX5_cross 15 = .ok (.i2l, 1) := by decide +kernel
theorem dX5_cross_16 : decode cX5_cross 16 = .ok (.aload_n 1, 1) := by decide +kernel
theorem dX5_cross_17 : decode cX5_cross 17 = .ok (.getfield 31, 3) := by decide +kernel
theorem dX5_cross_20 : decode cX5_cross 20 = .ok (.i2l, 1) := by decide +kernel
theorem dX5_cross_21 : decode cX5_cross 21 = .ok (.lmul, 1) := by decide +kernel
theorem dX5_cross_22 : decode cX5_cross 22 = .ok (.lsub, 1) := by decide +kernel
theorem dX5_cross_23 : decode cX5_cross 23 = .ok (.lstore_n 3, 1) := by decide +kernel
theorem dX5_cross_24 : decode cX5_cross 24 = .ok (.aload_n 0, 1) := by decide +kernel
theorem dX5_cross_25 : decode cX5_cross 25 = .ok (.iconst 0, 1) := by decide +kernel
theorem dX5_cross_26 : decode cX5_cross 26 = .ok (.putfield 9, 3) := by decide +kernel
theorem dX5_cross_29 : decode cX5_cross 29 = .ok (.lload_n 3, 1) := by decide +kernel
theorem dX5_cross_30 : decode cX5_cross 30 = .ok (.ldc2_w 34, 3) := by decide +kernel
theorem dX5_cross_33 : decode cX5_cross 33 = .ok (.lcmp, 1) := by decide +kernel
theorem dX5_cross_34 : decode cX5_cross 34 = .ok (.ifCond .ge 11, 3) := by decide +kernel
theorem dX5_cross_37 : decode cX5_cross 37 = .ok (.lload_n 3, 1) := by decide +kernel
theorem dX5_cross_38 : decode cX5_cross 38 = .ok (.ldc2_w 36, 3) := by decide +kernel
theorem dX5_cross_41 : decode cX5_cross 41 = .ok (.lcmp, 1) := by decide +kernel
theorem dX5_cross_42 : decode cX5_cross 42 = .ok (.ifCond .gt 77, 3) := by decide +kernel
theorem dX5_cross_45 : decode cX5_cross 45 = .ok (.aload_n 1, 1) := by decide +kernel
theorem dX5_cross_46 : decode cX5_cross 46 = .ok (.getfield 38, 3) := by decide +kernel
theorem dX5_cross_49 : decode cX5_cross 49 = .ok (.i2l, 1) := by decide +kernel
theorem dX5_cross_50 : decode cX5_cross 50 = .ok (.aload_n 2, 1) := by decide +kernel
theorem dX5_cross_51 : decode cX5_cross 51 = .ok (.getfield 31, 3) := by decide +kernel
theorem dX5_cross_54 : decode cX5_cross 54 = .ok (.i2l, 1) := by decide +kernel
theorem dX5_cross_55 : decode cX5_cross 55 = .ok (.lmul, 1) := by decide +kernel
theorem dX5_cross_56 : decode cX5_cross 56 = .ok (.aload_n 2, 1) := by decide +kernel
theorem dX5_cross_57 : decode cX5_cross 57 = .ok (.getfield 38, 3) := by decide +kernel
theorem dX5_cross_60 : decode cX5_cross 60 = .ok (.i2l, 1) := by decide +kernel
theorem dX5_cross_61 : decode cX5_cross 61 = .ok (.aload_n 1, 1) := by decide +kernel
theorem dX5_cross_62 : decode cX5_cross 62 = .ok (.getfield 31, 3) := by decide +kernel
theorem dX5_cross_65 : decode cX5_cross 65 = .ok (.i2l, 1) := by decide +kernel
theorem dX5_cross_66 : decode cX5_cross 66 = .ok (.lmul, 1) := by decide +kernel
theorem dX5_cross_67 : decode cX5_cross 67 = .ok (.lsub, 1) := by decide +kernel
theorem dX5_cross_68 : decode cX5_cross 68 = .ok (.lstore 5, 2) := by decide +kernel
theorem dX5_cross_70 : decode cX5_cross 70 = .ok (.aload_n 2, 1) := by decide +kernel
theorem dX5_cross_71 : decode cX5_cross 71 = .ok (.getfield 38, 3) := by decide +kernel
theorem dX5_cross_74 : decode cX5_cross 74 = .ok (.i2l, 1) := by decide +kernel
theorem dX5_cross_75 : decode cX5_cross 75 = .ok (.aload_n 1, 1) := by decide +kernel
theorem dX5_cross_76 : decode cX5_cross 76 = .ok (.getfield 26, 3) := by decide +kernel
theorem dX5_cross_79 : decode cX5_cross 79 = .ok (.i2l, 1) := by decide +kernel
theorem dX5_cross_80 : decode cX5_cross 80 = .ok (.lmul, 1) := by decide +kernel
theorem dX5_cross_81 : decode cX5_cross 81 = .ok (.aload_n 1, 1) := by decide +kernel
theorem dX5_cross_82 : decode cX5_cross 82 = .ok (.getfield 38, 3) := by decide +kernel
theorem dX5_cross_85 : decode cX5_cross 85 = .ok (.i2l, 1) := by decide +kernel
theorem dX5_cross_86 : decode cX5_cross 86 = .ok (.aload_n 2, 1) := by decide +kernel
theorem dX5_cross_87 : decode cX5_cross 87 = .ok (.getfield 26, 3) := by decide +kernel
theorem dX5_cross_90 : decode cX5_cross 90 = .ok (.i2l, 1) := by decide +kernel
theorem dX5_cross_91 : decode cX5_cross 91 = .ok (.lmul, 1) := by decide +kernel
theorem dX5_cross_92 : decode cX5_cross 92 = .ok (.lsub, 1) := by decide +kernel
theorem dX5_cross_93 : decode cX5_cross 93 = .ok (.lstore 7, 2) := by decide +kernel
theorem dX5_cross_95 : decode cX5_cross 95 = .ok (.aload_n 0, 1) := by decide +kernel
theorem dX5_cross_96 : decode cX5_cross 96 = .ok (.lload 5, 2) := by decide +kernel
theorem dX5_cross_98 : decode cX5_cross 98 = .ok (.ldc2_w 41, 3) := by decide +kernel
theorem dX5_cross_101 : decode cX5_cross 101 = .ok (.lmul, 1) := by decide +kernel
theorem dX5_cross_102 : decode cX5_cross 102 = .ok (.lload_n 3, 1) := by decide +kernel
theorem dX5_cross_103 : decode cX5_cross 103 = .ok (.invokestatic 43, 3) := by decide +kernel
theorem dX5_cross_106 : decode cX5_cross 106 = .ok (.lload 7, 2) := by decide +kernel
theorem dX5_cross_108 : decode cX5_cross 108 = .ok (.ldc2_w 41, 3) := by decide +kernel
theorem dX5_cross_111 : decode cX5_cross 111 = .ok (.lmul, 1) := by decide +kernel
theorem dX5_cross_112 : decode cX5_cross 112 = .ok (.lload_n 3, 1) := by decide +kernel
theorem dX5_cross_113 : decode cX5_cross 113 = .ok (.invokestatic 43, 3) := by decide +kernel
theorem dX5_cross_116 : decode cX5_cross 116 = .ok (.invokevirtual 47, 3) := by decide +kernel
theorem dX5_cross_119 : decode cX5_cross 119 = .ok (.return_, 1) := by decide +kernel
theorem dX6_init_0 : decode cX6_init 0 = .ok (.aload_n 0, 1) := by decide +kernel
theorem dX6_init_1 : decode cX6_init 1 = .ok (.invokespecial 3, 3) := by decide +kernel
theorem dX6_init_4 : decode cX6_init 4 = .ok (.aload_n 0, 1) := by decide +kernel
theorem dX6_init_5 : decode cX6_init 5 = .ok (.bipush 6, 2) := by decide +kernel
theorem dX6_init_7 : decode cX6_init 7 = .ok (.newarray .int, 2) := by decide +kernel
theorem dX6_init_9 : decode cX6_init 9 = .ok (.putfield 9, 3) := by decide +kernel
theorem dX6_init_12 : decode cX6_init 12 = .ok (.aload_n 0, 1) := by decide +kernel
theorem dX6_init_13 : decode cX6_init 13 = .ok (.bipush 6, 2) := by decide +kernel
theorem dX6_init_15 : decode cX6_init 15 = .ok (.newarray .int, 2) := by decide +kernel
theorem dX6_init_17 : decode cX6_init 17 = .ok (.putfield 15, 3) := by decide +kernel
theorem dX6_init_20 : decode cX6_init 20 = .ok (.aload_n 0, 1) := by decide +kernel
theorem dX6_init_21 : decode cX6_init 21 = .ok (.bipush 6, 2) := by decide +kernel
theorem dX6_init_23 : decode cX6_init 23 = .ok (.newarray .int, 2) := by decide +kernel
theorem dX6_init_25 : decode cX6_init 25 = .ok (.putfield 18, 3) := by decide +kernel
theorem dX6_init_28 : decode cX6_init 28 = .ok (.aload_n 0, 1) := by decide +kernel
theorem dX6_init_29 : decode cX6_init 29 = .ok (.bipush 48, 2) := by decide +kernel
theorem dX6_init_31 : decode cX6_init 31 = .ok (.newarray .int, 2) := by decide +kernel
theorem dX6_init_33 : decode cX6_init 33 = .ok (.putfield 21, 3) := by decide +kernel
theorem dX6_init_36 : decode cX6_init 36 = .ok (.return_, 1) := by decide +kernel
theorem dX6_clear_0 : decode cX6_clear 0 = .ok (.aload_n 0, 1) := by decide +kernel
theorem dX6_clear_1 : decode cX6_clear 1 = .ok (.iconst 0, 1) := by decide +kernel
theorem dX6_clear_2 : decode cX6_clear 2 = .ok (.putfield 24, 3) := by decide +kernel
theorem dX6_clear_5 : decode cX6_clear 5 = .ok (.aload_n 0, 1) := by decide +kernel
theorem dX6_clear_6 : decode cX6_clear 6 = .ok (.iconst 0, 1) := by decide +kernel
theorem dX6_clear_7 : decode cX6_clear 7 = .ok (.putfield 28, 3) := by decide +kernel
theorem dX6_clear_10 : decode cX6_clear 10 = .ok (.aload_n 0, 1) := by decide +kernel
theorem dX6_clear_11 : decode cX6_clear 11 = .ok (.iconst 0, 1) := by decide +kernel
theorem dX6_clear_12 : decode cX6_clear 12 = .ok (.putfield 31, 3) := by decide +kernel
theorem dX6_clear_15 : decode cX6_clear 15 = .ok (.return_, 1) := by decide +kernel
theorem dX6_copyFrom_0 : decode cX6_copyFrom 0 = .ok (.aload_n 0, 1) := by decide +kernel
theorem dX6_copyFrom_1 : decode cX6_copyFrom 1 = .ok (.aload_n 1, 1) := by decide +kernel
theorem dX6_copyFrom_2 : decode cX6_copyFrom 2 = .ok (.getfield 24, 3) := by decide +kernel
theorem dX6_copyFrom_5 : decode cX6_copyFrom 5 = .ok (.putfield 24, 3) := by decide +kernel
theorem dX6_copyFrom_8 : decode cX6_copyFrom 8 = .ok (.aload_n 0, 1) := by decide +kernel
theorem dX6_copyFrom_9 : decode cX6_copyFrom 9 = .ok (.aload_n 1, 1) := by decide +kernel
theorem dX6_copyFrom_10 : decode cX6_copyFrom 10 = .ok (.getfield 28, 3) := by decide +kernel
theorem dX6_copyFrom_13 : decode cX6_copyFrom 13 = .ok (.putfield 28, 3) := by decide +kernel
theorem dX6_copyFrom_16 : decode cX6_copyFrom 16 = .ok (.aload_n 0, 1) := by decide +kernel
theorem dX6_copyFrom_17 : decode cX6_copyFrom 17 = .ok (.aload_n 1, 1) := by decide +kernel
theorem dX6_copyFrom_18 : decode cX6_copyFrom 18 = .ok (.getfield 31, 3) := by decide +kernel
theorem dX6_copyFrom_21 : decode cX6_copyFrom 21 = .ok (.putfield 31, 3) := by decide +kernel
theorem dX6_copyFrom_24 : decode cX6_copyFrom 24 = .ok (.aload_n 1, 1) := by decide +kernel
theorem dX6_copyFrom_25 : decode cX6_copyFrom 25 = .ok (.getfield 9, 3) := by decide +kernel
theorem dX6_copyFrom_28 : decode cX6_copyFrom 28 = .ok (.aload_n 0, 1) := by decide +kernel
theorem dX6_copyFrom_29 : decode cX6_copyFrom 29 = .ok (.getfield 9, 3) := by decide +kernel
theorem dX6_copyFrom_32 : decode cX6_copyFrom 32 = .ok (.invokestatic 34, 3) := by decide +kernel
theorem dX6_copyFrom_35 : decode cX6_copyFrom 35 = .ok (.aload_n 1, 1) := by decide +kernel
theorem dX6_copyFrom_36 : decode cX6_copyFrom 36 = .ok (.getfield 15, 3) := by decide +kernel
theorem dX6_copyFrom_39 : decode cX6_copyFrom 39 = .ok (.aload_n 0, 1) := by decide +kernel
theorem dX6_copyFrom_40 : decode cX6_copyFrom 40 = .ok (.getfield 15, 3) := by decide +kernel
theorem dX6_copyFrom_43 : decode cX6_copyFrom 43 = .ok (.invokestatic 34, 3) := by decide +kernel
theorem dX6_copyFrom_46 : decode cX6_copyFrom 46 = .ok (.aload_n 1, 1) := by decide +kernel
theorem dX6_copyFrom_47 : decode cX6_copyFrom 47 = .ok (.getfield 18, 3) := by decide +kernel
theorem dX6_copyFrom_50 : decode cX6_copyFrom 50 = .ok (.aload_n 0, 1) := by decide +kernel
theorem dX6_copyFrom_51 : decode cX6_copyFrom 51 = .ok (.getfield 18, 3) := by decide +kernel
theorem dX6_copyFrom_54 : decode cX6_copyFrom 54 = .ok (.invokestatic 34, 3) := by decide +kernel
theorem dX6_copyFrom_57 : decode cX6_copyFrom 57 = .ok (.aload_n 1, 1) := by decide +kernel
theorem dX6_copyFrom_58 : decode cX6_copyFrom 58 = .ok (.getfield 21, 3) := by decide +kernel
theorem dX6_copyFrom_61 : decode cX6_copyFrom 61 = .ok (.aload_n 0, 1) := by decide +kernel
theorem dX6_copyFrom_62 : decode cX6_copyFrom 62 = .ok (.getfield 21, 3) := by decide +kernel
theorem dX6_copyFrom_65 : decode cX6_copyFrom 65 = .ok (.invokestatic 34, 3) := by decide +kernel
theorem dX6_copyFrom_68 : decode cX6_copyFrom 68 = .ok (.return_, 1) := by decide +kernel
theorem dX6_nameLetter_0 : decode cX6_nameLetter 0 = .ok (.aload_n 0, 1) := by decide +kernel
theorem dX6_nameLetter_1 : decode cX6_nameLetter 1 = .ok (.getfield 21, 3) := by decide +kernel
theorem dX6_nameLetter_4 : decode cX6_nameLetter 4 = .ok (.iload_n 1, 1) := by decide +kernel
theorem dX6_nameLetter_5 : decode cX6_nameLetter 5 = .ok (.bipush 8, 2) := by decide +kernel
theorem dX6_nameLetter_7 : decode cX6_nameLetter 7 = .ok (.imul, 1) := by decide +kernel
theorem dX6_nameLetter_8 : decode cX6_nameLetter 8 = .ok (.iload_n 2, 1) := by decide +kernel
theorem dX6_nameLetter_9 : decode cX6_nameLetter 9 = .ok (.iadd, 1) := by decide +kernel
theorem dX6_nameLetter_10 : decode cX6_nameLetter 10 = .ok (.invokestatic 38, 3) := by decide +kernel
theorem dX6_nameLetter_13 : decode cX6_nameLetter 13 = .ok (.ireturn, 1) := by decide +kernel
theorem dX6_putName_0 : decode cX6_putName 0 = .ok (.aload_n 2, 1) := by decide +kernel
theorem dX6_putName_1 : decode cX6_putName 1 = .ok (.invokevirtual 42, 3) := by decide +kernel
theorem dX6_putName_4 : decode cX6_putName 4 = .ok (.istore_n 3, 1) := by decide +kernel
theorem dX6_putName_5 : decode cX6_putName 5 = .ok (.aload_n 0, 1) := by decide +kernel
theorem dX6_putName_6 : decode cX6_putName 6 = .ok (.getfield 18, 3) := by decide +kernel
theorem dX6_putName_9 : decode cX6_putName 9 = .ok (.iload_n 1, 1) := by decide +kernel
theorem dX6_putName_10 : decode cX6_putName 10 = .ok (.iload_n 3, 1) := by decide +kernel
theorem dX6_putName_11 : decode cX6_putName 11 = .ok (.invokestatic 48, 3) := by decide +kernel
theorem dX6_putName_14 : decode cX6_putName 14 = .ok (.iconst 0, 1) := by decide +kernel
theorem dX6_putName_15 : decode cX6_putName 15 = .ok (.istore 4, 2) := by decide +kernel
theorem dX6_putName_17 : decode cX6_putName 17 = .ok (.iload 4, 2) := by decide +kernel
theorem dX6_putName_19 : decode cX6_putName 19 = .ok (.iload_n 3, 1) := by decide +kernel
theorem dX6_putName_20 : decode cX6_putName 20 = .ok (.if_icmp .ge 36, 3) := by decide +kernel
theorem dX6_putName_23 : decode cX6_putName 23 = .ok (.iload 4, 2) := by decide +kernel
theorem dX6_putName_25 : decode cX6_putName 25 = .ok (.bipush 8, 2) := by decide +kernel
theorem dX6_putName_27 : decode cX6_putName 27 = .ok (.if_icmp .ge 29, 3) := by decide +kernel
theorem dX6_putName_30 : decode cX6_putName 30 = .ok (.aload_n 0, 1) := by decide +kernel
theorem dX6_putName_31 : decode cX6_putName 31 = .ok (.getfield 21, 3) := by decide +kernel
theorem dX6_putName_34 : decode cX6_putName 34 = .ok (.iload_n 1, 1) := by decide +kernel
theorem dX6_putName_35 : decode cX6_putName 35 = .ok (.bipush 8, 2) := by decide +kernel
theorem dX6_putName_37 : decode cX6_putName 37 = .ok (.imul, 1) := by decide +kernel
theorem dX6_putName_38 : decode cX6_putName 38 = .ok (.iload 4, 2) := by decide +kernel
theorem dX6_putName_40 : decode cX6_putName 40 = .ok (.iadd, 1) := by decide +kernel
theorem dX6_putName_41 : decode cX6_putName 41 = .ok (.aload_n 2, 1) := by decide +kernel
theorem dX6_putName_42 : decode cX6_putName 42 = .ok (.iload 4, 2) := by decide +kernel
theorem dX6_putName_44 : decode cX6_putName 44 = .ok (.invokevirtual 52, 3) := by decide +kernel
theorem dX6_putName_47 : decode cX6_putName 47 = .ok (.invokestatic 48, 3) := by decide +kernel
theorem dX6_putName_50 : decode cX6_putName 50 = .ok (.iinc 4 1, 3) := by decide +kernel
theorem dX6_putName_53 : decode cX6_putName 53 = .ok (.goto (-36), 3) := by decide +kernel
theorem dX6_putName_56 : decode cX6_putName 56 = .ok (.return_, 1) := by decide +kernel
theorem dX6_bodyNamed_0 : decode cX6_bodyNamed 0 = .ok (.iconst 0, 1) := by decide +kernel
theorem dX6_bodyNamed_1 : decode cX6_bodyNamed 1 = .ok (.istore_n 2, 1) := by decide +kernel
theorem dX6_bodyNamed_2 : decode cX6_bodyNamed 2 = .ok (.iload_n 2, 1) := by decide +kernel
theorem dX6_bodyNamed_3 : decode cX6_bodyNamed 3 = .ok (.aload_n 0, 1) := by decide +kernel
theorem dX6_bodyNamed_4 : decode cX6_bodyNamed 4 = .ok (.getfield 31, 3) := by decide +kernel
theorem dX6_bodyNamed_7 : decode cX6_bodyNamed 7 = .ok (.if_icmp .ge 20, 3) := by decide +kernel
theorem dX6_bodyNamed_10 : decode cX6_bodyNamed 10 = .ok (.aload_n 0, 1) := by decide +kernel
theorem dX6_bodyNamed_11 : decode cX6_bodyNamed 11 = .ok (.iload_n 2, 1) := by decide +kernel
theorem dX6_bodyNamed_12 : decode cX6_bodyNamed 12 = .ok (.aload_n 1, 1) := by decide +kernel
theorem dX6_bodyNamed_13 : decode cX6_bodyNamed 13 = .ok (.invokevirtual 56, 3) := by decide +kernel
theorem dX6_bodyNamed_16 : decode cX6_bodyNamed 16 = .ok (.ifCond .eq 5, 3) := by decide +kernel
theorem dX6_bodyNamed_19 : decode cX6_bodyNamed 19 = .ok (.iload_n 2, 1) := by decide +kernel
theorem dX6_bodyNamed_20 : decode cX6_bodyNamed 20 = .ok (.ireturn, 1) := by decide +kernel
theorem dX6_bodyNamed_21 : decode cX6_bodyNamed 21 = .ok (.iinc 2 1, 3) := by decide +kernel
theorem dX6_bodyNamed_24 : decode cX6_bodyNamed 24 = .ok (.goto (-22), 3) := by decide +kernel
theorem dX6_bodyNamed_27 : decode cX6_bodyNamed 27 = .ok (.iconst (-1), 1) := by decide +kernel
theorem dX6_bodyNamed_28 : decode cX6_bodyNamed 28 = .ok (.ireturn, 1) := by decide +kernel
theorem dX6_isNamed_0 : decode cX6_isNamed 0 = .ok (.aload_n 0, 1) := by decide +kernel
theorem dX6_isNamed_1 : decode cX6_isNamed 1 = .ok (.getfield 18, 3) := by decide +kernel
theorem dX6_isNamed_4 : decode cX6_isNamed 4 = .ok (.iload_n 1, 1) := by decide +kernel
theorem dX6_isNamed_5 : decode cX6_isNamed 5 = .ok (.invokestatic 38, 3) := by decide +kernel
theorem dX6_isNamed_8 : decode cX6_isNamed 8 = .ok (.istore_n 3, 1) := by decide +kernel
theorem dX6_isNamed_9 : decode cX6_isNamed 9 = .ok (.aload_n 2, 1) := by decide +kernel
theorem dX6_isNamed_10 : decode cX6_isNamed 10 = .ok (.invokevirtual 42, 3) := by decide +kernel
theorem dX6_isNamed_13 : decode cX6_isNamed 13 = .ok (.iload_n 3, 1) := by decide +kernel
theorem dX6_isNamed_14 : decode cX6_isNamed 14 = .ok (.if_icmp .ne 7, 3) := by decide +kernel
theorem dX6_isNamed_17 : decode cX6_isNamed 17 = .ok (.iconst 1, 1) := by decide +kernel
theorem dX6_isNamed_18 : decode cX6_isNamed 18 = .ok (.goto 4, 3) := by decide +kernel
theorem dX6_isNamed_21 : decode cX6_isNamed 21 = .ok (.iconst 0, 1) := by decide +kernel
theorem dX6_isNamed_22 : decode cX6_isNamed 22 = .ok (.istore 4, 2) := by decide +kernel
theorem dX6_isNamed_24 : decode cX6_isNamed 24 = .ok (.iconst 0, 1) := by decide +kernel
theorem dX6_isNamed_25 : decode cX6_isNamed 25 = .ok (.istore 5, 2) := by decide +kernel
theorem dX6_isNamed_27 : decode cX6_isNamed 27 = .ok (.iload 4, 2) := by decide +kernel
theorem dX6_isNamed_29 : decode cX6_isNamed 29 = .ok (.ifCond .eq 38, 3) := by decide +kernel
theorem dX6_isNamed_32 : decode cX6_isNamed 32 = .ok (.iload 5, 2) := by decide +kernel
theorem dX6_isNamed_34 : decode cX6_isNamed 34 = .ok (.iload_n 3, 1) := by decide +kernel
theorem dX6_isNamed_35 : decode cX6_isNamed 35 = .ok (.if_icmp .ge 32, 3) := by decide +kernel
theorem dX6_isNamed_38 : decode cX6_isNamed 38 = .ok (.aload_n 2, 1) := by decide +kernel
theorem dX6_isNamed_39 : decode cX6_isNamed 39 = .ok (.iload 5, 2) := by decide +kernel
theorem dX6_isNamed_41 : decode cX6_isNamed 41 = .ok (.invokevirtual 52, 3) := by decide +kernel
theorem dX6_isNamed_44 : decode cX6_isNamed 44 = .ok (.aload_n 0, 1) := by decide +kernel
theorem dX6_isNamed_45 : decode cX6_isNamed 45 = .ok (.iload_n 1, 1) := by decide +kernel
theorem dX6_isNamed_46 : decode cX6_isNamed 46 = .ok (.iload 5, 2) := by decide +kernel
theorem dX6_isNamed_48 : decode cX6_isNamed 48 = .ok (.invokevirtual 60, 3) := by decide +kernel
theorem dX6_isNamed_51 : decode cX6_isNamed 51 = .ok (.if_icmp .ne 7, 3) := by decide +kernel
theorem dX6_isNamed_54 : decode cX6_isNamed 54 = .ok (.iconst 1, 1) := by decide +kernel
theorem dX6_isNamed_55 : decode cX6_isNamed 55 = .ok (.goto 4, 3) := by decide +kernel
theorem dX6_isNamed_58 : decode cX6_isNamed 58 = .ok (.iconst 0, 1) := by decide +kernel
theorem dX6_isNamed_59 : decode cX6_isNamed 59 = .ok (.istore 4, 2) := by decide +kernel
theorem dX6_isNamed_61 : decode cX6_isNamed 61 = .ok (.iinc 5 1, 3) := by decide +kernel
theorem dX6_isNamed_64 : decode cX6_isNamed 64 = .ok (.goto (-37), 3) := by decide +kernel
theorem dX6_isNamed_67 : decode cX6_isNamed 67 = .ok (.iload 4, 2) := by decide +kernel
theorem dX6_isNamed_69 : decode cX6_isNamed 69 = .ok (.ireturn, 1) := by decide +kernel
theorem dX7_init_0 : decode cX7_init 0 = .ok (.aload_n 0, 1) := by decide +kernel
theorem dX7_init_1 : decode cX7_init 1 = .ok (.invokespecial 3, 3) := by decide +kernel
theorem dX7_init_4 : decode cX7_init 4 = .ok (.aload_n 0, 1) := by decide +kernel
theorem dX7_init_5 : decode cX7_init 5 = .ok (.bipush 12, 2) := by decide +kernel
theorem dX7_init_7 : decode cX7_init 7 = .ok (.newarray .int, 2) := by decide +kernel
theorem dX7_init_9 : decode cX7_init 9 = .ok (.putfield 9, 3) := by decide +kernel
theorem dX7_init_12 : decode cX7_init 12 = .ok (.aload_n 0, 1) := by decide +kernel
theorem dX7_init_13 : decode cX7_init 13 = .ok (.bipush 12, 2) := by decide +kernel
theorem dX7_init_15 : decode cX7_init 15 = .ok (.newarray .int, 2) := by decide +kernel
theorem dX7_init_17 : decode cX7_init 17 = .ok (.putfield 15, 3) := by decide +kernel
theorem dX7_init_20 : decode cX7_init 20 = .ok (.aload_n 0, 1) := by decide +kernel
theorem dX7_init_21 : decode cX7_init 21 = .ok (.aload_n 1, 1) := by decide +kernel
theorem dX7_init_22 : decode cX7_init 22 = .ok (.putfield 18, 3) := by decide +kernel
theorem dX7_init_25 : decode cX7_init 25 = .ok (.aload_n 0, 1) := by decide +kernel
theorem dX7_init_26 : decode cX7_init 26 = .ok (.aload_n 2, 1) := by decide +kernel
theorem dX7_init_27 : decode cX7_init 27 = .ok (.putfield 22, 3) := by decide +kernel
theorem dX7_init_30 : decode cX7_init 30 = .ok (.aload_n 0, 1) := by decide +kernel
theorem dX7_init_31 : decode cX7_init 31 = .ok (.aload_n 3, 1) := by decide +kernel
theorem dX7_init_32 : decode cX7_init 32 = .ok (.putfield 26, 3) := by decide +kernel
theorem dX7_init_35 : decode cX7_init 35 = .ok (.return_, 1) := by decide +kernel
theorem dX7_readTest_0 : decode cX7_readTest 0 = .ok (.aload_n 0, 1) := by decide +kernel
theorem dX7_readTest_1 : decode cX7_readTest 1 = .ok (.iload_n 1, 1) := by decide +kernel
theorem dX7_readTest_2 : decode cX7_readTest 2 = .ok (.invokevirtual 30, 3) := by decide +kernel
theorem dX7_readTest_5 : decode cX7_readTest 5 = .ok (.istore_n 2, 1) := by decide +kernel
theorem dX7_readTest_6 : decode cX7_readTest 6 = .ok (.iconst 0, 1) := by decide +kernel
theorem dX7_readTest_7 : decode cX7_readTest 7 = .ok (.istore_n 3, 1) := by decide +kernel
theorem dX7_readTest_8 : decode cX7_readTest 8 = .ok (.iload_n 3, 1) := by decide +kernel
theorem dX7_readTest_9 : decode cX7_readTest 9 = .ok (.sipush 200, 3) := by decide +kernel
theorem dX7_readTest_12 : decode cX7_readTest 12 = .ok (.if_icmp .ge 36, 3) := by decide +kernel
theorem dX7_readTest_15 : decode cX7_readTest 15 = .ok (.aload_n 0, 1) := by decide +kernel
theorem dX7_readTest_16 : decode cX7_readTest 16 = .ok (.getfield 18, 3) := by decide +kernel
theorem dX7_readTest_19 : decode cX7_readTest 19 = .ok (.ldc 34, 2) := by decide +kernel
theorem dX7_readTest_21 : decode cX7_readTest 21 = .ok (.invokevirtual 36, 3) := by decide +kernel
theorem dX7_readTest_24 : decode cX7_readTest 24 = .ok (.ifCond .eq 24, 3) := by decide +kernel
theorem dX7_readTest_27 : decode cX7_readTest 27 = .ok (.aload_n 0, 1) := by decide +kernel
theorem dX7_readTest_28 : decode cX7_readTest 28 = .ok (.getfield 18, 3) := by decide +kernel
theorem dX7_readTest_31 : decode cX7_readTest 31 = .ok (.invokevirtual 42, 3) := by decide +kernel
theorem dX7_readTest_34 : decode cX7_readTest 34 = .ok (.iload_n 2, 1) := by decide +kernel
theorem dX7_readTest_35 : decode cX7_readTest 35 = .ok (.aload_n 0, 1) := by decide +kernel
theorem dX7_readTest_36 : decode cX7_readTest 36 = .ok (.iload_n 1, 1) := by decide +kernel
theorem dX7_readTest_37 : decode cX7_readTest 37 = .ok (.invokevirtual 30, 3) := by decide +kernel
theorem dX7_readTest_40 : decode cX7_readTest 40 = .ok (.ior, 1) := by decide +kernel
theorem dX7_readTest_41 : decode cX7_readTest 41 = .ok (.istore_n 2, 1) := by decide +kernel
theorem dX7_readTest_42 : decode cX7_readTest 42 = .ok (.iinc 3 1, 3) := by decide +kernel
theorem dX7_readTest_45 : decode cX7_readTest 45 = .ok (.goto (-37), 3) := by decide +kernel
theorem dX7_readTest_48 : decode cX7_readTest 48 = .ok (.iload_n 2, 1) := by decide +kernel
theorem dX7_readTest_49 : decode cX7_readTest 49 = .ok (.ireturn, 1) := by decide +kernel
theorem dX7_readConjunction_0 : decode cX7_readConjunction 0 = .ok (.aload_n 0, 1) := by decide +kernel
theorem dX7_readConjunction_1 : decode cX7_readConjunction 1 = .ok (.iload_n 1, 1) := by decide +kernel
theorem dX7_readConjunction_2 : decode cX7_readConjunction 2 = .ok (.invokevirtual 45, 3) := by decide +kernel
theorem dX7_readConjunction_5 : decode cX7_readConjunction 5 = .ok (.istore_n 2, 1) := by decide +kernel
theorem dX7_readConjunction_6 : decode cX7_readConjunction 6 = .ok (.iconst 0, 1) := by decide +kernel
theorem dX7_readConjunction_7 : decode cX7_readConjunction 7 = .ok (.istore_n 3, 1) := by decide +kernel
theorem dX7_readConjunction_8 : decode cX7_readConjunction 8 = .ok (.iload_n 3, 1) := by decide +kernel
theorem dX7_readConjunction_9 : decode cX7_readConjunction 9 = .ok (.sipush 200, 3) := by decide +kernel
theorem dX7_readConjunction_12 : decode cX7_readConjunction 12 = .ok (.if_icmp .ge 36, 3) := by decide +kernel
theorem dX7_readConjunction_15 : decode cX7_readConjunction 15 = .ok (.aload_n 0, 1) := by decide +kernel
theorem dX7_readConjunction_16 : decode cX7_readConjunction 16 = .ok (.getfield 18, 3) := by decide +kernel
theorem dX7_readConjunction_19 : decode cX7_readConjunction 19 = .ok (.ldc 48, 2) := by decide +kernel
theorem dX7_readConjunction_21 : decode cX7_readConjunction 21 = .ok (.invokevirtual 36, 3) := by decide +kernel
theorem dX7_readConjunction_24 : decode cX7_readConjunction 24 = .ok (.ifCond .eq 24, 3) := by decide +kernel
theorem dX7_readConjunction_27 : decode cX7_readConjunction 27 = .ok (.aload_n 0, 1) := by decide +kernel
theorem dX7_readConjunction_28 : decode cX7_readConjunction 28 = .ok (.getfield 18, 3) := by decide +kernel
theorem dX7_readConjunction_31 : decode cX7_readConjunction 31 = .ok (.invokevirtual 42, 3) := by decide +kernel
theorem dX7_readConjunction_34 : decode cX7_readConjunction 34 = .ok (.iload_n 2, 1) := by decide +kernel
theorem dX7_readConjunction_35 : decode cX7_readConjunction 35 = .ok (.aload_n 0, 1) := by decide +kernel
theorem dX7_readConjunction_36 : decode cX7_readConjunction 36 = .ok (.iload_n 1, 1) := by decide +kernel
theorem dX7_readConjunction_37 : decode cX7_readConjunction 37 = .ok (.invokevirtual 45, 3) := by decide +kernel
theorem dX7_readConjunction_40 : decode cX7_readConjunction 40 = .ok (.iand, 1) := by decide +kernel
theorem dX7_readConjunction_41 : decode cX7_readConjunction 41 = .ok (.istore_n 2, 1) := by decide +kernel
theorem dX7_readConjunction_42 : decode cX7_readConjunction 42 = .ok (.iinc 3 1, 3) := by decide +kernel
theorem dX7_readConjunction_45 : decode cX7_readConjunction 45 = .ok (.goto (-37), 3) := by decide +kernel
theorem dX7_readConjunction_48 : decode cX7_readConjunction 48 = .ok (.iload_n 2, 1) := by decide +kernel
theorem dX7_readConjunction_49 : decode cX7_readConjunction 49 = .ok (.ireturn, 1) := by decide +kernel
theorem dX7_readFactor_0 : decode cX7_readFactor 0 = .ok (.aload_n 0, 1) := by decide +kernel
theorem dX7_readFactor_1 : decode cX7_readFactor 1 = .ok (.getfield 18, 3) := by decide +kernel
theorem dX7_readFactor_4 : decode cX7_readFactor 4 = .ok (.ldc 50, 2) := by decide +kernel
theorem dX7_readFactor_6 : decode cX7_readFactor 6 = .ok (.invokevirtual 36, 3) := by decide +kernel
theorem dX7_readFactor_9 : decode cX7_readFactor 9 = .ok (.istore_n 2, 1) := by decide +kernel
theorem dX7_readFactor_10 : decode cX7_readFactor 10 = .ok (.iload_n 2, 1) := by decide +kernel
theorem dX7_readFactor_11 : decode cX7_readFactor 11 = .ok (.ifCond .ne 20, 3) := by decide +kernel
theorem dX7_readFactor_14 : decode cX7_readFactor 14 = .ok (.aload_n 0, 1) := by decide +kernel
theorem dX7_readFactor_15 : decode cX7_readFactor 15 = .ok (.getfield 18, 3) := by decide +kernel
theorem dX7_readFactor_18 : decode cX7_readFactor 18 = .ok (.bipush 40, 2) := by decide +kernel
theorem dX7_readFactor_20 : decode cX7_readFactor 20 = .ok (.invokevirtual 52, 3) := by decide +kernel
theorem dX7_readFactor_23 : decode cX7_readFactor 23 = .ok (.ifCond .ne 8, 3) := by decide +kernel
theorem dX7_readFactor_26 : decode cX7_readFactor 26 = .ok (.aload_n 0, 1) := by decide +kernel
theorem dX7_readFactor_27 : decode cX7_readFactor 27 = .ok (.invokevirtual 56, 3) := by decide +kernel
theorem dX7_readFactor_30 : decode cX7_readFactor 30 = .ok (.ireturn, 1) := by decide +kernel
theorem dX7_readFactor_31 : decode cX7_readFactor 31 = .ok (.iload_n 1, 1) := by decide +kernel
theorem dX7_readFactor_32 : decode cX7_readFactor 32 = .ok (.bipush 6, 2) := by decide +kernel
theorem dX7_readFactor_34 : decode cX7_readFactor 34 = .ok (.if_icmp .lt 13, 3) := by decide +kernel
theorem dX7_readFactor_37 : decode cX7_readFactor 37 = .ok (.aload_n 0, 1) := by decide +kernel
theorem dX7_readFactor_38 : decode cX7_readFactor 38 = .ok (.getfield 18, 3) := by decide +kernel
theorem dX7_readFactor_41 : decode cX7_readFactor 41 = .ok (.iconst 3, 1) := by decide +kernel
theorem dX7_readFactor_42 : decode cX7_readFactor 42 = .ok (.invokevirtual 60, 3) := by decide +kernel
theorem dX7_readFactor_45 : decode cX7_readFactor 45 = .ok (.iconst 0, 1) := by decide +kernel
theorem dX7_readFactor_46 : decode cX7_readFactor 46 = .ok (.ireturn, 1) := by decide +kernel
theorem dX7_readFactor_47 : decode cX7_readFactor 47 = .ok (.aload_n 0, 1) := by decide +kernel
theorem dX7_readFactor_48 : decode cX7_readFactor 48 = .ok (.getfield 18, 3) := by decide +kernel
theorem dX7_readFactor_51 : decode cX7_readFactor 51 = .ok (.invokevirtual 42, 3) := by decide +kernel
theorem dX7_readFactor_54 : decode cX7_readFactor 54 = .ok (.iload_n 2, 1) := by decide +kernel
theorem dX7_readFactor_55 : decode cX7_readFactor 55 = .ok (.ifCond .eq 27, 3) := by decide +kernel
theorem dX7_readFactor_58 : decode cX7_readFactor 58 = .ok (.iconst 1, 1) := by decide +kernel
theorem dX7_readFactor_59 : decode cX7_readFactor 59 = .ok (.aload_n 0, 1) := by decide +kernel
theorem dX7_readFactor_60 : decode cX7_readFactor 60 = .ok (.getfield 22, 3) := by decide +kernel
theorem dX7_readFactor_63 : decode cX7_readFactor 63 = .ok (.getfield 64, 3) := by decide +kernel
theorem dX7_readFactor_66 : decode cX7_readFactor 66 = .ok (.ishl, 1) := by decide +kernel
theorem dX7_readFactor_67 : decode cX7_readFactor 67 = .ok (.iconst 1, 1) := by decide +kernel
theorem dX7_readFactor_68 : decode cX7_readFactor 68 = .ok (.isub, 1) := by decide +kernel
theorem dX7_readFactor_69 : decode cX7_readFactor 69 = .ok (.istore_n 3, 1) := by decide +kernel
theorem dX7_readFactor_70 : decode cX7_readFactor 70 = .ok (.iload_n 3, 1) := by decide +kernel
theorem dX7_readFactor_71 : decode cX7_readFactor 71 = .ok (.aload_n 0, 1) := by decide +kernel
