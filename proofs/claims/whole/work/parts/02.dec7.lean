theorem dX7_init_0 : decode cX7_init 0 = .ok (.aload_n 0, 1) := by decide +kernel
theorem dX7_init_1 : decode cX7_init 1 = .ok (.invokespecial 1, 3) := by decide +kernel
theorem dX7_init_4 : decode cX7_init 4 = .ok (.aload_n 0, 1) := by decide +kernel
theorem dX7_init_5 : decode cX7_init 5 = .ok (.sipush 453, 3) := by decide +kernel
theorem dX7_init_8 : decode cX7_init 8 = .ok (.newarray .int, 2) := by decide +kernel
theorem dX7_init_10 : decode cX7_init 10 = .ok (.putfield 7, 3) := by decide +kernel
theorem dX7_init_13 : decode cX7_init 13 = .ok (.aload_n 0, 1) := by decide +kernel
theorem dX7_init_14 : decode cX7_init 14 = .ok (.sipush 453, 3) := by decide +kernel
theorem dX7_init_17 : decode cX7_init 17 = .ok (.newarray .int, 2) := by decide +kernel
theorem dX7_init_19 : decode cX7_init 19 = .ok (.putfield 13, 3) := by decide +kernel
theorem dX7_init_22 : decode cX7_init 22 = .ok (.aload_n 0, 1) := by decide +kernel
theorem dX7_init_23 : decode cX7_init 23 = .ok (.sipush 2718, 3) := by decide +kernel
theorem dX7_init_26 : decode cX7_init 26 = .ok (.newarray .int, 2) := by decide +kernel
theorem dX7_init_28 : decode cX7_init 28 = .ok (.putfield 16, 3) := by decide +kernel
theorem dX7_init_31 : decode cX7_init 31 = .ok (.aload_n 0, 1) := by decide +kernel
theorem dX7_init_32 : decode cX7_init 32 = .ok (.sipush 906, 3) := by decide +kernel
theorem dX7_init_35 : decode cX7_init 35 = .ok (.newarray .int, 2) := by decide +kernel
theorem dX7_init_37 : decode cX7_init 37 = .ok (.putfield 19, 3) := by decide +kernel
theorem dX7_init_40 : decode cX7_init 40 = .ok (.aload_n 0, 1) := by decide +kernel
theorem dX7_init_41 : decode cX7_init 41 = .ok (.iconst 2, 1) := by decide +kernel
theorem dX7_init_42 : decode cX7_init 42 = .ok (.newarray .boolean, 2) := by decide +kernel
theorem dX7_init_44 : decode cX7_init 44 = .ok (.putfield 22, 3) := by decide +kernel
theorem dX7_init_47 : decode cX7_init 47 = .ok (.aload_n 0, 1) := by decide +kernel
theorem dX7_init_48 : decode cX7_init 48 = .ok (.bipush 80, 2) := by decide +kernel
theorem dX7_init_50 : decode cX7_init 50 = .ok (.newarray .int, 2) := by decide +kernel
theorem dX7_init_52 : decode cX7_init 52 = .ok (.putfield 26, 3) := by decide +kernel
theorem dX7_init_55 : decode cX7_init 55 = .ok (.aload_n 0, 1) := by decide +kernel
theorem dX7_init_56 : decode cX7_init 56 = .ok (.sipush 320, 3) := by decide +kernel
theorem dX7_init_59 : decode cX7_init 59 = .ok (.newarray .int, 2) := by decide +kernel
theorem dX7_init_61 : decode cX7_init 61 = .ok (.putfield 29, 3) := by decide +kernel
theorem dX7_init_64 : decode cX7_init 64 = .ok (.aload_n 0, 1) := by decide +kernel
theorem dX7_init_65 : decode cX7_init 65 = .ok (.iconst 3, 1) := by decide +kernel
theorem dX7_init_66 : decode cX7_init 66 = .ok (.newarray .int, 2) := by decide +kernel
theorem dX7_init_68 : decode cX7_init 68 = .ok (.putfield 32, 3) := by decide +kernel
theorem dX7_init_71 : decode cX7_init 71 = .ok (.iconst 0, 1) := by decide +kernel
theorem dX7_init_72 : decode cX7_init 72 = .ok (.istore_n 1, 1) := by decide +kernel
theorem dX7_init_73 : decode cX7_init 73 = .ok (.iload_n 1, 1) := by decide +kernel
theorem dX7_init_74 : decode cX7_init 74 = .ok (.sipush 320, 3) := by decide +kernel
theorem dX7_init_77 : decode cX7_init 77 = .ok (.if_icmp .ge 31, 3) := by decide +kernel
theorem dX7_init_80 : decode cX7_init 80 = .ok (.aload_n 0, 1) := by decide +kernel
theorem dX7_init_81 : decode cX7_init 81 = .ok (.getfield 29, 3) := by decide +kernel
theorem dX7_init_84 : decode cX7_init 84 = .ok (.iload_n 1, 1) := by decide +kernel
theorem dX7_init_85 : decode cX7_init 85 = .ok (.iload_n 1, 1) := by decide +kernel
theorem dX7_init_86 : decode cX7_init 86 = .ok (.bipush 40, 2) := by decide +kernel
theorem dX7_init_88 : decode cX7_init 88 = .ok (.idiv, 1) := by decide +kernel
theorem dX7_init_89 : decode cX7_init 89 = .ok (.iload_n 1, 1) := by decide +kernel
theorem dX7_init_90 : decode cX7_init 90 = .ok (.iconst 5, 1) := by decide +kernel
theorem dX7_init_91 : decode cX7_init 91 = .ok (.idiv, 1) := by decide +kernel
theorem dX7_init_92 : decode cX7_init 92 = .ok (.bipush 8, 2) := by decide +kernel
theorem dX7_init_94 : decode cX7_init 94 = .ok (.irem, 1) := by decide +kernel
theorem dX7_init_95 : decode cX7_init 95 = .ok (.iload_n 1, 1) := by decide +kernel
theorem dX7_init_96 : decode cX7_init 96 = .ok (.iconst 5, 1) := by decide +kernel
theorem dX7_init_97 : decode cX7_init 97 = .ok (.irem, 1) := by decide +kernel
theorem dX7_init_98 : decode cX7_init 98 = .ok (.invokestatic 35, 3) := by decide +kernel
theorem dX7_init_101 : decode cX7_init 101 = .ok (.iastore, 1) := by decide +kernel
theorem dX7_init_102 : decode cX7_init 102 = .ok (.iinc 1 1, 3) := by decide +kernel
theorem dX7_init_105 : decode cX7_init 105 = .ok (.goto (-32), 3) := by decide +kernel
theorem dX7_init_108 : decode cX7_init 108 = .ok (.return_, 1) := by decide +kernel
theorem dX7_in_0 : decode cX7_in 0 = .ok (.iload_n 0, 1) := by decide +kernel
theorem dX7_in_1 : decode cX7_in 1 = .ok (.iload_n 1, 1) := by decide +kernel
theorem dX7_in_2 : decode cX7_in 2 = .ok (.if_icmp .lt 12, 3) := by decide +kernel
theorem dX7_in_5 : decode cX7_in 5 = .ok (.iload_n 0, 1) := by decide +kernel
theorem dX7_in_6 : decode cX7_in 6 = .ok (.iload_n 2, 1) := by decide +kernel
theorem dX7_in_7 : decode cX7_in 7 = .ok (.if_icmp .gt 7, 3) := by decide +kernel
theorem dX7_in_10 : decode cX7_in 10 = .ok (.iconst 1, 1) := by decide +kernel
theorem dX7_in_11 : decode cX7_in 11 = .ok (.goto 4, 3) := by decide +kernel
theorem dX7_in_14 : decode cX7_in 14 = .ok (.iconst 0, 1) := by decide +kernel
theorem dX7_in_15 : decode cX7_in 15 = .ok (.ireturn, 1) := by decide +kernel
theorem dX7_digits_0 : decode cX7_digits 0 = .ok (.iload_n 0, 1) := by decide +kernel
theorem dX7_digits_1 : decode cX7_digits 1 = .ok (.tableswitch 65 0 6 #[43, 47, 50, 53, 56, 59, 62], 43) := by decide +kernel
theorem dX7_digits_44 : decode cX7_digits 44 = .ok (.sipush 22222, 3) := by decide +kernel
theorem dX7_digits_47 : decode cX7_digits 47 = .ok (.ireturn, 1) := by decide +kernel
theorem dX7_digits_48 : decode cX7_digits 48 = .ok (.ldc 39, 2) := by decide +kernel
theorem dX7_digits_50 : decode cX7_digits 50 = .ok (.ireturn, 1) := by decide +kernel
theorem dX7_digits_51 : decode cX7_digits 51 = .ok (.ldc 40, 2) := by decide +kernel
theorem dX7_digits_53 : decode cX7_digits 53 = .ok (.ireturn, 1) := by decide +kernel
theorem dX7_digits_54 : decode cX7_digits 54 = .ok (.ldc 41, 2) := by decide +kernel
theorem dX7_digits_56 : decode cX7_digits 56 = .ok (.ireturn, 1) := by decide +kernel
theorem dX7_digits_57 : decode cX7_digits 57 = .ok (.ldc 42, 2) := by decide +kernel
theorem dX7_digits_59 : decode cX7_digits 59 = .ok (.ireturn, 1) := by decide +kernel
theorem dX7_digits_60 : decode cX7_digits 60 = .ok (.ldc 43, 2) := by decide +kernel
theorem dX7_digits_62 : decode cX7_digits 62 = .ok (.ireturn, 1) := by decide +kernel
theorem dX7_digits_63 : decode cX7_digits 63 = .ok (.ldc 44, 2) := by decide +kernel
theorem dX7_digits_65 : decode cX7_digits 65 = .ok (.ireturn, 1) := by decide +kernel
theorem dX7_digits_66 : decode cX7_digits 66 = .ok (.ldc 45, 2) := by decide +kernel
theorem dX7_digits_68 : decode cX7_digits 68 = .ok (.ireturn, 1) := by decide +kernel
theorem dX7_hasSquare_0 : decode cX7_hasSquare 0 = .ok (.iload_n 0, 1) := by decide +kernel
theorem dX7_hasSquare_1 : decode cX7_hasSquare 1 = .ok (.invokestatic 46, 3) := by decide +kernel
theorem dX7_hasSquare_4 : decode cX7_hasSquare 4 = .ok (.istore 4, 2) := by decide +kernel
theorem dX7_hasSquare_6 : decode cX7_hasSquare 6 = .ok (.iconst 4, 1) := by decide +kernel
theorem dX7_hasSquare_7 : decode cX7_hasSquare 7 = .ok (.istore 5, 2) := by decide +kernel
theorem dX7_hasSquare_9 : decode cX7_hasSquare 9 = .ok (.iload 5, 2) := by decide +kernel
theorem dX7_hasSquare_11 : decode cX7_hasSquare 11 = .ok (.iload_n 2, 1) := by decide +kernel
theorem dX7_hasSquare_12 : decode cX7_hasSquare 12 = .ok (.if_icmp .le 16, 3) := by decide +kernel
theorem dX7_hasSquare_15 : decode cX7_hasSquare 15 = .ok (.iload 4, 2) := by decide +kernel
theorem dX7_hasSquare_17 : decode cX7_hasSquare 17 = .ok (.bipush 10, 2) := by decide +kernel
theorem dX7_hasSquare_19 : decode cX7_hasSquare 19 = .ok (.idiv, 1) := by decide +kernel
theorem dX7_hasSquare_20 : decode cX7_hasSquare 20 = .ok (.istore 4, 2) := by decide +kernel
theorem dX7_hasSquare_22 : decode cX7_hasSquare 22 = .ok (.iinc 5 (-1), 3) := by decide +kernel
theorem dX7_hasSquare_25 : decode cX7_hasSquare 25 = .ok (.goto (-16), 3) := by decide +kernel
theorem dX7_hasSquare_28 : decode cX7_hasSquare 28 = .ok (.iload_n 1, 1) := by decide +kernel
theorem dX7_hasSquare_29 : decode cX7_hasSquare 29 = .ok (.ifCond .eq 9, 3) := by decide +kernel
theorem dX7_hasSquare_32 : decode cX7_hasSquare 32 = .ok (.iconst 2, 1) := by decide +kernel
theorem dX7_hasSquare_33 : decode cX7_hasSquare 33 = .ok (.iload_n 3, 1) := by decide +kernel
theorem dX7_hasSquare_34 : decode cX7_hasSquare 34 = .ok (.isub, 1) := by decide +kernel
theorem dX7_hasSquare_35 : decode cX7_hasSquare 35 = .ok (.goto 4, 3) := by decide +kernel
theorem dX7_hasSquare_38 : decode cX7_hasSquare 38 = .ok (.iload_n 3, 1) := by decide +kernel
theorem dX7_hasSquare_39 : decode cX7_hasSquare 39 = .ok (.istore 5, 2) := by decide +kernel
theorem dX7_hasSquare_41 : decode cX7_hasSquare 41 = .ok (.iload 4, 2) := by decide +kernel
theorem dX7_hasSquare_43 : decode cX7_hasSquare 43 = .ok (.bipush 10, 2) := by decide +kernel
theorem dX7_hasSquare_45 : decode cX7_hasSquare 45 = .ok (.irem, 1) := by decide +kernel
theorem dX7_hasSquare_46 : decode cX7_hasSquare 46 = .ok (.iconst 2, 1) := by decide +kernel
theorem dX7_hasSquare_47 : decode cX7_hasSquare 47 = .ok (.iload 5, 2) := by decide +kernel
theorem dX7_hasSquare_49 : decode cX7_hasSquare 49 = .ok (.isub, 1) := by decide +kernel
theorem dX7_hasSquare_50 : decode cX7_hasSquare 50 = .ok (.ishr, 1) := by decide +kernel
theorem dX7_hasSquare_51 : decode cX7_hasSquare 51 = .ok (.iconst 1, 1) := by decide +kernel
theorem dX7_hasSquare_52 : decode cX7_hasSquare 52 = .ok (.iand, 1) := by decide +kernel
theorem dX7_hasSquare_53 : decode cX7_hasSquare 53 = .ok (.iconst 1, 1) := by decide +kernel
theorem dX7_hasSquare_54 : decode cX7_hasSquare 54 = .ok (.if_icmp .ne 7, 3) := by decide +kernel
theorem dX7_hasSquare_57 : decode cX7_hasSquare 57 = .ok (.iconst 1, 1) := by decide +kernel
theorem dX7_hasSquare_58 : decode cX7_hasSquare 58 = .ok (.goto 4, 3) := by decide +kernel
theorem dX7_hasSquare_61 : decode cX7_hasSquare 61 = .ok (.iconst 0, 1) := by decide +kernel
theorem dX7_hasSquare_62 : decode cX7_hasSquare 62 = .ok (.ireturn, 1) := by decide +kernel
theorem dX7_high_0 : decode cX7_high 0 = .ok (.iload_n 0, 1) := by decide +kernel
theorem dX7_high_1 : decode cX7_high 1 = .ok (.iconst 2, 1) := by decide +kernel
theorem dX7_high_2 : decode cX7_high 2 = .ok (.irem, 1) := by decide +kernel
theorem dX7_high_3 : decode cX7_high 3 = .ok (.ifCond .ne 7, 3) := by decide +kernel
theorem dX7_high_6 : decode cX7_high 6 = .ok (.iconst 5, 1) := by decide +kernel
theorem dX7_high_7 : decode cX7_high 7 = .ok (.goto 4, 3) := by decide +kernel
theorem dX7_high_10 : decode cX7_high 10 = .ok (.iconst 3, 1) := by decide +kernel
theorem dX7_high_11 : decode cX7_high 11 = .ok (.ireturn, 1) := by decide +kernel
theorem dX7_wide_0 : decode cX7_wide 0 = .ok (.iload_n 0, 1) := by decide +kernel
theorem dX7_wide_1 : decode cX7_wide 1 = .ok (.iconst 2, 1) := by decide +kernel
theorem dX7_wide_2 : decode cX7_wide 2 = .ok (.irem, 1) := by decide +kernel
theorem dX7_wide_3 : decode cX7_wide 3 = .ok (.ifCond .ne 7, 3) := by decide +kernel
theorem dX7_wide_6 : decode cX7_wide 6 = .ok (.iconst 3, 1) := by decide +kernel
theorem dX7_wide_7 : decode cX7_wide 7 = .ok (.goto 4, 3) := by decide +kernel
theorem dX7_wide_10 : decode cX7_wide 10 = .ok (.iconst 5, 1) := by decide +kernel
theorem dX7_wide_11 : decode cX7_wide 11 = .ok (.ireturn, 1) := by decide +kernel
theorem dX7_drawn_0 : decode cX7_drawn 0 = .ok (.iconst 0, 1) := by decide +kernel
theorem dX7_drawn_1 : decode cX7_drawn 1 = .ok (.istore_n 3, 1) := by decide +kernel
theorem dX7_drawn_2 : decode cX7_drawn 2 = .ok (.iconst 0, 1) := by decide +kernel
theorem dX7_drawn_3 : decode cX7_drawn 3 = .ok (.istore 4, 2) := by decide +kernel
theorem dX7_drawn_5 : decode cX7_drawn 5 = .ok (.iload 4, 2) := by decide +kernel
theorem dX7_drawn_7 : decode cX7_drawn 7 = .ok (.iload_n 1, 1) := by decide +kernel
theorem dX7_drawn_8 : decode cX7_drawn 8 = .ok (.invokestatic 50, 3) := by decide +kernel
theorem dX7_drawn_11 : decode cX7_drawn 11 = .ok (.if_icmp .ge 130, 3) := by decide +kernel
theorem dX7_drawn_14 : decode cX7_drawn 14 = .ok (.iload_n 2, 1) := by decide +kernel
theorem dX7_drawn_15 : decode cX7_drawn 15 = .ok (.iload_n 1, 1) := by decide +kernel
theorem dX7_drawn_16 : decode cX7_drawn 16 = .ok (.invokestatic 53, 3) := by decide +kernel
theorem dX7_drawn_19 : decode cX7_drawn 19 = .ok (.if_icmp .ge 122, 3) := by decide +kernel
theorem dX7_drawn_22 : decode cX7_drawn 22 = .ok (.iload_n 1, 1) := by decide +kernel
theorem dX7_drawn_23 : decode cX7_drawn 23 = .ok (.iconst 4, 1) := by decide +kernel
theorem dX7_drawn_24 : decode cX7_drawn 24 = .ok (.irem, 1) := by decide +kernel
theorem dX7_drawn_25 : decode cX7_drawn 25 = .ok (.istore 5, 2) := by decide +kernel
theorem dX7_drawn_27 : decode cX7_drawn 27 = .ok (.iload 5, 2) := by decide +kernel
theorem dX7_drawn_29 : decode cX7_drawn 29 = .ok (.ifCond .ne 7, 3) := by decide +kernel
theorem dX7_drawn_32 : decode cX7_drawn 32 = .ok (.iload_n 2, 1) := by decide +kernel
theorem dX7_drawn_33 : decode cX7_drawn 33 = .ok (.goto 30, 3) := by decide +kernel
theorem dX7_drawn_36 : decode cX7_drawn 36 = .ok (.iload 5, 2) := by decide +kernel
theorem dX7_drawn_38 : decode cX7_drawn 38 = .ok (.iconst 1, 1) := by decide +kernel
theorem dX7_drawn_39 : decode cX7_drawn 39 = .ok (.if_icmp .ne 10, 3) := by decide +kernel
theorem dX7_drawn_42 : decode cX7_drawn 42 = .ok (.iconst 4, 1) := by decide +kernel
theorem dX7_drawn_43 : decode cX7_drawn 43 = .ok (.iload 4, 2) := by decide +kernel
theorem dX7_drawn_45 : decode cX7_drawn 45 = .ok (.isub, 1) := by decide +kernel
theorem dX7_drawn_46 : decode cX7_drawn 46 = .ok (.goto 17, 3) := by decide +kernel
theorem dX7_drawn_49 : decode cX7_drawn 49 = .ok (.iload 5, 2) := by decide +kernel
theorem dX7_drawn_51 : decode cX7_drawn 51 = .ok (.iconst 2, 1) := by decide +kernel
theorem dX7_drawn_52 : decode cX7_drawn 52 = .ok (.if_icmp .ne 9, 3) := by decide +kernel
theorem dX7_drawn_55 : decode cX7_drawn 55 = .ok (.iconst 4, 1) := by decide +kernel
theorem dX7_drawn_56 : decode cX7_drawn 56 = .ok (.iload_n 2, 1) := by decide +kernel
theorem dX7_drawn_57 : decode cX7_drawn 57 = .ok (.isub, 1) := by decide +kernel
theorem dX7_drawn_58 : decode cX7_drawn 58 = .ok (.goto 5, 3) := by decide +kernel
theorem dX7_drawn_61 : decode cX7_drawn 61 = .ok (.iload 4, 2) := by decide +kernel
theorem dX7_drawn_63 : decode cX7_drawn 63 = .ok (.istore 6, 2) := by decide +kernel
theorem dX7_drawn_65 : decode cX7_drawn 65 = .ok (.iload 5, 2) := by decide +kernel
theorem dX7_drawn_67 : decode cX7_drawn 67 = .ok (.ifCond .ne 8, 3) := by decide +kernel
theorem dX7_drawn_70 : decode cX7_drawn 70 = .ok (.iload 4, 2) := by decide +kernel
theorem dX7_drawn_72 : decode cX7_drawn 72 = .ok (.goto 29, 3) := by decide +kernel
theorem dX7_drawn_75 : decode cX7_drawn 75 = .ok (.iload 5, 2) := by decide +kernel
theorem dX7_drawn_77 : decode cX7_drawn 77 = .ok (.iconst 1, 1) := by decide +kernel
theorem dX7_drawn_78 : decode cX7_drawn 78 = .ok (.if_icmp .ne 7, 3) := by decide +kernel
theorem dX7_drawn_81 : decode cX7_drawn 81 = .ok (.iload_n 2, 1) := by decide +kernel
theorem dX7_drawn_82 : decode cX7_drawn 82 = .ok (.goto 19, 3) := by decide +kernel
theorem dX7_drawn_85 : decode cX7_drawn 85 = .ok (.iload 5, 2) := by decide +kernel
theorem dX7_drawn_87 : decode cX7_drawn 87 = .ok (.iconst 2, 1) := by decide +kernel
theorem dX7_drawn_88 : decode cX7_drawn 88 = .ok (.if_icmp .ne 10, 3) := by decide +kernel
theorem dX7_drawn_91 : decode cX7_drawn 91 = .ok (.iconst 2, 1) := by decide +kernel
theorem dX7_drawn_92 : decode cX7_drawn 92 = .ok (.iload 4, 2) := by decide +kernel
theorem dX7_drawn_94 : decode cX7_drawn 94 = .ok (.isub, 1) := by decide +kernel
theorem dX7_drawn_95 : decode cX7_drawn 95 = .ok (.goto 6, 3) := by decide +kernel
theorem dX7_drawn_98 : decode cX7_drawn 98 = .ok (.iconst 2, 1) := by decide +kernel
theorem dX7_drawn_99 : decode cX7_drawn 99 = .ok (.iload_n 2, 1) := by decide +kernel
theorem dX7_drawn_100 : decode cX7_drawn 100 = .ok (.isub, 1) := by decide +kernel
theorem dX7_drawn_101 : decode cX7_drawn 101 = .ok (.istore 7, 2) := by decide +kernel
theorem dX7_drawn_103 : decode cX7_drawn 103 = .ok (.iload_n 3, 1) := by decide +kernel
theorem dX7_drawn_104 : decode cX7_drawn 104 = .ok (.iload_n 0, 1) := by decide +kernel
theorem dX7_drawn_105 : decode cX7_drawn 105 = .ok (.iload_n 1, 1) := by decide +kernel
theorem dX7_drawn_106 : decode cX7_drawn 106 = .ok (.iconst 3, 1) := by decide +kernel
theorem dX7_drawn_107 : decode cX7_drawn 107 = .ok (.if_icmp .le 7, 3) := by decide +kernel
theorem dX7_drawn_110 : decode cX7_drawn 110 = .ok (.iconst 1, 1) := by decide +kernel
theorem dX7_drawn_111 : decode cX7_drawn 111 = .ok (.goto 4, 3) := by decide +kernel
theorem dX7_drawn_114 : decode cX7_drawn 114 = .ok (.iconst 0, 1) := by decide +kernel
theorem dX7_drawn_115 : decode cX7_drawn 115 = .ok (.iload 6, 2) := by decide +kernel
theorem dX7_drawn_117 : decode cX7_drawn 117 = .ok (.iload 7, 2) := by decide +kernel
theorem dX7_drawn_119 : decode cX7_drawn 119 = .ok (.invokestatic 56, 3) := by decide +kernel
theorem dX7_drawn_122 : decode cX7_drawn 122 = .ok (.ifCond .eq 10, 3) := by decide +kernel
theorem dX7_drawn_125 : decode cX7_drawn 125 = .ok (.iconst 1, 1) := by decide +kernel
theorem dX7_drawn_126 : decode cX7_drawn 126 = .ok (.iload 4, 2) := by decide +kernel
theorem dX7_drawn_128 : decode cX7_drawn 128 = .ok (.ishl, 1) := by decide +kernel
theorem dX7_drawn_129 : decode cX7_drawn 129 = .ok (.goto 4, 3) := by decide +kernel
theorem dX7_drawn_132 : decode cX7_drawn 132 = .ok (.iconst 0, 1) := by decide +kernel
theorem dX7_drawn_133 : decode cX7_drawn 133 = .ok (.ior, 1) := by decide +kernel
theorem dX7_drawn_134 : decode cX7_drawn 134 = .ok (.istore_n 3, 1) := by decide +kernel
theorem dX7_drawn_135 : decode cX7_drawn 135 = .ok (.iinc 4 1, 3) := by decide +kernel
theorem dX7_drawn_138 : decode cX7_drawn 138 = .ok (.goto (-133), 3) := by decide +kernel
theorem dX7_drawn_141 : decode cX7_drawn 141 = .ok (.iload_n 3, 1) := by decide +kernel
theorem dX7_drawn_142 : decode cX7_drawn 142 = .ok (.ireturn, 1) := by decide +kernel
theorem dX7_shapeOf_0 : decode cX7_shapeOf 0 = .ok (.aload_n 0, 1) := by decide +kernel
theorem dX7_shapeOf_1 : decode cX7_shapeOf 1 = .ok (.getfield 29, 3) := by decide +kernel
theorem dX7_shapeOf_4 : decode cX7_shapeOf 4 = .ok (.bipush 40, 2) := by decide +kernel
theorem dX7_shapeOf_6 : decode cX7_shapeOf 6 = .ok (.iload_n 1, 1) := by decide +kernel
theorem dX7_shapeOf_7 : decode cX7_shapeOf 7 = .ok (.imul, 1) := by decide +kernel
theorem dX7_shapeOf_8 : decode cX7_shapeOf 8 = .ok (.iconst 5, 1) := by decide +kernel
theorem dX7_shapeOf_9 : decode cX7_shapeOf 9 = .ok (.iload_n 2, 1) := by decide +kernel
theorem dX7_shapeOf_10 : decode cX7_shapeOf 10 = .ok (.imul, 1) := by decide +kernel
theorem dX7_shapeOf_11 : decode cX7_shapeOf 11 = .ok (.iadd, 1) := by decide +kernel
theorem dX7_shapeOf_12 : decode cX7_shapeOf 12 = .ok (.iload_n 3, 1) := by decide +kernel
theorem dX7_shapeOf_13 : decode cX7_shapeOf 13 = .ok (.iadd, 1) := by decide +kernel
theorem dX7_shapeOf_14 : decode cX7_shapeOf 14 = .ok (.iaload, 1) := by decide +kernel
theorem dX7_shapeOf_15 : decode cX7_shapeOf 15 = .ok (.ireturn, 1) := by decide +kernel
theorem dX7_bits_0 : decode cX7_bits 0 = .ok (.iconst 0, 1) := by decide +kernel
theorem dX7_bits_1 : decode cX7_bits 1 = .ok (.istore_n 1, 1) := by decide +kernel
theorem dX7_bits_2 : decode cX7_bits 2 = .ok (.iload_n 0, 1) := by decide +kernel
theorem dX7_bits_3 : decode cX7_bits 3 = .ok (.istore_n 2, 1) := by decide +kernel
theorem dX7_bits_4 : decode cX7_bits 4 = .ok (.iload_n 2, 1) := by decide +kernel
theorem dX7_bits_5 : decode cX7_bits 5 = .ok (.ifCond .le 16, 3) := by decide +kernel
theorem dX7_bits_8 : decode cX7_bits 8 = .ok (.iload_n 1, 1) := by decide +kernel
theorem dX7_bits_9 : decode cX7_bits 9 = .ok (.iload_n 2, 1) := by decide +kernel
theorem dX7_bits_10 : decode cX7_bits 10 = .ok (.iconst 2, 1) := by decide +kernel
theorem dX7_bits_11 : decode cX7_bits 11 = .ok (.irem, 1) := by decide +kernel
theorem dX7_bits_12 : decode cX7_bits 12 = .ok (.iadd, 1) := by decide +kernel
theorem dX7_bits_13 : decode cX7_bits 13 = .ok (.istore_n 1, 1) := by decide +kernel
theorem dX7_bits_14 : decode cX7_bits 14 = .ok (.iload_n 2, 1) := by decide +kernel
theorem dX7_bits_15 : decode cX7_bits 15 = .ok (.iconst 2, 1) := by decide +kernel
theorem dX7_bits_16 : decode cX7_bits 16 = .ok (.idiv, 1) := by decide +kernel
theorem dX7_bits_17 : decode cX7_bits 17 = .ok (.istore_n 2, 1) := by decide +kernel
theorem dX7_bits_18 : decode cX7_bits 18 = .ok (.goto (-14), 3) := by decide +kernel
theorem dX7_bits_21 : decode cX7_bits 21 = .ok (.iload_n 1, 1) := by decide +kernel
theorem dX7_bits_22 : decode cX7_bits 22 = .ok (.ireturn, 1) := by decide +kernel
theorem dX7_squaresOf_0 : decode cX7_squaresOf 0 = .ok (.iconst 0, 1) := by decide +kernel
theorem dX7_squaresOf_1 : decode cX7_squaresOf 1 = .ok (.istore_n 2, 1) := by decide +kernel
theorem dX7_squaresOf_2 : decode cX7_squaresOf 2 = .ok (.iconst 0, 1) := by decide +kernel
theorem dX7_squaresOf_3 : decode cX7_squaresOf 3 = .ok (.istore_n 3, 1) := by decide +kernel
theorem dX7_squaresOf_4 : decode cX7_squaresOf 4 = .ok (.iload_n 3, 1) := by decide +kernel
theorem dX7_squaresOf_5 : decode cX7_squaresOf 5 = .ok (.iconst 5, 1) := by decide +kernel
theorem dX7_squaresOf_6 : decode cX7_squaresOf 6 = .ok (.if_icmp .ge 22, 3) := by decide +kernel
theorem dX7_squaresOf_9 : decode cX7_squaresOf 9 = .ok (.iload_n 2, 1) := by decide +kernel
theorem dX7_squaresOf_10 : decode cX7_squaresOf 10 = .ok (.aload_n 0, 1) := by decide +kernel
theorem dX7_squaresOf_11 : decode cX7_squaresOf 11 = .ok (.iload_n 1, 1) := by decide +kernel
theorem dX7_squaresOf_12 : decode cX7_squaresOf 12 = .ok (.iconst 0, 1) := by decide +kernel
theorem dX7_squaresOf_13 : decode cX7_squaresOf 13 = .ok (.iload_n 3, 1) := by decide +kernel
theorem dX7_squaresOf_14 : decode cX7_squaresOf 14 = .ok (.invokevirtual 60, 3) := by decide +kernel
theorem dX7_squaresOf_17 : decode cX7_squaresOf 17 = .ok (.invokestatic 63, 3) := by decide +kernel
theorem dX7_squaresOf_20 : decode cX7_squaresOf 20 = .ok (.iadd, 1) := by decide +kernel
theorem dX7_squaresOf_21 : decode cX7_squaresOf 21 = .ok (.istore_n 2, 1) := by decide +kernel
theorem dX7_squaresOf_22 : decode cX7_squaresOf 22 = .ok (.iinc 3 1, 3) := by decide +kernel
theorem dX7_squaresOf_25 : decode cX7_squaresOf 25 = .ok (.goto (-21), 3) := by decide +kernel
theorem dX7_squaresOf_28 : decode cX7_squaresOf 28 = .ok (.iload_n 2, 1) := by decide +kernel
theorem dX7_squaresOf_29 : decode cX7_squaresOf 29 = .ok (.ireturn, 1) := by decide +kernel
theorem dX7_isLetter_0 : decode cX7_isLetter 0 = .ok (.iload_n 0, 1) := by decide +kernel
theorem dX7_isLetter_1 : decode cX7_isLetter 1 = .ok (.iconst 0, 1) := by decide +kernel
theorem dX7_isLetter_2 : decode cX7_isLetter 2 = .ok (.bipush 7, 2) := by decide +kernel
theorem dX7_isLetter_4 : decode cX7_isLetter 4 = .ok (.invokestatic 66, 3) := by decide +kernel
theorem dX7_isLetter_7 : decode cX7_isLetter 7 = .ok (.ireturn, 1) := by decide +kernel
theorem dX7_isSheet_0 : decode cX7_isSheet 0 = .ok (.iload_n 1, 1) := by decide +kernel
theorem dX7_isSheet_1 : decode cX7_isSheet 1 = .ok (.iconst 0, 1) := by decide +kernel
theorem dX7_isSheet_2 : decode cX7_isSheet 2 = .ok (.aload_n 0, 1) := by decide +kernel
theorem dX7_isSheet_3 : decode cX7_isSheet 3 = .ok (.getfield 7, 3) := by decide +kernel
theorem dX7_isSheet_6 : decode cX7_isSheet 6 = .ok (.iconst 0, 1) := by decide +kernel
theorem dX7_isSheet_7 : decode cX7_isSheet 7 = .ok (.iaload, 1) := by decide +kernel
theorem dX7_isSheet_8 : decode cX7_isSheet 8 = .ok (.iconst 1, 1) := by decide +kernel
theorem dX7_isSheet_9 : decode cX7_isSheet 9 = .ok (.isub, 1) := by decide +kernel
theorem dX7_isSheet_10 : decode cX7_isSheet 10 = .ok (.invokestatic 66, 3) := by decide +kernel
theorem dX7_isSheet_13 : decode cX7_isSheet 13 = .ok (.ireturn, 1) := by decide +kernel
theorem dX7_isPiece_0 : decode cX7_isPiece 0 = .ok (.iload_n 1, 1) := by decide +kernel
theorem dX7_isPiece_1 : decode cX7_isPiece 1 = .ok (.iconst 0, 1) := by decide +kernel
theorem dX7_isPiece_2 : decode cX7_isPiece 2 = .ok (.aload_n 0, 1) := by decide +kernel
theorem dX7_isPiece_3 : decode cX7_isPiece 3 = .ok (.getfield 7, 3) := by decide +kernel
theorem dX7_isPiece_6 : decode cX7_isPiece 6 = .ok (.iconst 1, 1) := by decide +kernel
theorem dX7_isPiece_7 : decode cX7_isPiece 7 = .ok (.iaload, 1) := by decide +kernel
theorem dX7_isPiece_8 : decode cX7_isPiece 8 = .ok (.iconst 1, 1) := by decide +kernel
theorem dX7_isPiece_9 : decode cX7_isPiece 9 = .ok (.isub, 1) := by decide +kernel
theorem dX7_isPiece_10 : decode cX7_isPiece 10 = .ok (.invokestatic 66, 3) := by decide +kernel
theorem dX7_isPiece_13 : decode cX7_isPiece 13 = .ok (.ireturn, 1) := by decide +kernel
theorem dX7_isSpot_0 : decode cX7_isSpot 0 = .ok (.iload_n 0, 1) := by decide +kernel
theorem dX7_isSpot_1 : decode cX7_isSpot 1 = .ok (.iconst 0, 1) := by decide +kernel
theorem dX7_isSpot_2 : decode cX7_isSpot 2 = .ok (.iconst 2, 1) := by decide +kernel
theorem dX7_isSpot_3 : decode cX7_isSpot 3 = .ok (.invokestatic 66, 3) := by decide +kernel
theorem dX7_isSpot_6 : decode cX7_isSpot 6 = .ok (.ifCond .eq 17, 3) := by decide +kernel
theorem dX7_isSpot_9 : decode cX7_isSpot 9 = .ok (.iload_n 1, 1) := by decide +kernel
theorem dX7_isSpot_10 : decode cX7_isSpot 10 = .ok (.iconst 0, 1) := by decide +kernel
theorem dX7_isSpot_11 : decode cX7_isSpot 11 = .ok (.bipush 11, 2) := by decide +kernel
theorem dX7_isSpot_13 : decode cX7_isSpot 13 = .ok (.invokestatic 66, 3) := by decide +kernel
theorem dX7_isSpot_16 : decode cX7_isSpot 16 = .ok (.ifCond .eq 7, 3) := by decide +kernel
theorem dX7_isSpot_19 : decode cX7_isSpot 19 = .ok (.iconst 1, 1) := by decide +kernel
theorem dX7_isSpot_20 : decode cX7_isSpot 20 = .ok (.goto 4, 3) := by decide +kernel
theorem dX7_isSpot_23 : decode cX7_isSpot 23 = .ok (.iconst 0, 1) := by decide +kernel
theorem dX7_isSpot_24 : decode cX7_isSpot 24 = .ok (.ireturn, 1) := by decide +kernel
theorem dX7_ofOne_0 : decode cX7_ofOne 0 = .ok (.iconst 3, 1) := by decide +kernel
theorem dX7_ofOne_1 : decode cX7_ofOne 1 = .ok (.bipush 11, 2) := by decide +kernel
theorem dX7_ofOne_3 : decode cX7_ofOne 3 = .ok (.iload_n 0, 1) := by decide +kernel
theorem dX7_ofOne_4 : decode cX7_ofOne 4 = .ok (.imul, 1) := by decide +kernel
theorem dX7_ofOne_5 : decode cX7_ofOne 5 = .ok (.iadd, 1) := by decide +kernel
theorem dX7_ofOne_6 : decode cX7_ofOne 6 = .ok (.iload_n 1, 1) := by decide +kernel
theorem dX7_ofOne_7 : decode cX7_ofOne 7 = .ok (.iadd, 1) := by decide +kernel
theorem dX7_ofOne_8 : decode cX7_ofOne 8 = .ok (.ireturn, 1) := by decide +kernel
theorem dX7_at_0 : decode cX7_at 0 = .ok (.bipush 69, 2) := by decide +kernel
theorem dX7_at_2 : decode cX7_at 2 = .ok (.bipush 8, 2) := by decide +kernel
theorem dX7_at_4 : decode cX7_at 4 = .ok (.iload_n 0, 1) := by decide +kernel
theorem dX7_at_5 : decode cX7_at 5 = .ok (.imul, 1) := by decide +kernel
theorem dX7_at_6 : decode cX7_at 6 = .ok (.iadd, 1) := by decide +kernel
theorem dX7_at_7 : decode cX7_at 7 = .ok (.iload_n 1, 1) := by decide +kernel
theorem dX7_at_8 : decode cX7_at 8 = .ok (.iadd, 1) := by decide +kernel
theorem dX7_at_9 : decode cX7_at 9 = .ok (.ireturn, 1) := by decide +kernel
theorem dX7_canCut_0 : decode cX7_canCut 0 = .ok (.aload_n 0, 1) := by decide +kernel
theorem dX7_canCut_1 : decode cX7_canCut 1 = .ok (.getfield 7, 3) := by decide +kernel
theorem dX7_canCut_4 : decode cX7_canCut 4 = .ok (.iload_n 1, 1) := by decide +kernel
theorem dX7_canCut_5 : decode cX7_canCut 5 = .ok (.iconst 1, 1) := by decide +kernel
theorem dX7_canCut_6 : decode cX7_canCut 6 = .ok (.invokestatic 70, 3) := by decide +kernel
theorem dX7_canCut_9 : decode cX7_canCut 9 = .ok (.iaload, 1) := by decide +kernel
theorem dX7_canCut_10 : decode cX7_canCut 10 = .ok (.ifCond .ne 39, 3) := by decide +kernel
theorem dX7_canCut_13 : decode cX7_canCut 13 = .ok (.iload 4, 2) := by decide +kernel
theorem dX7_canCut_15 : decode cX7_canCut 15 = .ok (.iconst 0, 1) := by decide +kernel
theorem dX7_canCut_16 : decode cX7_canCut 16 = .ok (.bipush 9, 2) := by decide +kernel
theorem dX7_canCut_18 : decode cX7_canCut 18 = .ok (.iload_n 3, 1) := by decide +kernel
theorem dX7_canCut_19 : decode cX7_canCut 19 = .ok (.invokestatic 53, 3) := by decide +kernel
theorem dX7_canCut_22 : decode cX7_canCut 22 = .ok (.isub, 1) := by decide +kernel
theorem dX7_canCut_23 : decode cX7_canCut 23 = .ok (.invokestatic 66, 3) := by decide +kernel
theorem dX7_canCut_26 : decode cX7_canCut 26 = .ok (.ifCond .eq 23, 3) := by decide +kernel
theorem dX7_canCut_29 : decode cX7_canCut 29 = .ok (.iload 5, 2) := by decide +kernel
theorem dX7_canCut_31 : decode cX7_canCut 31 = .ok (.iconst 0, 1) := by decide +kernel
theorem dX7_canCut_32 : decode cX7_canCut 32 = .ok (.bipush 14, 2) := by decide +kernel
theorem dX7_canCut_34 : decode cX7_canCut 34 = .ok (.iload_n 3, 1) := by decide +kernel
theorem dX7_canCut_35 : decode cX7_canCut 35 = .ok (.invokestatic 50, 3) := by decide +kernel
theorem dX7_canCut_38 : decode cX7_canCut 38 = .ok (.isub, 1) := by decide +kernel
theorem dX7_canCut_39 : decode cX7_canCut 39 = .ok (.invokestatic 66, 3) := by decide +kernel
theorem dX7_canCut_42 : decode cX7_canCut 42 = .ok (.ifCond .eq 7, 3) := by decide +kernel
theorem dX7_canCut_45 : decode cX7_canCut 45 = .ok (.iconst 1, 1) := by decide +kernel
theorem dX7_canCut_46 : decode cX7_canCut 46 = .ok (.goto 4, 3) := by decide +kernel
theorem dX7_canCut_49 : decode cX7_canCut 49 = .ok (.iconst 0, 1) := by decide +kernel
theorem dX7_canCut_50 : decode cX7_canCut 50 = .ok (.istore 6, 2) := by decide +kernel
theorem dX7_canCut_52 : decode cX7_canCut 52 = .ok (.iconst 0, 1) := by decide +kernel
theorem dX7_canCut_53 : decode cX7_canCut 53 = .ok (.istore 7, 2) := by decide +kernel
theorem dX7_canCut_55 : decode cX7_canCut 55 = .ok (.iload 7, 2) := by decide +kernel
theorem dX7_canCut_57 : decode cX7_canCut 57 = .ok (.iload_n 3, 1) := by decide +kernel
theorem dX7_canCut_58 : decode cX7_canCut 58 = .ok (.invokestatic 53, 3) := by decide +kernel
theorem dX7_canCut_61 : decode cX7_canCut 61 = .ok (.if_icmp .ge 52, 3) := by decide +kernel
theorem dX7_canCut_64 : decode cX7_canCut 64 = .ok (.iload 6, 2) := by decide +kernel
theorem dX7_canCut_66 : decode cX7_canCut 66 = .ok (.ifCond .eq 47, 3) := by decide +kernel
theorem dX7_canCut_69 : decode cX7_canCut 69 = .ok (.aload_n 0, 1) := by decide +kernel
theorem dX7_canCut_70 : decode cX7_canCut 70 = .ok (.getfield 7, 3) := by decide +kernel
theorem dX7_canCut_73 : decode cX7_canCut 73 = .ok (.iload_n 1, 1) := by decide +kernel
theorem dX7_canCut_74 : decode cX7_canCut 74 = .ok (.iconst 2, 1) := by decide +kernel
theorem dX7_canCut_75 : decode cX7_canCut 75 = .ok (.iload 4, 2) := by decide +kernel
theorem dX7_canCut_77 : decode cX7_canCut 77 = .ok (.iadd, 1) := by decide +kernel
theorem dX7_canCut_78 : decode cX7_canCut 78 = .ok (.iload 7, 2) := by decide +kernel
theorem dX7_canCut_80 : decode cX7_canCut 80 = .ok (.iadd, 1) := by decide +kernel
theorem dX7_canCut_81 : decode cX7_canCut 81 = .ok (.invokestatic 70, 3) := by decide +kernel
theorem dX7_canCut_84 : decode cX7_canCut 84 = .ok (.iaload, 1) := by decide +kernel
theorem dX7_canCut_85 : decode cX7_canCut 85 = .ok (.iload 5, 2) := by decide +kernel
theorem dX7_canCut_87 : decode cX7_canCut 87 = .ok (.ishr, 1) := by decide +kernel
theorem dX7_canCut_88 : decode cX7_canCut 88 = .ok (.aload_n 0, 1) := by decide +kernel
theorem dX7_canCut_89 : decode cX7_canCut 89 = .ok (.iload_n 2, 1) := by decide +kernel
theorem dX7_canCut_90 : decode cX7_canCut 90 = .ok (.iload_n 3, 1) := by decide +kernel
theorem dX7_canCut_91 : decode cX7_canCut 91 = .ok (.iload 7, 2) := by decide +kernel
theorem dX7_canCut_93 : decode cX7_canCut 93 = .ok (.invokevirtual 60, 3) := by decide +kernel
theorem dX7_canCut_96 : decode cX7_canCut 96 = .ok (.iand, 1) := by decide +kernel
theorem dX7_canCut_97 : decode cX7_canCut 97 = .ok (.ifCond .ne 7, 3) := by decide +kernel
theorem dX7_canCut_100 : decode cX7_canCut 100 = .ok (.iconst 1, 1) := by decide +kernel
theorem dX7_canCut_101 : decode cX7_canCut 101 = .ok (.goto 4, 3) := by decide +kernel
theorem dX7_canCut_104 : decode cX7_canCut 104 = .ok (.iconst 0, 1) := by decide +kernel
theorem dX7_canCut_105 : decode cX7_canCut 105 = .ok (.istore 6, 2) := by decide +kernel
theorem dX7_canCut_107 : decode cX7_canCut 107 = .ok (.iinc 7 1, 3) := by decide +kernel
theorem dX7_canCut_110 : decode cX7_canCut 110 = .ok (.goto (-55), 3) := by decide +kernel
theorem dX7_canCut_113 : decode cX7_canCut 113 = .ok (.iload 6, 2) := by decide +kernel
theorem dX7_canCut_115 : decode cX7_canCut 115 = .ok (.ireturn, 1) := by decide +kernel
theorem dX7_cutsOut_0 : decode cX7_cutsOut 0 = .ok (.iconst 0, 1) := by decide +kernel
theorem dX7_cutsOut_1 : decode cX7_cutsOut 1 = .ok (.istore 6, 2) := by decide +kernel
theorem dX7_cutsOut_3 : decode cX7_cutsOut 3 = .ok (.iload 6, 2) := by decide +kernel
theorem dX7_cutsOut_5 : decode cX7_cutsOut 5 = .ok (.iload_n 3, 1) := by decide +kernel
theorem dX7_cutsOut_6 : decode cX7_cutsOut 6 = .ok (.invokestatic 53, 3) := by decide +kernel
theorem dX7_cutsOut_9 : decode cX7_cutsOut 9 = .ok (.if_icmp .ge 39, 3) := by decide +kernel
theorem dX7_cutsOut_12 : decode cX7_cutsOut 12 = .ok (.aload_n 0, 1) := by decide +kernel
theorem dX7_cutsOut_13 : decode cX7_cutsOut 13 = .ok (.getfield 7, 3) := by decide +kernel
theorem dX7_cutsOut_16 : decode cX7_cutsOut 16 = .ok (.iload_n 1, 1) := by decide +kernel
theorem dX7_cutsOut_17 : decode cX7_cutsOut 17 = .ok (.iconst 2, 1) := by decide +kernel
theorem dX7_cutsOut_18 : decode cX7_cutsOut 18 = .ok (.iload 4, 2) := by decide +kernel
theorem dX7_cutsOut_20 : decode cX7_cutsOut 20 = .ok (.iadd, 1) := by decide +kernel
theorem dX7_cutsOut_21 : decode cX7_cutsOut 21 = .ok (.iload 6, 2) := by decide +kernel
theorem dX7_cutsOut_23 : decode cX7_cutsOut 23 = .ok (.iadd, 1) := by decide +kernel
theorem dX7_cutsOut_24 : decode cX7_cutsOut 24 = .ok (.invokestatic 70, 3) := by decide +kernel
theorem dX7_cutsOut_27 : decode cX7_cutsOut 27 = .ok (.dup2, 1) := by decide +kernel
theorem dX7_cutsOut_28 : decode cX7_cutsOut 28 = .ok (.iaload, 1) := by decide +kernel
theorem dX7_cutsOut_29 : decode cX7_cutsOut 29 = .ok (.aload_n 0, 1) := by decide +kernel
theorem dX7_cutsOut_30 : decode cX7_cutsOut 30 = .ok (.iload_n 2, 1) := by decide +kernel
theorem dX7_cutsOut_31 : decode cX7_cutsOut 31 = .ok (.iload_n 3, 1) := by decide +kernel
theorem dX7_cutsOut_32 : decode cX7_cutsOut 32 = .ok (.iload 6, 2) := by decide +kernel
theorem dX7_cutsOut_34 : decode cX7_cutsOut 34 = .ok (.invokevirtual 60, 3) := by decide +kernel
theorem dX7_cutsOut_37 : decode cX7_cutsOut 37 = .ok (.iload 5, 2) := by decide +kernel
theorem dX7_cutsOut_39 : decode cX7_cutsOut 39 = .ok (.ishl, 1) := by decide +kernel
theorem dX7_cutsOut_40 : decode cX7_cutsOut 40 = .ok (.ior, 1) := by decide +kernel
theorem dX7_cutsOut_41 : decode cX7_cutsOut 41 = .ok (.iastore, 1) := by decide +kernel
theorem dX7_cutsOut_42 : decode cX7_cutsOut 42 = .ok (.iinc 6 1, 3) := by decide +kernel
theorem dX7_cutsOut_45 : decode cX7_cutsOut 45 = .ok (.goto (-42), 3) := by decide +kernel
theorem dX7_cutsOut_48 : decode cX7_cutsOut 48 = .ok (.return_, 1) := by decide +kernel
theorem dX7_findsFit_0 : decode cX7_findsFit 0 = .ok (.iconst 0, 1) := by decide +kernel
theorem dX7_findsFit_1 : decode cX7_findsFit 1 = .ok (.istore 4, 2) := by decide +kernel
theorem dX7_findsFit_3 : decode cX7_findsFit 3 = .ok (.iconst 0, 1) := by decide +kernel
theorem dX7_findsFit_4 : decode cX7_findsFit 4 = .ok (.istore 5, 2) := by decide +kernel
theorem dX7_findsFit_6 : decode cX7_findsFit 6 = .ok (.iload 5, 2) := by decide +kernel
theorem dX7_findsFit_8 : decode cX7_findsFit 8 = .ok (.sipush 504, 3) := by decide +kernel
theorem dX7_findsFit_11 : decode cX7_findsFit 11 = .ok (.if_icmp .ge 80, 3) := by decide +kernel
theorem dX7_findsFit_14 : decode cX7_findsFit 14 = .ok (.iload 4, 2) := by decide +kernel
theorem dX7_findsFit_16 : decode cX7_findsFit 16 = .ok (.ifCond .ne 75, 3) := by decide +kernel
theorem dX7_findsFit_19 : decode cX7_findsFit 19 = .ok (.iload 5, 2) := by decide +kernel
theorem dX7_findsFit_21 : decode cX7_findsFit 21 = .ok (.iconst 4, 1) := by decide +kernel
theorem dX7_findsFit_22 : decode cX7_findsFit 22 = .ok (.idiv, 1) := by decide +kernel
theorem dX7_findsFit_23 : decode cX7_findsFit 23 = .ok (.istore 6, 2) := by decide +kernel
theorem dX7_findsFit_25 : decode cX7_findsFit 25 = .ok (.iconst 4, 1) := by decide +kernel
theorem dX7_findsFit_26 : decode cX7_findsFit 26 = .ok (.iload_n 3, 1) := by decide +kernel
theorem dX7_findsFit_27 : decode cX7_findsFit 27 = .ok (.imul, 1) := by decide +kernel
theorem dX7_findsFit_28 : decode cX7_findsFit 28 = .ok (.iload 5, 2) := by decide +kernel
theorem dX7_findsFit_30 : decode cX7_findsFit 30 = .ok (.iconst 4, 1) := by decide +kernel
theorem dX7_findsFit_31 : decode cX7_findsFit 31 = .ok (.irem, 1) := by decide +kernel
theorem dX7_findsFit_32 : decode cX7_findsFit 32 = .ok (.iadd, 1) := by decide +kernel
theorem dX7_findsFit_33 : decode cX7_findsFit 33 = .ok (.istore 7, 2) := by decide +kernel
theorem dX7_findsFit_35 : decode cX7_findsFit 35 = .ok (.aload_n 0, 1) := by decide +kernel
theorem dX7_findsFit_36 : decode cX7_findsFit 36 = .ok (.iload_n 1, 1) := by decide +kernel
theorem dX7_findsFit_37 : decode cX7_findsFit 37 = .ok (.iload_n 2, 1) := by decide +kernel
theorem dX7_findsFit_38 : decode cX7_findsFit 38 = .ok (.iload 7, 2) := by decide +kernel
theorem dX7_findsFit_40 : decode cX7_findsFit 40 = .ok (.iload 6, 2) := by decide +kernel
theorem dX7_findsFit_42 : decode cX7_findsFit 42 = .ok (.bipush 14, 2) := by decide +kernel
theorem dX7_findsFit_44 : decode cX7_findsFit 44 = .ok (.idiv, 1) := by decide +kernel
theorem dX7_findsFit_45 : decode cX7_findsFit 45 = .ok (.iload 6, 2) := by decide +kernel
theorem dX7_findsFit_47 : decode cX7_findsFit 47 = .ok (.bipush 14, 2) := by decide +kernel
theorem dX7_findsFit_49 : decode cX7_findsFit 49 = .ok (.irem, 1) := by decide +kernel
theorem dX7_findsFit_50 : decode cX7_findsFit 50 = .ok (.invokevirtual 74, 3) := by decide +kernel
theorem dX7_findsFit_53 : decode cX7_findsFit 53 = .ok (.istore 4, 2) := by decide +kernel
theorem dX7_findsFit_55 : decode cX7_findsFit 55 = .ok (.aload_n 0, 1) := by decide +kernel
theorem dX7_findsFit_56 : decode cX7_findsFit 56 = .ok (.getfield 32, 3) := by decide +kernel
theorem dX7_findsFit_59 : decode cX7_findsFit 59 = .ok (.iconst 0, 1) := by decide +kernel
theorem dX7_findsFit_60 : decode cX7_findsFit 60 = .ok (.iload 7, 2) := by decide +kernel
theorem dX7_findsFit_62 : decode cX7_findsFit 62 = .ok (.iastore, 1) := by decide +kernel
theorem dX7_findsFit_63 : decode cX7_findsFit 63 = .ok (.aload_n 0, 1) := by decide +kernel
theorem dX7_findsFit_64 : decode cX7_findsFit 64 = .ok (.getfield 32, 3) := by decide +kernel
theorem dX7_findsFit_67 : decode cX7_findsFit 67 = .ok (.iconst 1, 1) := by decide +kernel
theorem dX7_findsFit_68 : decode cX7_findsFit 68 = .ok (.iload 6, 2) := by decide +kernel
theorem dX7_findsFit_70 : decode cX7_findsFit 70 = .ok (.bipush 14, 2) := by decide +kernel
theorem dX7_findsFit_72 : decode cX7_findsFit 72 = .ok (.idiv, 1) := by decide +kernel
theorem dX7_findsFit_73 : decode cX7_findsFit 73 = .ok (.iastore, 1) := by decide +kernel
theorem dX7_findsFit_74 : decode cX7_findsFit 74 = .ok (.aload_n 0, 1) := by decide +kernel
theorem dX7_findsFit_75 : decode cX7_findsFit 75 = .ok (.getfield 32, 3) := by decide +kernel
theorem dX7_findsFit_78 : decode cX7_findsFit 78 = .ok (.iconst 2, 1) := by decide +kernel
theorem dX7_findsFit_79 : decode cX7_findsFit 79 = .ok (.iload 6, 2) := by decide +kernel
theorem dX7_findsFit_81 : decode cX7_findsFit 81 = .ok (.bipush 14, 2) := by decide +kernel
theorem dX7_findsFit_83 : decode cX7_findsFit 83 = .ok (.irem, 1) := by decide +kernel
theorem dX7_findsFit_84 : decode cX7_findsFit 84 = .ok (.iastore, 1) := by decide +kernel
theorem dX7_findsFit_85 : decode cX7_findsFit 85 = .ok (.iinc 5 1, 3) := by decide +kernel
theorem dX7_findsFit_88 : decode cX7_findsFit 88 = .ok (.goto (-82), 3) := by decide +kernel
theorem dX7_findsFit_91 : decode cX7_findsFit 91 = .ok (.iload 4, 2) := by decide +kernel
theorem dX7_findsFit_93 : decode cX7_findsFit 93 = .ok (.ireturn, 1) := by decide +kernel
theorem dX7_sheetFor_0 : decode cX7_sheetFor 0 = .ok (.iconst 0, 1) := by decide +kernel
theorem dX7_sheetFor_1 : decode cX7_sheetFor 1 = .ok (.istore 4, 2) := by decide +kernel
theorem dX7_sheetFor_3 : decode cX7_sheetFor 3 = .ok (.iload 4, 2) := by decide +kernel
theorem dX7_sheetFor_5 : decode cX7_sheetFor 5 = .ok (.aload_n 0, 1) := by decide +kernel
theorem dX7_sheetFor_6 : decode cX7_sheetFor 6 = .ok (.getfield 7, 3) := by decide +kernel
theorem dX7_sheetFor_9 : decode cX7_sheetFor 9 = .ok (.iconst 0, 1) := by decide +kernel
theorem dX7_sheetFor_10 : decode cX7_sheetFor 10 = .ok (.iaload, 1) := by decide +kernel
theorem dX7_sheetFor_11 : decode cX7_sheetFor 11 = .ok (.if_icmp .ge 38, 3) := by decide +kernel
theorem dX7_sheetFor_14 : decode cX7_sheetFor 14 = .ok (.aload_n 0, 1) := by decide +kernel
theorem dX7_sheetFor_15 : decode cX7_sheetFor 15 = .ok (.getfield 7, 3) := by decide +kernel
theorem dX7_sheetFor_18 : decode cX7_sheetFor 18 = .ok (.iload 4, 2) := by decide +kernel
theorem dX7_sheetFor_20 : decode cX7_sheetFor 20 = .ok (.iconst 0, 1) := by decide +kernel
theorem dX7_sheetFor_21 : decode cX7_sheetFor 21 = .ok (.invokestatic 70, 3) := by decide +kernel
theorem dX7_sheetFor_24 : decode cX7_sheetFor 24 = .ok (.iaload, 1) := by decide +kernel
theorem dX7_sheetFor_25 : decode cX7_sheetFor 25 = .ok (.iload_n 1, 1) := by decide +kernel
theorem dX7_sheetFor_26 : decode cX7_sheetFor 26 = .ok (.if_icmp .ne 17, 3) := by decide +kernel
theorem dX7_sheetFor_29 : decode cX7_sheetFor 29 = .ok (.aload_n 0, 1) := by decide +kernel
theorem dX7_sheetFor_30 : decode cX7_sheetFor 30 = .ok (.iload 4, 2) := by decide +kernel
theorem dX7_sheetFor_32 : decode cX7_sheetFor 32 = .ok (.iload_n 2, 1) := by decide +kernel
theorem dX7_sheetFor_33 : decode cX7_sheetFor 33 = .ok (.iload_n 3, 1) := by decide +kernel
theorem dX7_sheetFor_34 : decode cX7_sheetFor 34 = .ok (.invokevirtual 78, 3) := by decide +kernel
theorem dX7_sheetFor_37 : decode cX7_sheetFor 37 = .ok (.ifCond .eq 6, 3) := by decide +kernel
theorem dX7_sheetFor_40 : decode cX7_sheetFor 40 = .ok (.iload 4, 2) := by decide +kernel
theorem dX7_sheetFor_42 : decode cX7_sheetFor 42 = .ok (.ireturn, 1) := by decide +kernel
theorem dX7_sheetFor_43 : decode cX7_sheetFor 43 = .ok (.iinc 4 1, 3) := by decide +kernel
theorem dX7_sheetFor_46 : decode cX7_sheetFor 46 = .ok (.goto (-43), 3) := by decide +kernel
theorem dX7_sheetFor_49 : decode cX7_sheetFor 49 = .ok (.bipush (-6), 2) := by decide +kernel
theorem dX7_sheetFor_51 : decode cX7_sheetFor 51 = .ok (.ireturn, 1) := by decide +kernel
theorem dX7_uncut_0 : decode cX7_uncut 0 = .ok (.bipush 126, 2) := by decide +kernel
theorem dX7_uncut_2 : decode cX7_uncut 2 = .ok (.istore_n 2, 1) := by decide +kernel
theorem dX7_uncut_3 : decode cX7_uncut 3 = .ok (.iconst 0, 1) := by decide +kernel
theorem dX7_uncut_4 : decode cX7_uncut 4 = .ok (.istore_n 3, 1) := by decide +kernel
theorem dX7_uncut_5 : decode cX7_uncut 5 = .ok (.iload_n 3, 1) := by decide +kernel
theorem dX7_uncut_6 : decode cX7_uncut 6 = .ok (.bipush 9, 2) := by decide +kernel
theorem dX7_uncut_8 : decode cX7_uncut 8 = .ok (.if_icmp .ge 27, 3) := by decide +kernel
theorem dX7_uncut_11 : decode cX7_uncut 11 = .ok (.iload_n 2, 1) := by decide +kernel
theorem dX7_uncut_12 : decode cX7_uncut 12 = .ok (.aload_n 0, 1) := by decide +kernel
theorem dX7_uncut_13 : decode cX7_uncut 13 = .ok (.getfield 7, 3) := by decide +kernel
theorem dX7_uncut_16 : decode cX7_uncut 16 = .ok (.iload_n 1, 1) := by decide +kernel
theorem dX7_uncut_17 : decode cX7_uncut 17 = .ok (.iconst 2, 1) := by decide +kernel
theorem dX7_uncut_18 : decode cX7_uncut 18 = .ok (.iload_n 3, 1) := by decide +kernel
theorem dX7_uncut_19 : decode cX7_uncut 19 = .ok (.iadd, 1) := by decide +kernel
theorem dX7_uncut_20 : decode cX7_uncut 20 = .ok (.invokestatic 70, 3) := by decide +kernel
theorem dX7_uncut_23 : decode cX7_uncut 23 = .ok (.iaload, 1) := by decide +kernel
theorem dX7_uncut_24 : decode cX7_uncut 24 = .ok (.invokestatic 63, 3) := by decide +kernel
theorem dX7_uncut_27 : decode cX7_uncut 27 = .ok (.isub, 1) := by decide +kernel
theorem dX7_uncut_28 : decode cX7_uncut 28 = .ok (.istore_n 2, 1) := by decide +kernel
theorem dX7_uncut_29 : decode cX7_uncut 29 = .ok (.iinc 3 1, 3) := by decide +kernel
theorem dX7_uncut_32 : decode cX7_uncut 32 = .ok (.goto (-27), 3) := by decide +kernel
theorem dX7_uncut_35 : decode cX7_uncut 35 = .ok (.iload_n 2, 1) := by decide +kernel
theorem dX7_uncut_36 : decode cX7_uncut 36 = .ok (.ireturn, 1) := by decide +kernel
theorem dX7_newPiece_0 : decode cX7_newPiece 0 = .ok (.aload_n 0, 1) := by decide +kernel
theorem dX7_newPiece_1 : decode cX7_newPiece 1 = .ok (.getfield 7, 3) := by decide +kernel
theorem dX7_newPiece_4 : decode cX7_newPiece 4 = .ok (.iconst 1, 1) := by decide +kernel
theorem dX7_newPiece_5 : decode cX7_newPiece 5 = .ok (.iaload, 1) := by decide +kernel
theorem dX7_newPiece_6 : decode cX7_newPiece 6 = .ok (.istore 6, 2) := by decide +kernel
theorem dX7_newPiece_8 : decode cX7_newPiece 8 = .ok (.aload_n 0, 1) := by decide +kernel
theorem dX7_newPiece_9 : decode cX7_newPiece 9 = .ok (.getfield 7, 3) := by decide +kernel
theorem dX7_newPiece_12 : decode cX7_newPiece 12 = .ok (.iconst 1, 1) := by decide +kernel
theorem dX7_newPiece_13 : decode cX7_newPiece 13 = .ok (.dup2, 1) := by decide +kernel
theorem dX7_newPiece_14 : decode cX7_newPiece 14 = .ok (.iaload, 1) := by decide +kernel
theorem dX7_newPiece_15 : decode cX7_newPiece 15 = .ok (.iconst 1, 1) := by decide +kernel
theorem dX7_newPiece_16 : decode cX7_newPiece 16 = .ok (.iadd, 1) := by decide +kernel
theorem dX7_newPiece_17 : decode cX7_newPiece 17 = .ok (.iastore, 1) := by decide +kernel
theorem dX7_newPiece_18 : decode cX7_newPiece 18 = .ok (.aload_n 0, 1) := by decide +kernel
theorem dX7_newPiece_19 : decode cX7_newPiece 19 = .ok (.iload_n 1, 1) := by decide +kernel
theorem dX7_newPiece_20 : decode cX7_newPiece 20 = .ok (.iload_n 2, 1) := by decide +kernel
theorem dX7_newPiece_21 : decode cX7_newPiece 21 = .ok (.iload_n 3, 1) := by decide +kernel
theorem dX7_newPiece_22 : decode cX7_newPiece 22 = .ok (.iload 4, 2) := by decide +kernel
theorem dX7_newPiece_24 : decode cX7_newPiece 24 = .ok (.iload 5, 2) := by decide +kernel
theorem dX7_newPiece_26 : decode cX7_newPiece 26 = .ok (.invokevirtual 81, 3) := by decide +kernel
theorem dX7_newPiece_29 : decode cX7_newPiece 29 = .ok (.aload_n 0, 1) := by decide +kernel
theorem dX7_newPiece_30 : decode cX7_newPiece 30 = .ok (.getfield 7, 3) := by decide +kernel
theorem dX7_newPiece_33 : decode cX7_newPiece 33 = .ok (.iload 6, 2) := by decide +kernel
theorem dX7_newPiece_35 : decode cX7_newPiece 35 = .ok (.iconst 0, 1) := by decide +kernel
theorem dX7_newPiece_36 : decode cX7_newPiece 36 = .ok (.invokestatic 85, 3) := by decide +kernel
theorem dX7_newPiece_39 : decode cX7_newPiece 39 = .ok (.iload_n 2, 1) := by decide +kernel
theorem dX7_newPiece_40 : decode cX7_newPiece 40 = .ok (.iastore, 1) := by decide +kernel
theorem dX7_newPiece_41 : decode cX7_newPiece 41 = .ok (.aload_n 0, 1) := by decide +kernel
theorem dX7_newPiece_42 : decode cX7_newPiece 42 = .ok (.getfield 7, 3) := by decide +kernel
theorem dX7_newPiece_45 : decode cX7_newPiece 45 = .ok (.iload 6, 2) := by decide +kernel
theorem dX7_newPiece_47 : decode cX7_newPiece 47 = .ok (.iconst 1, 1) := by decide +kernel
theorem dX7_newPiece_48 : decode cX7_newPiece 48 = .ok (.invokestatic 85, 3) := by decide +kernel
theorem dX7_newPiece_51 : decode cX7_newPiece 51 = .ok (.aload_n 0, 1) := by decide +kernel
theorem dX7_newPiece_52 : decode cX7_newPiece 52 = .ok (.getfield 7, 3) := by decide +kernel
theorem dX7_newPiece_55 : decode cX7_newPiece 55 = .ok (.iload_n 1, 1) := by decide +kernel
theorem dX7_newPiece_56 : decode cX7_newPiece 56 = .ok (.iconst 0, 1) := by decide +kernel
theorem dX7_newPiece_57 : decode cX7_newPiece 57 = .ok (.invokestatic 70, 3) := by decide +kernel
theorem dX7_newPiece_60 : decode cX7_newPiece 60 = .ok (.iaload, 1) := by decide +kernel
theorem dX7_newPiece_61 : decode cX7_newPiece 61 = .ok (.iastore, 1) := by decide +kernel
theorem dX7_newPiece_62 : decode cX7_newPiece 62 = .ok (.aload_n 0, 1) := by decide +kernel
theorem dX7_newPiece_63 : decode cX7_newPiece 63 = .ok (.getfield 7, 3) := by decide +kernel
theorem dX7_newPiece_66 : decode cX7_newPiece 66 = .ok (.iload 6, 2) := by decide +kernel
theorem dX7_newPiece_68 : decode cX7_newPiece 68 = .ok (.iconst 2, 1) := by decide +kernel
theorem dX7_newPiece_69 : decode cX7_newPiece 69 = .ok (.invokestatic 85, 3) := by decide +kernel
theorem dX7_newPiece_72 : decode cX7_newPiece 72 = .ok (.iload_n 3, 1) := by decide +kernel
theorem dX7_newPiece_73 : decode cX7_newPiece 73 = .ok (.iconst 4, 1) := by decide +kernel
theorem dX7_newPiece_74 : decode cX7_newPiece 74 = .ok (.idiv, 1) := by decide +kernel
theorem dX7_newPiece_75 : decode cX7_newPiece 75 = .ok (.iastore, 1) := by decide +kernel
theorem dX7_newPiece_76 : decode cX7_newPiece 76 = .ok (.aload_n 0, 1) := by decide +kernel
theorem dX7_newPiece_77 : decode cX7_newPiece 77 = .ok (.getfield 7, 3) := by decide +kernel
theorem dX7_newPiece_80 : decode cX7_newPiece 80 = .ok (.iload 6, 2) := by decide +kernel
theorem dX7_newPiece_82 : decode cX7_newPiece 82 = .ok (.iconst 3, 1) := by decide +kernel
theorem dX7_newPiece_83 : decode cX7_newPiece 83 = .ok (.invokestatic 85, 3) := by decide +kernel
theorem dX7_newPiece_86 : decode cX7_newPiece 86 = .ok (.iconst 0, 1) := by decide +kernel
theorem dX7_newPiece_87 : decode cX7_newPiece 87 = .ok (.iastore, 1) := by decide +kernel
theorem dX7_newPiece_88 : decode cX7_newPiece 88 = .ok (.aload_n 0, 1) := by decide +kernel
theorem dX7_newPiece_89 : decode cX7_newPiece 89 = .ok (.getfield 7, 3) := by decide +kernel
theorem dX7_newPiece_92 : decode cX7_newPiece 92 = .ok (.iload 6, 2) := by decide +kernel
theorem dX7_newPiece_94 : decode cX7_newPiece 94 = .ok (.iconst 4, 1) := by decide +kernel
theorem dX7_newPiece_95 : decode cX7_newPiece 95 = .ok (.invokestatic 85, 3) := by decide +kernel
theorem dX7_newPiece_98 : decode cX7_newPiece 98 = .ok (.bipush (-6), 2) := by decide +kernel
theorem dX7_newPiece_100 : decode cX7_newPiece 100 = .ok (.iastore, 1) := by decide +kernel
theorem dX7_newPiece_101 : decode cX7_newPiece 101 = .ok (.aload_n 0, 1) := by decide +kernel
theorem dX7_newPiece_102 : decode cX7_newPiece 102 = .ok (.getfield 7, 3) := by decide +kernel
theorem dX7_newPiece_105 : decode cX7_newPiece 105 = .ok (.iload 6, 2) := by decide +kernel
theorem dX7_newPiece_107 : decode cX7_newPiece 107 = .ok (.iconst 5, 1) := by decide +kernel
theorem dX7_newPiece_108 : decode cX7_newPiece 108 = .ok (.invokestatic 85, 3) := by decide +kernel
theorem dX7_newPiece_111 : decode cX7_newPiece 111 = .ok (.iload_n 1, 1) := by decide +kernel
theorem dX7_newPiece_112 : decode cX7_newPiece 112 = .ok (.iastore, 1) := by decide +kernel
theorem dX7_newPiece_113 : decode cX7_newPiece 113 = .ok (.aload_n 0, 1) := by decide +kernel
theorem dX7_newPiece_114 : decode cX7_newPiece 114 = .ok (.getfield 7, 3) := by decide +kernel
theorem dX7_newPiece_117 : decode cX7_newPiece 117 = .ok (.iload 6, 2) := by decide +kernel
theorem dX7_newPiece_119 : decode cX7_newPiece 119 = .ok (.bipush 6, 2) := by decide +kernel
theorem dX7_newPiece_121 : decode cX7_newPiece 121 = .ok (.invokestatic 85, 3) := by decide +kernel
theorem dX7_newPiece_124 : decode cX7_newPiece 124 = .ok (.bipush 14, 2) := by decide +kernel
theorem dX7_newPiece_126 : decode cX7_newPiece 126 = .ok (.iload 4, 2) := by decide +kernel
theorem dX7_newPiece_128 : decode cX7_newPiece 128 = .ok (.imul, 1) := by decide +kernel
theorem dX7_newPiece_129 : decode cX7_newPiece 129 = .ok (.iload 5, 2) := by decide +kernel
theorem dX7_newPiece_131 : decode cX7_newPiece 131 = .ok (.iadd, 1) := by decide +kernel
theorem dX7_newPiece_132 : decode cX7_newPiece 132 = .ok (.iastore, 1) := by decide +kernel
theorem dX7_newPiece_133 : decode cX7_newPiece 133 = .ok (.aload_n 0, 1) := by decide +kernel
theorem dX7_newPiece_134 : decode cX7_newPiece 134 = .ok (.getfield 7, 3) := by decide +kernel
theorem dX7_newPiece_137 : decode cX7_newPiece 137 = .ok (.iload 6, 2) := by decide +kernel
theorem dX7_newPiece_139 : decode cX7_newPiece 139 = .ok (.bipush 7, 2) := by decide +kernel
theorem dX7_newPiece_141 : decode cX7_newPiece 141 = .ok (.invokestatic 85, 3) := by decide +kernel
theorem dX7_newPiece_144 : decode cX7_newPiece 144 = .ok (.iload_n 3, 1) := by decide +kernel
theorem dX7_newPiece_145 : decode cX7_newPiece 145 = .ok (.iastore, 1) := by decide +kernel
theorem dX7_newPiece_146 : decode cX7_newPiece 146 = .ok (.iload 6, 2) := by decide +kernel
theorem dX7_newPiece_148 : decode cX7_newPiece 148 = .ok (.ireturn, 1) := by decide +kernel
theorem dX7_looseOne_0 : decode cX7_looseOne 0 = .ok (.bipush (-6), 2) := by decide +kernel
theorem dX7_looseOne_2 : decode cX7_looseOne 2 = .ok (.istore 4, 2) := by decide +kernel
theorem dX7_looseOne_4 : decode cX7_looseOne 4 = .ok (.aload_n 0, 1) := by decide +kernel
theorem dX7_looseOne_5 : decode cX7_looseOne 5 = .ok (.getfield 7, 3) := by decide +kernel
theorem dX7_looseOne_8 : decode cX7_looseOne 8 = .ok (.iconst 1, 1) := by decide +kernel
theorem dX7_looseOne_9 : decode cX7_looseOne 9 = .ok (.iaload, 1) := by decide +kernel
theorem dX7_looseOne_10 : decode cX7_looseOne 10 = .ok (.iconst 1, 1) := by decide +kernel
theorem dX7_looseOne_11 : decode cX7_looseOne 11 = .ok (.isub, 1) := by decide +kernel
theorem dX7_looseOne_12 : decode cX7_looseOne 12 = .ok (.istore 5, 2) := by decide +kernel
theorem dX7_looseOne_14 : decode cX7_looseOne 14 = .ok (.iload 5, 2) := by decide +kernel
theorem dX7_looseOne_16 : decode cX7_looseOne 16 = .ok (.ifCond .lt 89, 3) := by decide +kernel
theorem dX7_looseOne_19 : decode cX7_looseOne 19 = .ok (.aload_n 0, 1) := by decide +kernel
theorem dX7_looseOne_20 : decode cX7_looseOne 20 = .ok (.getfield 7, 3) := by decide +kernel
theorem dX7_looseOne_23 : decode cX7_looseOne 23 = .ok (.iload 5, 2) := by decide +kernel
theorem dX7_looseOne_25 : decode cX7_looseOne 25 = .ok (.iconst 0, 1) := by decide +kernel
theorem dX7_looseOne_26 : decode cX7_looseOne 26 = .ok (.invokestatic 85, 3) := by decide +kernel
theorem dX7_looseOne_29 : decode cX7_looseOne 29 = .ok (.iaload, 1) := by decide +kernel
theorem dX7_looseOne_30 : decode cX7_looseOne 30 = .ok (.iload_n 2, 1) := by decide +kernel
theorem dX7_looseOne_31 : decode cX7_looseOne 31 = .ok (.if_icmp .ne 37, 3) := by decide +kernel
theorem dX7_looseOne_34 : decode cX7_looseOne 34 = .ok (.aload_n 0, 1) := by decide +kernel
theorem dX7_looseOne_35 : decode cX7_looseOne 35 = .ok (.getfield 7, 3) := by decide +kernel
theorem dX7_looseOne_38 : decode cX7_looseOne 38 = .ok (.iload 5, 2) := by decide +kernel
theorem dX7_looseOne_40 : decode cX7_looseOne 40 = .ok (.iconst 1, 1) := by decide +kernel
theorem dX7_looseOne_41 : decode cX7_looseOne 41 = .ok (.invokestatic 85, 3) := by decide +kernel
theorem dX7_looseOne_44 : decode cX7_looseOne 44 = .ok (.iaload, 1) := by decide +kernel
theorem dX7_looseOne_45 : decode cX7_looseOne 45 = .ok (.iload_n 1, 1) := by decide +kernel
theorem dX7_looseOne_46 : decode cX7_looseOne 46 = .ok (.if_icmp .ne 22, 3) := by decide +kernel
theorem dX7_looseOne_49 : decode cX7_looseOne 49 = .ok (.aload_n 0, 1) := by decide +kernel
theorem dX7_looseOne_50 : decode cX7_looseOne 50 = .ok (.getfield 7, 3) := by decide +kernel
theorem dX7_looseOne_53 : decode cX7_looseOne 53 = .ok (.iload 5, 2) := by decide +kernel
theorem dX7_looseOne_55 : decode cX7_looseOne 55 = .ok (.iconst 2, 1) := by decide +kernel
theorem dX7_looseOne_56 : decode cX7_looseOne 56 = .ok (.invokestatic 85, 3) := by decide +kernel
theorem dX7_looseOne_59 : decode cX7_looseOne 59 = .ok (.iaload, 1) := by decide +kernel
theorem dX7_looseOne_60 : decode cX7_looseOne 60 = .ok (.iload_n 3, 1) := by decide +kernel
theorem dX7_looseOne_61 : decode cX7_looseOne 61 = .ok (.if_icmp .ne 7, 3) := by decide +kernel
theorem dX7_looseOne_64 : decode cX7_looseOne 64 = .ok (.iconst 1, 1) := by decide +kernel
theorem dX7_looseOne_65 : decode cX7_looseOne 65 = .ok (.goto 4, 3) := by decide +kernel
theorem dX7_looseOne_68 : decode cX7_looseOne 68 = .ok (.iconst 0, 1) := by decide +kernel
theorem dX7_looseOne_69 : decode cX7_looseOne 69 = .ok (.istore 6, 2) := by decide +kernel
theorem dX7_looseOne_71 : decode cX7_looseOne 71 = .ok (.iload 6, 2) := by decide +kernel
theorem dX7_looseOne_73 : decode cX7_looseOne 73 = .ok (.ifCond .eq 22, 3) := by decide +kernel
theorem dX7_looseOne_76 : decode cX7_looseOne 76 = .ok (.aload_n 0, 1) := by decide +kernel
theorem dX7_looseOne_77 : decode cX7_looseOne 77 = .ok (.getfield 7, 3) := by decide +kernel
theorem dX7_looseOne_80 : decode cX7_looseOne 80 = .ok (.iload 5, 2) := by decide +kernel
theorem dX7_looseOne_82 : decode cX7_looseOne 82 = .ok (.iconst 3, 1) := by decide +kernel
theorem dX7_looseOne_83 : decode cX7_looseOne 83 = .ok (.invokestatic 85, 3) := by decide +kernel
theorem dX7_looseOne_86 : decode cX7_looseOne 86 = .ok (.iaload, 1) := by decide +kernel
theorem dX7_looseOne_87 : decode cX7_looseOne 87 = .ok (.ifCond .ne 8, 3) := by decide +kernel
theorem dX7_looseOne_90 : decode cX7_looseOne 90 = .ok (.iload 5, 2) := by decide +kernel
theorem dX7_looseOne_92 : decode cX7_looseOne 92 = .ok (.goto 5, 3) := by decide +kernel
theorem dX7_looseOne_95 : decode cX7_looseOne 95 = .ok (.iload 4, 2) := by decide +kernel
theorem dX7_looseOne_97 : decode cX7_looseOne 97 = .ok (.istore 4, 2) := by decide +kernel
theorem dX7_looseOne_99 : decode cX7_looseOne 99 = .ok (.iinc 5 (-1), 3) := by decide +kernel
theorem dX7_looseOne_102 : decode cX7_looseOne 102 = .ok (.goto (-88), 3) := by decide +kernel
theorem dX7_looseOne_105 : decode cX7_looseOne 105 = .ok (.iload 4, 2) := by decide +kernel
theorem dX7_looseOne_107 : decode cX7_looseOne 107 = .ok (.ireturn, 1) := by decide +kernel
theorem dX7_pieceAt_0 : decode cX7_pieceAt 0 = .ok (.bipush (-6), 2) := by decide +kernel
theorem dX7_pieceAt_2 : decode cX7_pieceAt 2 = .ok (.istore_n 3, 1) := by decide +kernel
theorem dX7_pieceAt_3 : decode cX7_pieceAt 3 = .ok (.iconst 0, 1) := by decide +kernel
theorem dX7_pieceAt_4 : decode cX7_pieceAt 4 = .ok (.istore 4, 2) := by decide +kernel
theorem dX7_pieceAt_6 : decode cX7_pieceAt 6 = .ok (.iload 4, 2) := by decide +kernel
theorem dX7_pieceAt_8 : decode cX7_pieceAt 8 = .ok (.aload_n 0, 1) := by decide +kernel
theorem dX7_pieceAt_9 : decode cX7_pieceAt 9 = .ok (.getfield 7, 3) := by decide +kernel
theorem dX7_pieceAt_12 : decode cX7_pieceAt 12 = .ok (.iconst 1, 1) := by decide +kernel
theorem dX7_pieceAt_13 : decode cX7_pieceAt 13 = .ok (.iaload, 1) := by decide +kernel
theorem dX7_pieceAt_14 : decode cX7_pieceAt 14 = .ok (.if_icmp .ge 36, 3) := by decide +kernel
theorem dX7_pieceAt_17 : decode cX7_pieceAt 17 = .ok (.aload_n 0, 1) := by decide +kernel
theorem dX7_pieceAt_18 : decode cX7_pieceAt 18 = .ok (.getfield 7, 3) := by decide +kernel
theorem dX7_pieceAt_21 : decode cX7_pieceAt 21 = .ok (.iload 4, 2) := by decide +kernel
theorem dX7_pieceAt_23 : decode cX7_pieceAt 23 = .ok (.iconst 4, 1) := by decide +kernel
theorem dX7_pieceAt_24 : decode cX7_pieceAt 24 = .ok (.invokestatic 85, 3) := by decide +kernel
theorem dX7_pieceAt_27 : decode cX7_pieceAt 27 = .ok (.iaload, 1) := by decide +kernel
theorem dX7_pieceAt_28 : decode cX7_pieceAt 28 = .ok (.bipush 12, 2) := by decide +kernel
theorem dX7_pieceAt_30 : decode cX7_pieceAt 30 = .ok (.iload_n 1, 1) := by decide +kernel
theorem dX7_pieceAt_31 : decode cX7_pieceAt 31 = .ok (.imul, 1) := by decide +kernel
theorem dX7_pieceAt_32 : decode cX7_pieceAt 32 = .ok (.iload_n 2, 1) := by decide +kernel
theorem dX7_pieceAt_33 : decode cX7_pieceAt 33 = .ok (.iadd, 1) := by decide +kernel
theorem dX7_pieceAt_34 : decode cX7_pieceAt 34 = .ok (.if_icmp .ne 8, 3) := by decide +kernel
theorem dX7_pieceAt_37 : decode cX7_pieceAt 37 = .ok (.iload 4, 2) := by decide +kernel
theorem dX7_pieceAt_39 : decode cX7_pieceAt 39 = .ok (.goto 4, 3) := by decide +kernel
theorem dX7_pieceAt_42 : decode cX7_pieceAt 42 = .ok (.iload_n 3, 1) := by decide +kernel
theorem dX7_pieceAt_43 : decode cX7_pieceAt 43 = .ok (.istore_n 3, 1) := by decide +kernel
theorem dX7_pieceAt_44 : decode cX7_pieceAt 44 = .ok (.iinc 4 1, 3) := by decide +kernel
theorem dX7_pieceAt_47 : decode cX7_pieceAt 47 = .ok (.goto (-41), 3) := by decide +kernel
theorem dX7_pieceAt_50 : decode cX7_pieceAt 50 = .ok (.iload_n 3, 1) := by decide +kernel
theorem dX7_pieceAt_51 : decode cX7_pieceAt 51 = .ok (.ireturn, 1) := by decide +kernel
theorem dX7_inPane_0 : decode cX7_inPane 0 = .ok (.iconst 0, 1) := by decide +kernel
theorem dX7_inPane_1 : decode cX7_inPane 1 = .ok (.istore_n 2, 1) := by decide +kernel
theorem dX7_inPane_2 : decode cX7_inPane 2 = .ok (.iconst 0, 1) := by decide +kernel
theorem dX7_inPane_3 : decode cX7_inPane 3 = .ok (.istore_n 3, 1) := by decide +kernel
theorem dX7_inPane_4 : decode cX7_inPane 4 = .ok (.iload_n 3, 1) := by decide +kernel
theorem dX7_inPane_5 : decode cX7_inPane 5 = .ok (.bipush 12, 2) := by decide +kernel
theorem dX7_inPane_7 : decode cX7_inPane 7 = .ok (.if_icmp .ge 28, 3) := by decide +kernel
theorem dX7_inPane_10 : decode cX7_inPane 10 = .ok (.iload_n 2, 1) := by decide +kernel
theorem dX7_inPane_11 : decode cX7_inPane 11 = .ok (.aload_n 0, 1) := by decide +kernel
theorem dX7_inPane_12 : decode cX7_inPane 12 = .ok (.iload_n 1, 1) := by decide +kernel
theorem dX7_inPane_13 : decode cX7_inPane 13 = .ok (.iload_n 3, 1) := by decide +kernel
theorem dX7_inPane_14 : decode cX7_inPane 14 = .ok (.invokevirtual 88, 3) := by decide +kernel
theorem dX7_inPane_17 : decode cX7_inPane 17 = .ok (.bipush (-6), 2) := by decide +kernel
theorem dX7_inPane_19 : decode cX7_inPane 19 = .ok (.if_icmp .ne 7, 3) := by decide +kernel
theorem dX7_inPane_22 : decode cX7_inPane 22 = .ok (.iconst 0, 1) := by decide +kernel
theorem dX7_inPane_23 : decode cX7_inPane 23 = .ok (.goto 4, 3) := by decide +kernel
theorem dX7_inPane_26 : decode cX7_inPane 26 = .ok (.iconst 1, 1) := by decide +kernel
theorem dX7_inPane_27 : decode cX7_inPane 27 = .ok (.iadd, 1) := by decide +kernel
theorem dX7_inPane_28 : decode cX7_inPane 28 = .ok (.istore_n 2, 1) := by decide +kernel
theorem dX7_inPane_29 : decode cX7_inPane 29 = .ok (.iinc 3 1, 3) := by decide +kernel
theorem dX7_inPane_32 : decode cX7_inPane 32 = .ok (.goto (-28), 3) := by decide +kernel
theorem dX7_inPane_35 : decode cX7_inPane 35 = .ok (.iload_n 2, 1) := by decide +kernel
theorem dX7_inPane_36 : decode cX7_inPane 36 = .ok (.ireturn, 1) := by decide +kernel
theorem dX7_puts_0 : decode cX7_puts 0 = .ok (.aload_n 0, 1) := by decide +kernel
theorem dX7_puts_1 : decode cX7_puts 1 = .ok (.getfield 7, 3) := by decide +kernel
theorem dX7_puts_4 : decode cX7_puts 4 = .ok (.iload_n 1, 1) := by decide +kernel
theorem dX7_puts_5 : decode cX7_puts 5 = .ok (.iconst 3, 1) := by decide +kernel
theorem dX7_puts_6 : decode cX7_puts 6 = .ok (.invokestatic 85, 3) := by decide +kernel
theorem dX7_puts_9 : decode cX7_puts 9 = .ok (.iconst 1, 1) := by decide +kernel
theorem dX7_puts_10 : decode cX7_puts 10 = .ok (.iastore, 1) := by decide +kernel
theorem dX7_puts_11 : decode cX7_puts 11 = .ok (.aload_n 0, 1) := by decide +kernel
theorem dX7_puts_12 : decode cX7_puts 12 = .ok (.getfield 7, 3) := by decide +kernel
theorem dX7_puts_15 : decode cX7_puts 15 = .ok (.iload_n 1, 1) := by decide +kernel
theorem dX7_puts_16 : decode cX7_puts 16 = .ok (.iconst 4, 1) := by decide +kernel
theorem dX7_puts_17 : decode cX7_puts 17 = .ok (.invokestatic 85, 3) := by decide +kernel
theorem dX7_puts_20 : decode cX7_puts 20 = .ok (.bipush 12, 2) := by decide +kernel
theorem dX7_puts_22 : decode cX7_puts 22 = .ok (.iload_n 2, 1) := by decide +kernel
theorem dX7_puts_23 : decode cX7_puts 23 = .ok (.imul, 1) := by decide +kernel
theorem dX7_puts_24 : decode cX7_puts 24 = .ok (.iload_n 3, 1) := by decide +kernel
theorem dX7_puts_25 : decode cX7_puts 25 = .ok (.iadd, 1) := by decide +kernel
theorem dX7_puts_26 : decode cX7_puts 26 = .ok (.iastore, 1) := by decide +kernel
theorem dX7_puts_27 : decode cX7_puts 27 = .ok (.return_, 1) := by decide +kernel
theorem dX7_pieceFor_0 : decode cX7_pieceFor 0 = .ok (.aload_n 0, 1) := by decide +kernel
theorem dX7_pieceFor_1 : decode cX7_pieceFor 1 = .ok (.iload_n 1, 1) := by decide +kernel
theorem dX7_pieceFor_2 : decode cX7_pieceFor 2 = .ok (.iload_n 2, 1) := by decide +kernel
theorem dX7_pieceFor_3 : decode cX7_pieceFor 3 = .ok (.iload_n 3, 1) := by decide +kernel
theorem dX7_pieceFor_4 : decode cX7_pieceFor 4 = .ok (.invokevirtual 91, 3) := by decide +kernel
theorem dX7_pieceFor_7 : decode cX7_pieceFor 7 = .ok (.istore 4, 2) := by decide +kernel
theorem dX7_pieceFor_9 : decode cX7_pieceFor 9 = .ok (.iload 4, 2) := by decide +kernel
theorem dX7_pieceFor_11 : decode cX7_pieceFor 11 = .ok (.bipush (-6), 2) := by decide +kernel
theorem dX7_pieceFor_13 : decode cX7_pieceFor 13 = .ok (.if_icmp .ne 62, 3) := by decide +kernel
theorem dX7_pieceFor_16 : decode cX7_pieceFor 16 = .ok (.aload_n 0, 1) := by decide +kernel
theorem dX7_pieceFor_17 : decode cX7_pieceFor 17 = .ok (.getfield 7, 3) := by decide +kernel
theorem dX7_pieceFor_20 : decode cX7_pieceFor 20 = .ok (.iconst 1, 1) := by decide +kernel
theorem dX7_pieceFor_21 : decode cX7_pieceFor 21 = .ok (.iaload, 1) := by decide +kernel
theorem dX7_pieceFor_22 : decode cX7_pieceFor 22 = .ok (.bipush 48, 2) := by decide +kernel
theorem dX7_pieceFor_24 : decode cX7_pieceFor 24 = .ok (.if_icmp .ge 51, 3) := by decide +kernel
theorem dX7_pieceFor_27 : decode cX7_pieceFor 27 = .ok (.aload_n 0, 1) := by decide +kernel
theorem dX7_pieceFor_28 : decode cX7_pieceFor 28 = .ok (.iload_n 1, 1) := by decide +kernel
theorem dX7_pieceFor_29 : decode cX7_pieceFor 29 = .ok (.iload_n 2, 1) := by decide +kernel
theorem dX7_pieceFor_30 : decode cX7_pieceFor 30 = .ok (.iload_n 3, 1) := by decide +kernel
theorem dX7_pieceFor_31 : decode cX7_pieceFor 31 = .ok (.invokevirtual 94, 3) := by decide +kernel
theorem dX7_pieceFor_34 : decode cX7_pieceFor 34 = .ok (.istore 5, 2) := by decide +kernel
theorem dX7_pieceFor_36 : decode cX7_pieceFor 36 = .ok (.iload 5, 2) := by decide +kernel
theorem dX7_pieceFor_38 : decode cX7_pieceFor 38 = .ok (.bipush (-6), 2) := by decide +kernel
theorem dX7_pieceFor_40 : decode cX7_pieceFor 40 = .ok (.if_icmp .ne 8, 3) := by decide +kernel
theorem dX7_pieceFor_43 : decode cX7_pieceFor 43 = .ok (.bipush (-6), 2) := by decide +kernel
theorem dX7_pieceFor_45 : decode cX7_pieceFor 45 = .ok (.goto 28, 3) := by decide +kernel
theorem dX7_pieceFor_48 : decode cX7_pieceFor 48 = .ok (.aload_n 0, 1) := by decide +kernel
theorem dX7_pieceFor_49 : decode cX7_pieceFor 49 = .ok (.iload 5, 2) := by decide +kernel
theorem dX7_pieceFor_51 : decode cX7_pieceFor 51 = .ok (.iload_n 2, 1) := by decide +kernel
theorem dX7_pieceFor_52 : decode cX7_pieceFor 52 = .ok (.aload_n 0, 1) := by decide +kernel
theorem dX7_pieceFor_53 : decode cX7_pieceFor 53 = .ok (.getfield 32, 3) := by decide +kernel
theorem dX7_pieceFor_56 : decode cX7_pieceFor 56 = .ok (.iconst 0, 1) := by decide +kernel
theorem dX7_pieceFor_57 : decode cX7_pieceFor 57 = .ok (.iaload, 1) := by decide +kernel
theorem dX7_pieceFor_58 : decode cX7_pieceFor 58 = .ok (.aload_n 0, 1) := by decide +kernel
theorem dX7_pieceFor_59 : decode cX7_pieceFor 59 = .ok (.getfield 32, 3) := by decide +kernel
theorem dX7_pieceFor_62 : decode cX7_pieceFor 62 = .ok (.iconst 1, 1) := by decide +kernel
theorem dX7_pieceFor_63 : decode cX7_pieceFor 63 = .ok (.iaload, 1) := by decide +kernel
theorem dX7_pieceFor_64 : decode cX7_pieceFor 64 = .ok (.aload_n 0, 1) := by decide +kernel
theorem dX7_pieceFor_65 : decode cX7_pieceFor 65 = .ok (.getfield 32, 3) := by decide +kernel
theorem dX7_pieceFor_68 : decode cX7_pieceFor 68 = .ok (.iconst 2, 1) := by decide +kernel
theorem dX7_pieceFor_69 : decode cX7_pieceFor 69 = .ok (.iaload, 1) := by decide +kernel
theorem dX7_pieceFor_70 : decode cX7_pieceFor 70 = .ok (.invokevirtual 97, 3) := by decide +kernel
theorem dX7_pieceFor_73 : decode cX7_pieceFor 73 = .ok (.istore 4, 2) := by decide +kernel
theorem dX7_pieceFor_75 : decode cX7_pieceFor 75 = .ok (.iload 4, 2) := by decide +kernel
theorem dX7_pieceFor_77 : decode cX7_pieceFor 77 = .ok (.ireturn, 1) := by decide +kernel
theorem dX7_letterOf_0 : decode cX7_letterOf 0 = .ok (.iload_n 0, 1) := by decide +kernel
theorem dX7_letterOf_1 : decode cX7_letterOf 1 = .ok (.tableswitch 101 101 117 #[93, 101, 101, 95, 83, 101, 101, 85, 101, 101, 87, 101, 101, 101, 98, 89, 91], 83) := by decide +kernel
theorem dX7_letterOf_84 : decode cX7_letterOf 84 = .ok (.iconst 0, 1) := by decide +kernel
theorem dX7_letterOf_85 : decode cX7_letterOf 85 = .ok (.ireturn, 1) := by decide +kernel
theorem dX7_letterOf_86 : decode cX7_letterOf 86 = .ok (.iconst 1, 1) := by decide +kernel
theorem dX7_letterOf_87 : decode cX7_letterOf 87 = .ok (.ireturn, 1) := by decide +kernel
theorem dX7_letterOf_88 : decode cX7_letterOf 88 = .ok (.iconst 2, 1) := by decide +kernel
theorem dX7_letterOf_89 : decode cX7_letterOf 89 = .ok (.ireturn, 1) := by decide +kernel
theorem dX7_letterOf_90 : decode cX7_letterOf 90 = .ok (.iconst 3, 1) := by decide +kernel
theorem dX7_letterOf_91 : decode cX7_letterOf 91 = .ok (.ireturn, 1) := by decide +kernel
theorem dX7_letterOf_92 : decode cX7_letterOf 92 = .ok (.iconst 4, 1) := by decide +kernel
theorem dX7_letterOf_93 : decode cX7_letterOf 93 = .ok (.ireturn, 1) := by decide +kernel
theorem dX7_letterOf_94 : decode cX7_letterOf 94 = .ok (.iconst 5, 1) := by decide +kernel
theorem dX7_letterOf_95 : decode cX7_letterOf 95 = .ok (.ireturn, 1) := by decide +kernel
theorem dX7_letterOf_96 : decode cX7_letterOf 96 = .ok (.bipush 6, 2) := by decide +kernel
theorem dX7_letterOf_98 : decode cX7_letterOf 98 = .ok (.ireturn, 1) := by decide +kernel
theorem dX7_letterOf_99 : decode cX7_letterOf 99 = .ok (.bipush 7, 2) := by decide +kernel
theorem dX7_letterOf_101 : decode cX7_letterOf 101 = .ok (.ireturn, 1) := by decide +kernel
theorem dX7_letterOf_102 : decode cX7_letterOf 102 = .ok (.bipush (-6), 2) := by decide +kernel
theorem dX7_letterOf_104 : decode cX7_letterOf 104 = .ok (.ireturn, 1) := by decide +kernel
theorem dX7_writes_0 : decode cX7_writes 0 = .ok (.iconst 0, 1) := by decide +kernel
theorem dX7_writes_1 : decode cX7_writes 1 = .ok (.istore 5, 2) := by decide +kernel
theorem dX7_writes_3 : decode cX7_writes 3 = .ok (.iload 5, 2) := by decide +kernel
theorem dX7_writes_5 : decode cX7_writes 5 = .ok (.aload_n 0, 1) := by decide +kernel
theorem dX7_writes_6 : decode cX7_writes 6 = .ok (.getfield 101, 3) := by decide +kernel
theorem dX7_writes_9 : decode cX7_writes 9 = .ok (.if_icmp .ge 110, 3) := by decide +kernel
theorem dX7_writes_12 : decode cX7_writes 12 = .ok (.aload_n 0, 1) := by decide +kernel
theorem dX7_writes_13 : decode cX7_writes 13 = .ok (.getfield 26, 3) := by decide +kernel
theorem dX7_writes_16 : decode cX7_writes 16 = .ok (.iload 4, 2) := by decide +kernel
theorem dX7_writes_18 : decode cX7_writes 18 = .ok (.iconst 1, 1) := by decide +kernel
theorem dX7_writes_19 : decode cX7_writes 19 = .ok (.if_icmp .ne 15, 3) := by decide +kernel
theorem dX7_writes_22 : decode cX7_writes 22 = .ok (.aload_n 0, 1) := by decide +kernel
theorem dX7_writes_23 : decode cX7_writes 23 = .ok (.getfield 101, 3) := by decide +kernel
theorem dX7_writes_26 : decode cX7_writes 26 = .ok (.iconst 1, 1) := by decide +kernel
theorem dX7_writes_27 : decode cX7_writes 27 = .ok (.isub, 1) := by decide +kernel
theorem dX7_writes_28 : decode cX7_writes 28 = .ok (.iload 5, 2) := by decide +kernel
theorem dX7_writes_30 : decode cX7_writes 30 = .ok (.isub, 1) := by decide +kernel
theorem dX7_writes_31 : decode cX7_writes 31 = .ok (.goto 5, 3) := by decide +kernel
theorem dX7_writes_34 : decode cX7_writes 34 = .ok (.iload 5, 2) := by decide +kernel
theorem dX7_writes_36 : decode cX7_writes 36 = .ok (.iaload, 1) := by decide +kernel
theorem dX7_writes_37 : decode cX7_writes 37 = .ok (.invokestatic 105, 3) := by decide +kernel
theorem dX7_writes_40 : decode cX7_writes 40 = .ok (.istore 6, 2) := by decide +kernel
theorem dX7_writes_42 : decode cX7_writes 42 = .ok (.iload_n 2, 1) := by decide +kernel
theorem dX7_writes_43 : decode cX7_writes 43 = .ok (.iload 5, 2) := by decide +kernel
theorem dX7_writes_45 : decode cX7_writes 45 = .ok (.iadd, 1) := by decide +kernel
theorem dX7_writes_46 : decode cX7_writes 46 = .ok (.bipush 12, 2) := by decide +kernel
theorem dX7_writes_48 : decode cX7_writes 48 = .ok (.if_icmp .ge 21, 3) := by decide +kernel
theorem dX7_writes_51 : decode cX7_writes 51 = .ok (.aload_n 0, 1) := by decide +kernel
theorem dX7_writes_52 : decode cX7_writes 52 = .ok (.iload_n 1, 1) := by decide +kernel
theorem dX7_writes_53 : decode cX7_writes 53 = .ok (.iload_n 2, 1) := by decide +kernel
theorem dX7_writes_54 : decode cX7_writes 54 = .ok (.iload 5, 2) := by decide +kernel
theorem dX7_writes_56 : decode cX7_writes 56 = .ok (.iadd, 1) := by decide +kernel
theorem dX7_writes_57 : decode cX7_writes 57 = .ok (.invokevirtual 88, 3) := by decide +kernel
theorem dX7_writes_60 : decode cX7_writes 60 = .ok (.bipush (-6), 2) := by decide +kernel
theorem dX7_writes_62 : decode cX7_writes 62 = .ok (.if_icmp .ne 7, 3) := by decide +kernel
theorem dX7_writes_65 : decode cX7_writes 65 = .ok (.iconst 1, 1) := by decide +kernel
theorem dX7_writes_66 : decode cX7_writes 66 = .ok (.goto 4, 3) := by decide +kernel
theorem dX7_writes_69 : decode cX7_writes 69 = .ok (.iconst 0, 1) := by decide +kernel
theorem dX7_writes_70 : decode cX7_writes 70 = .ok (.istore 7, 2) := by decide +kernel
theorem dX7_writes_72 : decode cX7_writes 72 = .ok (.iload 7, 2) := by decide +kernel
theorem dX7_writes_74 : decode cX7_writes 74 = .ok (.ifCond .eq 15, 3) := by decide +kernel
theorem dX7_writes_77 : decode cX7_writes 77 = .ok (.aload_n 0, 1) := by decide +kernel
theorem dX7_writes_78 : decode cX7_writes 78 = .ok (.iload_n 3, 1) := by decide +kernel
theorem dX7_writes_79 : decode cX7_writes 79 = .ok (.iload 6, 2) := by decide +kernel
theorem dX7_writes_81 : decode cX7_writes 81 = .ok (.iload 4, 2) := by decide +kernel
theorem dX7_writes_83 : decode cX7_writes 83 = .ok (.invokevirtual 108, 3) := by decide +kernel
theorem dX7_writes_86 : decode cX7_writes 86 = .ok (.goto 5, 3) := by decide +kernel
theorem dX7_writes_89 : decode cX7_writes 89 = .ok (.bipush (-6), 2) := by decide +kernel
theorem dX7_writes_91 : decode cX7_writes 91 = .ok (.istore 8, 2) := by decide +kernel
theorem dX7_writes_93 : decode cX7_writes 93 = .ok (.iload 8, 2) := by decide +kernel
theorem dX7_writes_95 : decode cX7_writes 95 = .ok (.bipush (-6), 2) := by decide +kernel
theorem dX7_writes_97 : decode cX7_writes 97 = .ok (.if_icmp .ne 5, 3) := by decide +kernel
theorem dX7_writes_100 : decode cX7_writes 100 = .ok (.iconst 0, 1) := by decide +kernel
theorem dX7_writes_101 : decode cX7_writes 101 = .ok (.ireturn, 1) := by decide +kernel
theorem dX7_writes_102 : decode cX7_writes 102 = .ok (.aload_n 0, 1) := by decide +kernel
theorem dX7_writes_103 : decode cX7_writes 103 = .ok (.iload 8, 2) := by decide +kernel
theorem dX7_writes_105 : decode cX7_writes 105 = .ok (.iload_n 1, 1) := by decide +kernel
theorem dX7_writes_106 : decode cX7_writes 106 = .ok (.iload_n 2, 1) := by decide +kernel
theorem dX7_writes_107 : decode cX7_writes 107 = .ok (.iload 5, 2) := by decide +kernel
theorem dX7_writes_109 : decode cX7_writes 109 = .ok (.iadd, 1) := by decide +kernel
theorem dX7_writes_110 : decode cX7_writes 110 = .ok (.invokevirtual 111, 3) := by decide +kernel
theorem dX7_writes_113 : decode cX7_writes 113 = .ok (.iinc 5 1, 3) := by decide +kernel
theorem dX7_writes_116 : decode cX7_writes 116 = .ok (.goto (-113), 3) := by decide +kernel
theorem dX7_writes_119 : decode cX7_writes 119 = .ok (.iconst 1, 1) := by decide +kernel
theorem dX7_writes_120 : decode cX7_writes 120 = .ok (.ireturn, 1) := by decide +kernel
theorem dX7_record_0 : decode cX7_record 0 = .ok (.aload_n 0, 1) := by decide +kernel
theorem dX7_record_1 : decode cX7_record 1 = .ok (.getfield 115, 3) := by decide +kernel
theorem dX7_record_4 : decode cX7_record 4 = .ok (.bipush 6, 2) := by decide +kernel
theorem dX7_record_6 : decode cX7_record 6 = .ok (.if_icmp .ne 44, 3) := by decide +kernel
theorem dX7_record_9 : decode cX7_record 9 = .ok (.iconst 0, 1) := by decide +kernel
theorem dX7_record_10 : decode cX7_record 10 = .ok (.istore_n 1, 1) := by decide +kernel
theorem dX7_record_11 : decode cX7_record 11 = .ok (.iload_n 1, 1) := by decide +kernel
theorem dX7_record_12 : decode cX7_record 12 = .ok (.sipush 2265, 3) := by decide +kernel
theorem dX7_record_15 : decode cX7_record 15 = .ok (.if_icmp .ge 25, 3) := by decide +kernel
theorem dX7_record_18 : decode cX7_record 18 = .ok (.aload_n 0, 1) := by decide +kernel
theorem dX7_record_19 : decode cX7_record 19 = .ok (.getfield 16, 3) := by decide +kernel
theorem dX7_record_22 : decode cX7_record 22 = .ok (.iload_n 1, 1) := by decide +kernel
theorem dX7_record_23 : decode cX7_record 23 = .ok (.aload_n 0, 1) := by decide +kernel
theorem dX7_record_24 : decode cX7_record 24 = .ok (.getfield 16, 3) := by decide +kernel
theorem dX7_record_27 : decode cX7_record 27 = .ok (.iload_n 1, 1) := by decide +kernel
theorem dX7_record_28 : decode cX7_record 28 = .ok (.sipush 453, 3) := by decide +kernel
theorem dX7_record_31 : decode cX7_record 31 = .ok (.iadd, 1) := by decide +kernel
theorem dX7_record_32 : decode cX7_record 32 = .ok (.iaload, 1) := by decide +kernel
theorem dX7_record_33 : decode cX7_record 33 = .ok (.iastore, 1) := by decide +kernel
theorem dX7_record_34 : decode cX7_record 34 = .ok (.iinc 1 1, 3) := by decide +kernel
theorem dX7_record_37 : decode cX7_record 37 = .ok (.goto (-26), 3) := by decide +kernel
theorem dX7_record_40 : decode cX7_record 40 = .ok (.aload_n 0, 1) := by decide +kernel
theorem dX7_record_41 : decode cX7_record 41 = .ok (.dup, 1) := by decide +kernel
theorem dX7_record_42 : decode cX7_record 42 = .ok (.getfield 115, 3) := by decide +kernel
theorem dX7_record_45 : decode cX7_record 45 = .ok (.iconst 1, 1) := by decide +kernel
theorem dX7_record_46 : decode cX7_record 46 = .ok (.isub, 1) := by decide +kernel
theorem dX7_record_47 : decode cX7_record 47 = .ok (.putfield 115, 3) := by decide +kernel
theorem dX7_record_50 : decode cX7_record 50 = .ok (.iconst 0, 1) := by decide +kernel
theorem dX7_record_51 : decode cX7_record 51 = .ok (.istore_n 1, 1) := by decide +kernel
theorem dX7_record_52 : decode cX7_record 52 = .ok (.iload_n 1, 1) := by decide +kernel
theorem dX7_record_53 : decode cX7_record 53 = .ok (.sipush 453, 3) := by decide +kernel
theorem dX7_record_56 : decode cX7_record 56 = .ok (.if_icmp .ge 30, 3) := by decide +kernel
theorem dX7_record_59 : decode cX7_record 59 = .ok (.aload_n 0, 1) := by decide +kernel
theorem dX7_record_60 : decode cX7_record 60 = .ok (.getfield 16, 3) := by decide +kernel
theorem dX7_record_63 : decode cX7_record 63 = .ok (.sipush 453, 3) := by decide +kernel
theorem dX7_record_66 : decode cX7_record 66 = .ok (.aload_n 0, 1) := by decide +kernel
theorem dX7_record_67 : decode cX7_record 67 = .ok (.getfield 115, 3) := by decide +kernel
theorem dX7_record_70 : decode cX7_record 70 = .ok (.imul, 1) := by decide +kernel
theorem dX7_record_71 : decode cX7_record 71 = .ok (.iload_n 1, 1) := by decide +kernel
theorem dX7_record_72 : decode cX7_record 72 = .ok (.iadd, 1) := by decide +kernel
theorem dX7_record_73 : decode cX7_record 73 = .ok (.aload_n 0, 1) := by decide +kernel
theorem dX7_record_74 : decode cX7_record 74 = .ok (.getfield 7, 3) := by decide +kernel
theorem dX7_record_77 : decode cX7_record 77 = .ok (.iload_n 1, 1) := by decide +kernel
theorem dX7_record_78 : decode cX7_record 78 = .ok (.iaload, 1) := by decide +kernel
theorem dX7_record_79 : decode cX7_record 79 = .ok (.iastore, 1) := by decide +kernel
theorem dX7_record_80 : decode cX7_record 80 = .ok (.iinc 1 1, 3) := by decide +kernel
theorem dX7_record_83 : decode cX7_record 83 = .ok (.goto (-31), 3) := by decide +kernel
theorem dX7_record_86 : decode cX7_record 86 = .ok (.aload_n 0, 1) := by decide +kernel
theorem dX7_record_87 : decode cX7_record 87 = .ok (.dup, 1) := by decide +kernel
theorem dX7_record_88 : decode cX7_record 88 = .ok (.getfield 115, 3) := by decide +kernel
theorem dX7_record_91 : decode cX7_record 91 = .ok (.iconst 1, 1) := by decide +kernel
theorem dX7_record_92 : decode cX7_record 92 = .ok (.iadd, 1) := by decide +kernel
theorem dX7_record_93 : decode cX7_record 93 = .ok (.putfield 115, 3) := by decide +kernel
theorem dX7_record_96 : decode cX7_record 96 = .ok (.return_, 1) := by decide +kernel
theorem dX7_putAside_0 : decode cX7_putAside 0 = .ok (.iconst 0, 1) := by decide +kernel
theorem dX7_putAside_1 : decode cX7_putAside 1 = .ok (.istore_n 1, 1) := by decide +kernel
theorem dX7_putAside_2 : decode cX7_putAside 2 = .ok (.iload_n 1, 1) := by decide +kernel
theorem dX7_putAside_3 : decode cX7_putAside 3 = .ok (.sipush 453, 3) := by decide +kernel
theorem dX7_putAside_6 : decode cX7_putAside 6 = .ok (.if_icmp .ge 21, 3) := by decide +kernel
theorem dX7_putAside_9 : decode cX7_putAside 9 = .ok (.aload_n 0, 1) := by decide +kernel
theorem dX7_putAside_10 : decode cX7_putAside 10 = .ok (.getfield 13, 3) := by decide +kernel
theorem dX7_putAside_13 : decode cX7_putAside 13 = .ok (.iload_n 1, 1) := by decide +kernel
theorem dX7_putAside_14 : decode cX7_putAside 14 = .ok (.aload_n 0, 1) := by decide +kernel
theorem dX7_putAside_15 : decode cX7_putAside 15 = .ok (.getfield 7, 3) := by decide +kernel
theorem dX7_putAside_18 : decode cX7_putAside 18 = .ok (.iload_n 1, 1) := by decide +kernel
theorem dX7_putAside_19 : decode cX7_putAside 19 = .ok (.iaload, 1) := by decide +kernel
theorem dX7_putAside_20 : decode cX7_putAside 20 = .ok (.iastore, 1) := by decide +kernel
theorem dX7_putAside_21 : decode cX7_putAside 21 = .ok (.iinc 1 1, 3) := by decide +kernel
theorem dX7_putAside_24 : decode cX7_putAside 24 = .ok (.goto (-22), 3) := by decide +kernel
theorem dX7_putAside_27 : decode cX7_putAside 27 = .ok (.return_, 1) := by decide +kernel
theorem dX7_putBack_0 : decode cX7_putBack 0 = .ok (.iconst 0, 1) := by decide +kernel
theorem dX7_putBack_1 : decode cX7_putBack 1 = .ok (.istore_n 1, 1) := by decide +kernel
theorem dX7_putBack_2 : decode cX7_putBack 2 = .ok (.iload_n 1, 1) := by decide +kernel
theorem dX7_putBack_3 : decode cX7_putBack 3 = .ok (.sipush 453, 3) := by decide +kernel
theorem dX7_putBack_6 : decode cX7_putBack 6 = .ok (.if_icmp .ge 21, 3) := by decide +kernel
theorem dX7_putBack_9 : decode cX7_putBack 9 = .ok (.aload_n 0, 1) := by decide +kernel
theorem dX7_putBack_10 : decode cX7_putBack 10 = .ok (.getfield 7, 3) := by decide +kernel
theorem dX7_putBack_13 : decode cX7_putBack 13 = .ok (.iload_n 1, 1) := by decide +kernel
theorem dX7_putBack_14 : decode cX7_putBack 14 = .ok (.aload_n 0, 1) := by decide +kernel
theorem dX7_putBack_15 : decode cX7_putBack 15 = .ok (.getfield 13, 3) := by decide +kernel
theorem dX7_putBack_18 : decode cX7_putBack 18 = .ok (.iload_n 1, 1) := by decide +kernel
theorem dX7_putBack_19 : decode cX7_putBack 19 = .ok (.iaload, 1) := by decide +kernel
theorem dX7_putBack_20 : decode cX7_putBack 20 = .ok (.iastore, 1) := by decide +kernel
theorem dX7_putBack_21 : decode cX7_putBack 21 = .ok (.iinc 1 1, 3) := by decide +kernel
theorem dX7_putBack_24 : decode cX7_putBack 24 = .ok (.goto (-22), 3) := by decide +kernel
theorem dX7_putBack_27 : decode cX7_putBack 27 = .ok (.return_, 1) := by decide +kernel
theorem dX7_isColour_0 : decode cX7_isColour 0 = .ok (.iload_n 0, 1) := by decide +kernel
theorem dX7_isColour_1 : decode cX7_isColour 1 = .ok (.iconst 1, 1) := by decide +kernel
theorem dX7_isColour_2 : decode cX7_isColour 2 = .ok (.iconst 4, 1) := by decide +kernel
theorem dX7_isColour_3 : decode cX7_isColour 3 = .ok (.invokestatic 66, 3) := by decide +kernel
theorem dX7_isColour_6 : decode cX7_isColour 6 = .ok (.ireturn, 1) := by decide +kernel
theorem dX7_sheet_0 : decode cX7_sheet 0 = .ok (.iload_n 1, 1) := by decide +kernel
theorem dX7_sheet_1 : decode cX7_sheet 1 = .ok (.invokestatic 118, 3) := by decide +kernel
theorem dX7_sheet_4 : decode cX7_sheet 4 = .ok (.ifCond .ne 6, 3) := by decide +kernel
theorem dX7_sheet_7 : decode cX7_sheet 7 = .ok (.bipush (-2), 2) := by decide +kernel
theorem dX7_sheet_9 : decode cX7_sheet 9 = .ok (.ireturn, 1) := by decide +kernel
theorem dX7_sheet_10 : decode cX7_sheet 10 = .ok (.aload_n 0, 1) := by decide +kernel
theorem dX7_sheet_11 : decode cX7_sheet 11 = .ok (.getfield 7, 3) := by decide +kernel
theorem dX7_sheet_14 : decode cX7_sheet 14 = .ok (.iconst 0, 1) := by decide +kernel
theorem dX7_sheet_15 : decode cX7_sheet 15 = .ok (.iaload, 1) := by decide +kernel
theorem dX7_sheet_16 : decode cX7_sheet 16 = .ok (.bipush 6, 2) := by decide +kernel
theorem dX7_sheet_18 : decode cX7_sheet 18 = .ok (.if_icmp .ne 6, 3) := by decide +kernel
theorem dX7_sheet_21 : decode cX7_sheet 21 = .ok (.bipush (-4), 2) := by decide +kernel
theorem dX7_sheet_23 : decode cX7_sheet 23 = .ok (.ireturn, 1) := by decide +kernel
theorem dX7_sheet_24 : decode cX7_sheet 24 = .ok (.aload_n 0, 1) := by decide +kernel
theorem dX7_sheet_25 : decode cX7_sheet 25 = .ok (.invokevirtual 122, 3) := by decide +kernel
theorem dX7_sheet_28 : decode cX7_sheet 28 = .ok (.aload_n 0, 1) := by decide +kernel
theorem dX7_sheet_29 : decode cX7_sheet 29 = .ok (.getfield 7, 3) := by decide +kernel
theorem dX7_sheet_32 : decode cX7_sheet 32 = .ok (.iconst 0, 1) := by decide +kernel
theorem dX7_sheet_33 : decode cX7_sheet 33 = .ok (.iaload, 1) := by decide +kernel
theorem dX7_sheet_34 : decode cX7_sheet 34 = .ok (.istore_n 2, 1) := by decide +kernel
theorem dX7_sheet_35 : decode cX7_sheet 35 = .ok (.aload_n 0, 1) := by decide +kernel
theorem dX7_sheet_36 : decode cX7_sheet 36 = .ok (.getfield 7, 3) := by decide +kernel
theorem dX7_sheet_39 : decode cX7_sheet 39 = .ok (.iconst 0, 1) := by decide +kernel
theorem dX7_sheet_40 : decode cX7_sheet 40 = .ok (.dup2, 1) := by decide +kernel
theorem dX7_sheet_41 : decode cX7_sheet 41 = .ok (.iaload, 1) := by decide +kernel
theorem dX7_sheet_42 : decode cX7_sheet 42 = .ok (.iconst 1, 1) := by decide +kernel
theorem dX7_sheet_43 : decode cX7_sheet 43 = .ok (.iadd, 1) := by decide +kernel
theorem dX7_sheet_44 : decode cX7_sheet 44 = .ok (.iastore, 1) := by decide +kernel
theorem dX7_sheet_45 : decode cX7_sheet 45 = .ok (.iconst 0, 1) := by decide +kernel
theorem dX7_sheet_46 : decode cX7_sheet 46 = .ok (.istore_n 3, 1) := by decide +kernel
theorem dX7_sheet_47 : decode cX7_sheet 47 = .ok (.iload_n 3, 1) := by decide +kernel
theorem dX7_sheet_48 : decode cX7_sheet 48 = .ok (.bipush 11, 2) := by decide +kernel
theorem dX7_sheet_50 : decode cX7_sheet 50 = .ok (.if_icmp .ge 20, 3) := by decide +kernel
theorem dX7_sheet_53 : decode cX7_sheet 53 = .ok (.aload_n 0, 1) := by decide +kernel
theorem dX7_sheet_54 : decode cX7_sheet 54 = .ok (.getfield 7, 3) := by decide +kernel
theorem dX7_sheet_57 : decode cX7_sheet 57 = .ok (.iload_n 2, 1) := by decide +kernel
theorem dX7_sheet_58 : decode cX7_sheet 58 = .ok (.iload_n 3, 1) := by decide +kernel
theorem dX7_sheet_59 : decode cX7_sheet 59 = .ok (.invokestatic 70, 3) := by decide +kernel
theorem dX7_sheet_62 : decode cX7_sheet 62 = .ok (.iconst 0, 1) := by decide +kernel
theorem dX7_sheet_63 : decode cX7_sheet 63 = .ok (.iastore, 1) := by decide +kernel
theorem dX7_sheet_64 : decode cX7_sheet 64 = .ok (.iinc 3 1, 3) := by decide +kernel
theorem dX7_sheet_67 : decode cX7_sheet 67 = .ok (.goto (-20), 3) := by decide +kernel
theorem dX7_sheet_70 : decode cX7_sheet 70 = .ok (.aload_n 0, 1) := by decide +kernel
theorem dX7_sheet_71 : decode cX7_sheet 71 = .ok (.getfield 7, 3) := by decide +kernel
theorem dX7_sheet_74 : decode cX7_sheet 74 = .ok (.iload_n 2, 1) := by decide +kernel
theorem dX7_sheet_75 : decode cX7_sheet 75 = .ok (.iconst 0, 1) := by decide +kernel
theorem dX7_sheet_76 : decode cX7_sheet 76 = .ok (.invokestatic 70, 3) := by decide +kernel
theorem dX7_sheet_79 : decode cX7_sheet 79 = .ok (.iload_n 1, 1) := by decide +kernel
theorem dX7_sheet_80 : decode cX7_sheet 80 = .ok (.iastore, 1) := by decide +kernel
theorem dX7_sheet_81 : decode cX7_sheet 81 = .ok (.iload_n 2, 1) := by decide +kernel
theorem dX7_sheet_82 : decode cX7_sheet 82 = .ok (.ireturn, 1) := by decide +kernel
theorem dX7_cut_0 : decode cX7_cut 0 = .ok (.aload_n 0, 1) := by decide +kernel
theorem dX7_cut_1 : decode cX7_cut 1 = .ok (.iload_n 1, 1) := by decide +kernel
theorem dX7_cut_2 : decode cX7_cut 2 = .ok (.invokevirtual 125, 3) := by decide +kernel
theorem dX7_cut_5 : decode cX7_cut 5 = .ok (.ifCond .eq 10, 3) := by decide +kernel
theorem dX7_cut_8 : decode cX7_cut 8 = .ok (.iload_n 2, 1) := by decide +kernel
theorem dX7_cut_9 : decode cX7_cut 9 = .ok (.invokestatic 128, 3) := by decide +kernel
theorem dX7_cut_12 : decode cX7_cut 12 = .ok (.ifCond .ne 5, 3) := by decide +kernel
theorem dX7_cut_15 : decode cX7_cut 15 = .ok (.iconst (-1), 1) := by decide +kernel
theorem dX7_cut_16 : decode cX7_cut 16 = .ok (.ireturn, 1) := by decide +kernel
theorem dX7_cut_17 : decode cX7_cut 17 = .ok (.iload_n 3, 1) := by decide +kernel
theorem dX7_cut_18 : decode cX7_cut 18 = .ok (.iconst 0, 1) := by decide +kernel
theorem dX7_cut_19 : decode cX7_cut 19 = .ok (.bipush 7, 2) := by decide +kernel
theorem dX7_cut_21 : decode cX7_cut 21 = .ok (.invokestatic 66, 3) := by decide +kernel
theorem dX7_cut_24 : decode cX7_cut 24 = .ok (.ifCond .ne 6, 3) := by decide +kernel
theorem dX7_cut_27 : decode cX7_cut 27 = .ok (.bipush (-2), 2) := by decide +kernel
theorem dX7_cut_29 : decode cX7_cut 29 = .ok (.ireturn, 1) := by decide +kernel
theorem dX7_cut_30 : decode cX7_cut 30 = .ok (.aload_n 0, 1) := by decide +kernel
theorem dX7_cut_31 : decode cX7_cut 31 = .ok (.iload_n 1, 1) := by decide +kernel
theorem dX7_cut_32 : decode cX7_cut 32 = .ok (.iload_n 2, 1) := by decide +kernel
theorem dX7_cut_33 : decode cX7_cut 33 = .ok (.iload_n 3, 1) := by decide +kernel
theorem dX7_cut_34 : decode cX7_cut 34 = .ok (.iload 4, 2) := by decide +kernel
theorem dX7_cut_36 : decode cX7_cut 36 = .ok (.iload 5, 2) := by decide +kernel
theorem dX7_cut_38 : decode cX7_cut 38 = .ok (.invokevirtual 74, 3) := by decide +kernel
theorem dX7_cut_41 : decode cX7_cut 41 = .ok (.ifCond .ne 6, 3) := by decide +kernel
theorem dX7_cut_44 : decode cX7_cut 44 = .ok (.bipush (-5), 2) := by decide +kernel
theorem dX7_cut_46 : decode cX7_cut 46 = .ok (.ireturn, 1) := by decide +kernel
theorem dX7_cut_47 : decode cX7_cut 47 = .ok (.aload_n 0, 1) := by decide +kernel
theorem dX7_cut_48 : decode cX7_cut 48 = .ok (.getfield 7, 3) := by decide +kernel
theorem dX7_cut_51 : decode cX7_cut 51 = .ok (.iconst 1, 1) := by decide +kernel
theorem dX7_cut_52 : decode cX7_cut 52 = .ok (.iaload, 1) := by decide +kernel
theorem dX7_cut_53 : decode cX7_cut 53 = .ok (.bipush 48, 2) := by decide +kernel
theorem dX7_cut_55 : decode cX7_cut 55 = .ok (.if_icmp .ne 6, 3) := by decide +kernel
theorem dX7_cut_58 : decode cX7_cut 58 = .ok (.bipush (-4), 2) := by decide +kernel
theorem dX7_cut_60 : decode cX7_cut 60 = .ok (.ireturn, 1) := by decide +kernel
theorem dX7_cut_61 : decode cX7_cut 61 = .ok (.aload_n 0, 1) := by decide +kernel
theorem dX7_cut_62 : decode cX7_cut 62 = .ok (.invokevirtual 122, 3) := by decide +kernel
theorem dX7_cut_65 : decode cX7_cut 65 = .ok (.aload_n 0, 1) := by decide +kernel
theorem dX7_cut_66 : decode cX7_cut 66 = .ok (.iload_n 1, 1) := by decide +kernel
theorem dX7_cut_67 : decode cX7_cut 67 = .ok (.iload_n 2, 1) := by decide +kernel
theorem dX7_cut_68 : decode cX7_cut 68 = .ok (.iload_n 3, 1) := by decide +kernel
theorem dX7_cut_69 : decode cX7_cut 69 = .ok (.iload 4, 2) := by decide +kernel
theorem dX7_cut_71 : decode cX7_cut 71 = .ok (.iload 5, 2) := by decide +kernel
theorem dX7_cut_73 : decode cX7_cut 73 = .ok (.invokevirtual 97, 3) := by decide +kernel
theorem dX7_cut_76 : decode cX7_cut 76 = .ok (.ireturn, 1) := by decide +kernel
theorem dX7_make_0 : decode cX7_make 0 = .ok (.iload_n 2, 1) := by decide +kernel
theorem dX7_make_1 : decode cX7_make 1 = .ok (.invokestatic 128, 3) := by decide +kernel
theorem dX7_make_4 : decode cX7_make 4 = .ok (.ifCond .ne 5, 3) := by decide +kernel
theorem dX7_make_7 : decode cX7_make 7 = .ok (.iconst (-1), 1) := by decide +kernel
theorem dX7_make_8 : decode cX7_make 8 = .ok (.ireturn, 1) := by decide +kernel
theorem dX7_make_9 : decode cX7_make 9 = .ok (.iload_n 1, 1) := by decide +kernel
theorem dX7_make_10 : decode cX7_make 10 = .ok (.invokestatic 118, 3) := by decide +kernel
theorem dX7_make_13 : decode cX7_make 13 = .ok (.ifCond .eq 12, 3) := by decide +kernel
theorem dX7_make_16 : decode cX7_make 16 = .ok (.iload_n 3, 1) := by decide +kernel
theorem dX7_make_17 : decode cX7_make 17 = .ok (.iconst 0, 1) := by decide +kernel
theorem dX7_make_18 : decode cX7_make 18 = .ok (.iconst 1, 1) := by decide +kernel
theorem dX7_make_19 : decode cX7_make 19 = .ok (.invokestatic 66, 3) := by decide +kernel
theorem dX7_make_22 : decode cX7_make 22 = .ok (.ifCond .ne 6, 3) := by decide +kernel
theorem dX7_make_25 : decode cX7_make 25 = .ok (.bipush (-2), 2) := by decide +kernel
theorem dX7_make_27 : decode cX7_make 27 = .ok (.ireturn, 1) := by decide +kernel
theorem dX7_make_28 : decode cX7_make 28 = .ok (.aload_n 0, 1) := by decide +kernel
theorem dX7_make_29 : decode cX7_make 29 = .ok (.iload_n 1, 1) := by decide +kernel
theorem dX7_make_30 : decode cX7_make 30 = .ok (.iload_n 2, 1) := by decide +kernel
theorem dX7_make_31 : decode cX7_make 31 = .ok (.iload_n 3, 1) := by decide +kernel
theorem dX7_make_32 : decode cX7_make 32 = .ok (.invokevirtual 94, 3) := by decide +kernel
theorem dX7_make_35 : decode cX7_make 35 = .ok (.istore 4, 2) := by decide +kernel
theorem dX7_make_37 : decode cX7_make 37 = .ok (.iload 4, 2) := by decide +kernel
theorem dX7_make_39 : decode cX7_make 39 = .ok (.bipush (-6), 2) := by decide +kernel
theorem dX7_make_41 : decode cX7_make 41 = .ok (.if_icmp .ne 6, 3) := by decide +kernel
theorem dX7_make_44 : decode cX7_make 44 = .ok (.bipush (-5), 2) := by decide +kernel
theorem dX7_make_46 : decode cX7_make 46 = .ok (.ireturn, 1) := by decide +kernel
theorem dX7_make_47 : decode cX7_make 47 = .ok (.aload_n 0, 1) := by decide +kernel
theorem dX7_make_48 : decode cX7_make 48 = .ok (.getfield 7, 3) := by decide +kernel
theorem dX7_make_51 : decode cX7_make 51 = .ok (.iconst 1, 1) := by decide +kernel
theorem dX7_make_52 : decode cX7_make 52 = .ok (.iaload, 1) := by decide +kernel
theorem dX7_make_53 : decode cX7_make 53 = .ok (.bipush 48, 2) := by decide +kernel
theorem dX7_make_55 : decode cX7_make 55 = .ok (.if_icmp .ne 6, 3) := by decide +kernel
theorem dX7_make_58 : decode cX7_make 58 = .ok (.bipush (-4), 2) := by decide +kernel
theorem dX7_make_60 : decode cX7_make 60 = .ok (.ireturn, 1) := by decide +kernel
theorem dX7_make_61 : decode cX7_make 61 = .ok (.aload_n 0, 1) := by decide +kernel
theorem dX7_make_62 : decode cX7_make 62 = .ok (.invokevirtual 122, 3) := by decide +kernel
theorem dX7_make_65 : decode cX7_make 65 = .ok (.aload_n 0, 1) := by decide +kernel
theorem dX7_make_66 : decode cX7_make 66 = .ok (.iload 4, 2) := by decide +kernel
theorem dX7_make_68 : decode cX7_make 68 = .ok (.iload_n 2, 1) := by decide +kernel
theorem dX7_make_69 : decode cX7_make 69 = .ok (.aload_n 0, 1) := by decide +kernel
theorem dX7_make_70 : decode cX7_make 70 = .ok (.getfield 32, 3) := by decide +kernel
theorem dX7_make_73 : decode cX7_make 73 = .ok (.iconst 0, 1) := by decide +kernel
theorem dX7_make_74 : decode cX7_make 74 = .ok (.iaload, 1) := by decide +kernel
theorem dX7_make_75 : decode cX7_make 75 = .ok (.aload_n 0, 1) := by decide +kernel
theorem dX7_make_76 : decode cX7_make 76 = .ok (.getfield 32, 3) := by decide +kernel
theorem dX7_make_79 : decode cX7_make 79 = .ok (.iconst 1, 1) := by decide +kernel
theorem dX7_make_80 : decode cX7_make 80 = .ok (.iaload, 1) := by decide +kernel
theorem dX7_make_81 : decode cX7_make 81 = .ok (.aload_n 0, 1) := by decide +kernel
theorem dX7_make_82 : decode cX7_make 82 = .ok (.getfield 32, 3) := by decide +kernel
theorem dX7_make_85 : decode cX7_make 85 = .ok (.iconst 2, 1) := by decide +kernel
theorem dX7_make_86 : decode cX7_make 86 = .ok (.iaload, 1) := by decide +kernel
theorem dX7_make_87 : decode cX7_make 87 = .ok (.invokevirtual 97, 3) := by decide +kernel
theorem dX7_make_90 : decode cX7_make 90 = .ok (.ireturn, 1) := by decide +kernel
theorem dX7_canBeWritten_0 : decode cX7_canBeWritten 0 = .ok (.aload_n 0, 1) := by decide +kernel
theorem dX7_canBeWritten_1 : decode cX7_canBeWritten 1 = .ok (.invokevirtual 131, 3) := by decide +kernel
theorem dX7_canBeWritten_4 : decode cX7_canBeWritten 4 = .ok (.aload_n 0, 1) := by decide +kernel
theorem dX7_canBeWritten_5 : decode cX7_canBeWritten 5 = .ok (.iload_n 1, 1) := by decide +kernel
theorem dX7_canBeWritten_6 : decode cX7_canBeWritten 6 = .ok (.iload_n 2, 1) := by decide +kernel
theorem dX7_canBeWritten_7 : decode cX7_canBeWritten 7 = .ok (.iload_n 3, 1) := by decide +kernel
theorem dX7_canBeWritten_8 : decode cX7_canBeWritten 8 = .ok (.iload 4, 2) := by decide +kernel
theorem dX7_canBeWritten_10 : decode cX7_canBeWritten 10 = .ok (.invokevirtual 134, 3) := by decide +kernel
theorem dX7_canBeWritten_13 : decode cX7_canBeWritten 13 = .ok (.istore 5, 2) := by decide +kernel
theorem dX7_canBeWritten_15 : decode cX7_canBeWritten 15 = .ok (.aload_n 0, 1) := by decide +kernel
theorem dX7_canBeWritten_16 : decode cX7_canBeWritten 16 = .ok (.invokevirtual 138, 3) := by decide +kernel
theorem dX7_canBeWritten_19 : decode cX7_canBeWritten 19 = .ok (.iload 5, 2) := by decide +kernel
theorem dX7_canBeWritten_21 : decode cX7_canBeWritten 21 = .ok (.ireturn, 1) := by decide +kernel
theorem dX7_write_0 : decode cX7_write 0 = .ok (.iload_n 1, 1) := by decide +kernel
theorem dX7_write_1 : decode cX7_write 1 = .ok (.iload_n 2, 1) := by decide +kernel
theorem dX7_write_2 : decode cX7_write 2 = .ok (.invokestatic 141, 3) := by decide +kernel
theorem dX7_write_5 : decode cX7_write 5 = .ok (.ifCond .ne 5, 3) := by decide +kernel
theorem dX7_write_8 : decode cX7_write 8 = .ok (.iconst (-1), 1) := by decide +kernel
theorem dX7_write_9 : decode cX7_write 9 = .ok (.ireturn, 1) := by decide +kernel
theorem dX7_write_10 : decode cX7_write 10 = .ok (.aload_n 0, 1) := by decide +kernel
theorem dX7_write_11 : decode cX7_write 11 = .ok (.invokevirtual 145, 3) := by decide +kernel
theorem dX7_write_14 : decode cX7_write 14 = .ok (.bipush (-6), 2) := by decide +kernel
theorem dX7_write_16 : decode cX7_write 16 = .ok (.if_icmp .eq 6, 3) := by decide +kernel
theorem dX7_write_19 : decode cX7_write 19 = .ok (.bipush (-3), 2) := by decide +kernel
theorem dX7_write_21 : decode cX7_write 21 = .ok (.ireturn, 1) := by decide +kernel
theorem dX7_write_22 : decode cX7_write 22 = .ok (.iload_n 3, 1) := by decide +kernel
theorem dX7_write_23 : decode cX7_write 23 = .ok (.invokestatic 118, 3) := by decide +kernel
theorem dX7_write_26 : decode cX7_write 26 = .ok (.ifCond .eq 13, 3) := by decide +kernel
theorem dX7_write_29 : decode cX7_write 29 = .ok (.iload 4, 2) := by decide +kernel
theorem dX7_write_31 : decode cX7_write 31 = .ok (.iconst 0, 1) := by decide +kernel
theorem dX7_write_32 : decode cX7_write 32 = .ok (.iconst 1, 1) := by decide +kernel
theorem dX7_write_33 : decode cX7_write 33 = .ok (.invokestatic 66, 3) := by decide +kernel
theorem dX7_write_36 : decode cX7_write 36 = .ok (.ifCond .ne 6, 3) := by decide +kernel
theorem dX7_write_39 : decode cX7_write 39 = .ok (.bipush (-2), 2) := by decide +kernel
theorem dX7_write_41 : decode cX7_write 41 = .ok (.ireturn, 1) := by decide +kernel
theorem dX7_write_42 : decode cX7_write 42 = .ok (.aload_n 0, 1) := by decide +kernel
theorem dX7_write_43 : decode cX7_write 43 = .ok (.iload_n 1, 1) := by decide +kernel
theorem dX7_write_44 : decode cX7_write 44 = .ok (.iload_n 2, 1) := by decide +kernel
theorem dX7_write_45 : decode cX7_write 45 = .ok (.iload_n 3, 1) := by decide +kernel
theorem dX7_write_46 : decode cX7_write 46 = .ok (.iload 4, 2) := by decide +kernel
theorem dX7_write_48 : decode cX7_write 48 = .ok (.invokevirtual 149, 3) := by decide +kernel
theorem dX7_write_51 : decode cX7_write 51 = .ok (.ifCond .ne 6, 3) := by decide +kernel
theorem dX7_write_54 : decode cX7_write 54 = .ok (.bipush (-5), 2) := by decide +kernel
theorem dX7_write_56 : decode cX7_write 56 = .ok (.ireturn, 1) := by decide +kernel
theorem dX7_write_57 : decode cX7_write 57 = .ok (.aload_n 0, 1) := by decide +kernel
theorem dX7_write_58 : decode cX7_write 58 = .ok (.invokevirtual 122, 3) := by decide +kernel
theorem dX7_write_61 : decode cX7_write 61 = .ok (.aload_n 0, 1) := by decide +kernel
theorem dX7_write_62 : decode cX7_write 62 = .ok (.getfield 7, 3) := by decide +kernel
theorem dX7_write_65 : decode cX7_write 65 = .ok (.iconst 1, 1) := by decide +kernel
theorem dX7_write_66 : decode cX7_write 66 = .ok (.iaload, 1) := by decide +kernel
theorem dX7_write_67 : decode cX7_write 67 = .ok (.istore 5, 2) := by decide +kernel
theorem dX7_write_69 : decode cX7_write 69 = .ok (.aload_n 0, 1) := by decide +kernel
theorem dX7_write_70 : decode cX7_write 70 = .ok (.iload_n 1, 1) := by decide +kernel
theorem dX7_write_71 : decode cX7_write 71 = .ok (.iload_n 2, 1) := by decide +kernel
theorem dX7_write_72 : decode cX7_write 72 = .ok (.iload_n 3, 1) := by decide +kernel
theorem dX7_write_73 : decode cX7_write 73 = .ok (.iload 4, 2) := by decide +kernel
theorem dX7_write_75 : decode cX7_write 75 = .ok (.invokevirtual 134, 3) := by decide +kernel
theorem dX7_write_78 : decode cX7_write 78 = .ok (.istore 6, 2) := by decide +kernel
theorem dX7_write_80 : decode cX7_write 80 = .ok (.aload_n 0, 1) := by decide +kernel
theorem dX7_write_81 : decode cX7_write 81 = .ok (.iconst 0, 1) := by decide +kernel
theorem dX7_write_82 : decode cX7_write 82 = .ok (.putfield 101, 3) := by decide +kernel
theorem dX7_write_85 : decode cX7_write 85 = .ok (.aload_n 0, 1) := by decide +kernel
theorem dX7_write_86 : decode cX7_write 86 = .ok (.getfield 7, 3) := by decide +kernel
theorem dX7_write_89 : decode cX7_write 89 = .ok (.iconst 1, 1) := by decide +kernel
theorem dX7_write_90 : decode cX7_write 90 = .ok (.iaload, 1) := by decide +kernel
theorem dX7_write_91 : decode cX7_write 91 = .ok (.iload 5, 2) := by decide +kernel
theorem dX7_write_93 : decode cX7_write 93 = .ok (.isub, 1) := by decide +kernel
theorem dX7_write_94 : decode cX7_write 94 = .ok (.ireturn, 1) := by decide +kernel
theorem dX7_isLoose_0 : decode cX7_isLoose 0 = .ok (.aload_n 0, 1) := by decide +kernel
theorem dX7_isLoose_1 : decode cX7_isLoose 1 = .ok (.getfield 7, 3) := by decide +kernel
theorem dX7_isLoose_4 : decode cX7_isLoose 4 = .ok (.iload_n 1, 1) := by decide +kernel
theorem dX7_isLoose_5 : decode cX7_isLoose 5 = .ok (.iconst 3, 1) := by decide +kernel
theorem dX7_isLoose_6 : decode cX7_isLoose 6 = .ok (.invokestatic 85, 3) := by decide +kernel
theorem dX7_isLoose_9 : decode cX7_isLoose 9 = .ok (.iaload, 1) := by decide +kernel
theorem dX7_isLoose_10 : decode cX7_isLoose 10 = .ok (.ifCond .ne 7, 3) := by decide +kernel
theorem dX7_isLoose_13 : decode cX7_isLoose 13 = .ok (.iconst 1, 1) := by decide +kernel
theorem dX7_isLoose_14 : decode cX7_isLoose 14 = .ok (.goto 4, 3) := by decide +kernel
theorem dX7_isLoose_17 : decode cX7_isLoose 17 = .ok (.iconst 0, 1) := by decide +kernel
theorem dX7_isLoose_18 : decode cX7_isLoose 18 = .ok (.ireturn, 1) := by decide +kernel
theorem dX7_place_0 : decode cX7_place 0 = .ok (.aload_n 0, 1) := by decide +kernel
theorem dX7_place_1 : decode cX7_place 1 = .ok (.iload_n 1, 1) := by decide +kernel
theorem dX7_place_2 : decode cX7_place 2 = .ok (.invokevirtual 152, 3) := by decide +kernel
theorem dX7_place_5 : decode cX7_place 5 = .ok (.ifCond .eq 11, 3) := by decide +kernel
theorem dX7_place_8 : decode cX7_place 8 = .ok (.iload_n 2, 1) := by decide +kernel
theorem dX7_place_9 : decode cX7_place 9 = .ok (.iload_n 3, 1) := by decide +kernel
theorem dX7_place_10 : decode cX7_place 10 = .ok (.invokestatic 141, 3) := by decide +kernel
theorem dX7_place_13 : decode cX7_place 13 = .ok (.ifCond .ne 5, 3) := by decide +kernel
theorem dX7_place_16 : decode cX7_place 16 = .ok (.iconst (-1), 1) := by decide +kernel
theorem dX7_place_17 : decode cX7_place 17 = .ok (.ireturn, 1) := by decide +kernel
theorem dX7_place_18 : decode cX7_place 18 = .ok (.aload_n 0, 1) := by decide +kernel
theorem dX7_place_19 : decode cX7_place 19 = .ok (.iload_n 1, 1) := by decide +kernel
theorem dX7_place_20 : decode cX7_place 20 = .ok (.invokevirtual 155, 3) := by decide +kernel
theorem dX7_place_23 : decode cX7_place 23 = .ok (.ifCond .eq 14, 3) := by decide +kernel
theorem dX7_place_26 : decode cX7_place 26 = .ok (.aload_n 0, 1) := by decide +kernel
theorem dX7_place_27 : decode cX7_place 27 = .ok (.iload_n 2, 1) := by decide +kernel
theorem dX7_place_28 : decode cX7_place 28 = .ok (.iload_n 3, 1) := by decide +kernel
theorem dX7_place_29 : decode cX7_place 29 = .ok (.invokevirtual 88, 3) := by decide +kernel
theorem dX7_place_32 : decode cX7_place 32 = .ok (.bipush (-6), 2) := by decide +kernel
theorem dX7_place_34 : decode cX7_place 34 = .ok (.if_icmp .eq 6, 3) := by decide +kernel
theorem dX7_place_37 : decode cX7_place 37 = .ok (.bipush (-5), 2) := by decide +kernel
theorem dX7_place_39 : decode cX7_place 39 = .ok (.ireturn, 1) := by decide +kernel
theorem dX7_place_40 : decode cX7_place 40 = .ok (.aload_n 0, 1) := by decide +kernel
theorem dX7_place_41 : decode cX7_place 41 = .ok (.invokevirtual 122, 3) := by decide +kernel
theorem dX7_place_44 : decode cX7_place 44 = .ok (.aload_n 0, 1) := by decide +kernel
theorem dX7_place_45 : decode cX7_place 45 = .ok (.iload_n 1, 1) := by decide +kernel
theorem dX7_place_46 : decode cX7_place 46 = .ok (.iload_n 2, 1) := by decide +kernel
theorem dX7_place_47 : decode cX7_place 47 = .ok (.iload_n 3, 1) := by decide +kernel
theorem dX7_place_48 : decode cX7_place 48 = .ok (.invokevirtual 111, 3) := by decide +kernel
theorem dX7_place_51 : decode cX7_place 51 = .ok (.aload_n 0, 1) := by decide +kernel
theorem dX7_place_52 : decode cX7_place 52 = .ok (.iload_n 2, 1) := by decide +kernel
theorem dX7_place_53 : decode cX7_place 53 = .ok (.invokevirtual 158, 3) := by decide +kernel
theorem dX7_place_56 : decode cX7_place 56 = .ok (.ireturn, 1) := by decide +kernel
theorem dX7_clear_0 : decode cX7_clear 0 = .ok (.iload_n 1, 1) := by decide +kernel
theorem dX7_clear_1 : decode cX7_clear 1 = .ok (.iconst 0, 1) := by decide +kernel
theorem dX7_clear_2 : decode cX7_clear 2 = .ok (.iconst 2, 1) := by decide +kernel
theorem dX7_clear_3 : decode cX7_clear 3 = .ok (.invokestatic 66, 3) := by decide +kernel
theorem dX7_clear_6 : decode cX7_clear 6 = .ok (.ifCond .ne 5, 3) := by decide +kernel
theorem dX7_clear_9 : decode cX7_clear 9 = .ok (.iconst (-1), 1) := by decide +kernel
theorem dX7_clear_10 : decode cX7_clear 10 = .ok (.ireturn, 1) := by decide +kernel
theorem dX7_clear_11 : decode cX7_clear 11 = .ok (.aload_n 0, 1) := by decide +kernel
theorem dX7_clear_12 : decode cX7_clear 12 = .ok (.invokevirtual 122, 3) := by decide +kernel
theorem dX7_clear_15 : decode cX7_clear 15 = .ok (.aload_n 0, 1) := by decide +kernel
theorem dX7_clear_16 : decode cX7_clear 16 = .ok (.iload_n 1, 1) := by decide +kernel
theorem dX7_clear_17 : decode cX7_clear 17 = .ok (.invokevirtual 158, 3) := by decide +kernel
theorem dX7_clear_20 : decode cX7_clear 20 = .ok (.istore_n 2, 1) := by decide +kernel
theorem dX7_clear_21 : decode cX7_clear 21 = .ok (.iconst 0, 1) := by decide +kernel
theorem dX7_clear_22 : decode cX7_clear 22 = .ok (.istore_n 3, 1) := by decide +kernel
theorem dX7_clear_23 : decode cX7_clear 23 = .ok (.iload_n 3, 1) := by decide +kernel
theorem dX7_clear_24 : decode cX7_clear 24 = .ok (.aload_n 0, 1) := by decide +kernel
theorem dX7_clear_25 : decode cX7_clear 25 = .ok (.getfield 7, 3) := by decide +kernel
theorem dX7_clear_28 : decode cX7_clear 28 = .ok (.iconst 1, 1) := by decide +kernel
theorem dX7_clear_29 : decode cX7_clear 29 = .ok (.iaload, 1) := by decide +kernel
theorem dX7_clear_30 : decode cX7_clear 30 = .ok (.if_icmp .ge 107, 3) := by decide +kernel
theorem dX7_clear_33 : decode cX7_clear 33 = .ok (.aload_n 0, 1) := by decide +kernel
theorem dX7_clear_34 : decode cX7_clear 34 = .ok (.getfield 7, 3) := by decide +kernel
theorem dX7_clear_37 : decode cX7_clear 37 = .ok (.iload_n 3, 1) := by decide +kernel
theorem dX7_clear_38 : decode cX7_clear 38 = .ok (.iconst 4, 1) := by decide +kernel
theorem dX7_clear_39 : decode cX7_clear 39 = .ok (.invokestatic 85, 3) := by decide +kernel
theorem dX7_clear_42 : decode cX7_clear 42 = .ok (.iaload, 1) := by decide +kernel
theorem dX7_clear_43 : decode cX7_clear 43 = .ok (.bipush (-6), 2) := by decide +kernel
theorem dX7_clear_45 : decode cX7_clear 45 = .ok (.if_icmp .eq 24, 3) := by decide +kernel
theorem dX7_clear_48 : decode cX7_clear 48 = .ok (.aload_n 0, 1) := by decide +kernel
theorem dX7_clear_49 : decode cX7_clear 49 = .ok (.getfield 7, 3) := by decide +kernel
theorem dX7_clear_52 : decode cX7_clear 52 = .ok (.iload_n 3, 1) := by decide +kernel
theorem dX7_clear_53 : decode cX7_clear 53 = .ok (.iconst 4, 1) := by decide +kernel
theorem dX7_clear_54 : decode cX7_clear 54 = .ok (.invokestatic 85, 3) := by decide +kernel
theorem dX7_clear_57 : decode cX7_clear 57 = .ok (.iaload, 1) := by decide +kernel
theorem dX7_clear_58 : decode cX7_clear 58 = .ok (.bipush 12, 2) := by decide +kernel
theorem dX7_clear_60 : decode cX7_clear 60 = .ok (.idiv, 1) := by decide +kernel
theorem dX7_clear_61 : decode cX7_clear 61 = .ok (.iload_n 1, 1) := by decide +kernel
theorem dX7_clear_62 : decode cX7_clear 62 = .ok (.if_icmp .ne 7, 3) := by decide +kernel
theorem dX7_clear_65 : decode cX7_clear 65 = .ok (.iconst 1, 1) := by decide +kernel
theorem dX7_clear_66 : decode cX7_clear 66 = .ok (.goto 4, 3) := by decide +kernel
theorem dX7_clear_69 : decode cX7_clear 69 = .ok (.iconst 0, 1) := by decide +kernel
theorem dX7_clear_70 : decode cX7_clear 70 = .ok (.istore 4, 2) := by decide +kernel
theorem dX7_clear_72 : decode cX7_clear 72 = .ok (.aload_n 0, 1) := by decide +kernel
theorem dX7_clear_73 : decode cX7_clear 73 = .ok (.getfield 7, 3) := by decide +kernel
theorem dX7_clear_76 : decode cX7_clear 76 = .ok (.iload_n 3, 1) := by decide +kernel
theorem dX7_clear_77 : decode cX7_clear 77 = .ok (.iconst 3, 1) := by decide +kernel
theorem dX7_clear_78 : decode cX7_clear 78 = .ok (.invokestatic 85, 3) := by decide +kernel
theorem dX7_clear_81 : decode cX7_clear 81 = .ok (.iload 4, 2) := by decide +kernel
theorem dX7_clear_83 : decode cX7_clear 83 = .ok (.ifCond .eq 7, 3) := by decide +kernel
theorem dX7_clear_86 : decode cX7_clear 86 = .ok (.iconst 0, 1) := by decide +kernel
theorem dX7_clear_87 : decode cX7_clear 87 = .ok (.goto 13, 3) := by decide +kernel
theorem dX7_clear_90 : decode cX7_clear 90 = .ok (.aload_n 0, 1) := by decide +kernel
theorem dX7_clear_91 : decode cX7_clear 91 = .ok (.getfield 7, 3) := by decide +kernel
theorem dX7_clear_94 : decode cX7_clear 94 = .ok (.iload_n 3, 1) := by decide +kernel
theorem dX7_clear_95 : decode cX7_clear 95 = .ok (.iconst 3, 1) := by decide +kernel
theorem dX7_clear_96 : decode cX7_clear 96 = .ok (.invokestatic 85, 3) := by decide +kernel
theorem dX7_clear_99 : decode cX7_clear 99 = .ok (.iaload, 1) := by decide +kernel
theorem dX7_clear_100 : decode cX7_clear 100 = .ok (.iastore, 1) := by decide +kernel
theorem dX7_clear_101 : decode cX7_clear 101 = .ok (.aload_n 0, 1) := by decide +kernel
theorem dX7_clear_102 : decode cX7_clear 102 = .ok (.getfield 7, 3) := by decide +kernel
theorem dX7_clear_105 : decode cX7_clear 105 = .ok (.iload_n 3, 1) := by decide +kernel
theorem dX7_clear_106 : decode cX7_clear 106 = .ok (.iconst 4, 1) := by decide +kernel
theorem dX7_clear_107 : decode cX7_clear 107 = .ok (.invokestatic 85, 3) := by decide +kernel
theorem dX7_clear_110 : decode cX7_clear 110 = .ok (.iload 4, 2) := by decide +kernel
theorem dX7_clear_112 : decode cX7_clear 112 = .ok (.ifCond .eq 8, 3) := by decide +kernel
theorem dX7_clear_115 : decode cX7_clear 115 = .ok (.bipush (-6), 2) := by decide +kernel
theorem dX7_clear_117 : decode cX7_clear 117 = .ok (.goto 13, 3) := by decide +kernel
theorem dX7_clear_120 : decode cX7_clear 120 = .ok (.aload_n 0, 1) := by decide +kernel
theorem dX7_clear_121 : decode cX7_clear 121 = .ok (.getfield 7, 3) := by decide +kernel
theorem dX7_clear_124 : decode cX7_clear 124 = .ok (.iload_n 3, 1) := by decide +kernel
theorem dX7_clear_125 : decode cX7_clear 125 = .ok (.iconst 4, 1) := by decide +kernel
theorem dX7_clear_126 : decode cX7_clear 126 = .ok (.invokestatic 85, 3) := by decide +kernel
theorem dX7_clear_129 : decode cX7_clear 129 = .ok (.iaload, 1) := by decide +kernel
theorem dX7_clear_130 : decode cX7_clear 130 = .ok (.iastore, 1) := by decide +kernel
theorem dX7_clear_131 : decode cX7_clear 131 = .ok (.iinc 3 1, 3) := by decide +kernel
theorem dX7_clear_134 : decode cX7_clear 134 = .ok (.goto (-111), 3) := by decide +kernel
theorem dX7_clear_137 : decode cX7_clear 137 = .ok (.iload_n 2, 1) := by decide +kernel
theorem dX7_clear_138 : decode cX7_clear 138 = .ok (.ireturn, 1) := by decide +kernel
theorem dX7_throwAway_0 : decode cX7_throwAway 0 = .ok (.aload_n 0, 1) := by decide +kernel
theorem dX7_throwAway_1 : decode cX7_throwAway 1 = .ok (.iload_n 1, 1) := by decide +kernel
theorem dX7_throwAway_2 : decode cX7_throwAway 2 = .ok (.invokevirtual 152, 3) := by decide +kernel
theorem dX7_throwAway_5 : decode cX7_throwAway 5 = .ok (.ifCond .ne 5, 3) := by decide +kernel
theorem dX7_throwAway_8 : decode cX7_throwAway 8 = .ok (.iconst (-1), 1) := by decide +kernel
theorem dX7_throwAway_9 : decode cX7_throwAway 9 = .ok (.ireturn, 1) := by decide +kernel
theorem dX7_throwAway_10 : decode cX7_throwAway 10 = .ok (.aload_n 0, 1) := by decide +kernel
theorem dX7_throwAway_11 : decode cX7_throwAway 11 = .ok (.iload_n 1, 1) := by decide +kernel
theorem dX7_throwAway_12 : decode cX7_throwAway 12 = .ok (.invokevirtual 155, 3) := by decide +kernel
theorem dX7_throwAway_15 : decode cX7_throwAway 15 = .ok (.ifCond .ne 6, 3) := by decide +kernel
theorem dX7_throwAway_18 : decode cX7_throwAway 18 = .ok (.bipush (-5), 2) := by decide +kernel
theorem dX7_throwAway_20 : decode cX7_throwAway 20 = .ok (.ireturn, 1) := by decide +kernel
theorem dX7_throwAway_21 : decode cX7_throwAway 21 = .ok (.aload_n 0, 1) := by decide +kernel
theorem dX7_throwAway_22 : decode cX7_throwAway 22 = .ok (.invokevirtual 122, 3) := by decide +kernel
theorem dX7_throwAway_25 : decode cX7_throwAway 25 = .ok (.aload_n 0, 1) := by decide +kernel
theorem dX7_throwAway_26 : decode cX7_throwAway 26 = .ok (.getfield 7, 3) := by decide +kernel
theorem dX7_throwAway_29 : decode cX7_throwAway 29 = .ok (.iload_n 1, 1) := by decide +kernel
theorem dX7_throwAway_30 : decode cX7_throwAway 30 = .ok (.iconst 3, 1) := by decide +kernel
theorem dX7_throwAway_31 : decode cX7_throwAway 31 = .ok (.invokestatic 85, 3) := by decide +kernel
theorem dX7_throwAway_34 : decode cX7_throwAway 34 = .ok (.iconst 2, 1) := by decide +kernel
theorem dX7_throwAway_35 : decode cX7_throwAway 35 = .ok (.iastore, 1) := by decide +kernel
theorem dX7_throwAway_36 : decode cX7_throwAway 36 = .ok (.aload_n 0, 1) := by decide +kernel
theorem dX7_throwAway_37 : decode cX7_throwAway 37 = .ok (.getfield 7, 3) := by decide +kernel
theorem dX7_throwAway_40 : decode cX7_throwAway 40 = .ok (.iconst 2, 1) := by decide +kernel
theorem dX7_throwAway_41 : decode cX7_throwAway 41 = .ok (.dup2, 1) := by decide +kernel
theorem dX7_throwAway_42 : decode cX7_throwAway 42 = .ok (.iaload, 1) := by decide +kernel
theorem dX7_throwAway_43 : decode cX7_throwAway 43 = .ok (.aload_n 0, 1) := by decide +kernel
theorem dX7_throwAway_44 : decode cX7_throwAway 44 = .ok (.aload_n 0, 1) := by decide +kernel
theorem dX7_throwAway_45 : decode cX7_throwAway 45 = .ok (.getfield 7, 3) := by decide +kernel
theorem dX7_throwAway_48 : decode cX7_throwAway 48 = .ok (.iload_n 1, 1) := by decide +kernel
theorem dX7_throwAway_49 : decode cX7_throwAway 49 = .ok (.iconst 0, 1) := by decide +kernel
theorem dX7_throwAway_50 : decode cX7_throwAway 50 = .ok (.invokestatic 85, 3) := by decide +kernel
theorem dX7_throwAway_53 : decode cX7_throwAway 53 = .ok (.iaload, 1) := by decide +kernel
theorem dX7_throwAway_54 : decode cX7_throwAway 54 = .ok (.invokevirtual 161, 3) := by decide +kernel
theorem dX7_throwAway_57 : decode cX7_throwAway 57 = .ok (.iadd, 1) := by decide +kernel
theorem dX7_throwAway_58 : decode cX7_throwAway 58 = .ok (.iastore, 1) := by decide +kernel
theorem dX7_throwAway_59 : decode cX7_throwAway 59 = .ok (.aload_n 0, 1) := by decide +kernel
theorem dX7_throwAway_60 : decode cX7_throwAway 60 = .ok (.aload_n 0, 1) := by decide +kernel
theorem dX7_throwAway_61 : decode cX7_throwAway 61 = .ok (.getfield 7, 3) := by decide +kernel
theorem dX7_throwAway_64 : decode cX7_throwAway 64 = .ok (.iload_n 1, 1) := by decide +kernel
theorem dX7_throwAway_65 : decode cX7_throwAway 65 = .ok (.iconst 0, 1) := by decide +kernel
theorem dX7_throwAway_66 : decode cX7_throwAway 66 = .ok (.invokestatic 85, 3) := by decide +kernel
theorem dX7_throwAway_69 : decode cX7_throwAway 69 = .ok (.iaload, 1) := by decide +kernel
theorem dX7_throwAway_70 : decode cX7_throwAway 70 = .ok (.invokevirtual 161, 3) := by decide +kernel
theorem dX7_throwAway_73 : decode cX7_throwAway 73 = .ok (.ireturn, 1) := by decide +kernel
theorem dX7_scrap_0 : decode cX7_scrap 0 = .ok (.aload_n 0, 1) := by decide +kernel
theorem dX7_scrap_1 : decode cX7_scrap 1 = .ok (.iload_n 1, 1) := by decide +kernel
theorem dX7_scrap_2 : decode cX7_scrap 2 = .ok (.invokevirtual 125, 3) := by decide +kernel
theorem dX7_scrap_5 : decode cX7_scrap 5 = .ok (.ifCond .ne 5, 3) := by decide +kernel
theorem dX7_scrap_8 : decode cX7_scrap 8 = .ok (.iconst (-1), 1) := by decide +kernel
theorem dX7_scrap_9 : decode cX7_scrap 9 = .ok (.ireturn, 1) := by decide +kernel
theorem dX7_scrap_10 : decode cX7_scrap 10 = .ok (.aload_n 0, 1) := by decide +kernel
theorem dX7_scrap_11 : decode cX7_scrap 11 = .ok (.getfield 7, 3) := by decide +kernel
theorem dX7_scrap_14 : decode cX7_scrap 14 = .ok (.iload_n 1, 1) := by decide +kernel
theorem dX7_scrap_15 : decode cX7_scrap 15 = .ok (.iconst 1, 1) := by decide +kernel
theorem dX7_scrap_16 : decode cX7_scrap 16 = .ok (.invokestatic 70, 3) := by decide +kernel
theorem dX7_scrap_19 : decode cX7_scrap 19 = .ok (.iaload, 1) := by decide +kernel
theorem dX7_scrap_20 : decode cX7_scrap 20 = .ok (.iconst 1, 1) := by decide +kernel
theorem dX7_scrap_21 : decode cX7_scrap 21 = .ok (.if_icmp .ne 6, 3) := by decide +kernel
theorem dX7_scrap_24 : decode cX7_scrap 24 = .ok (.bipush (-5), 2) := by decide +kernel
theorem dX7_scrap_26 : decode cX7_scrap 26 = .ok (.ireturn, 1) := by decide +kernel
theorem dX7_scrap_27 : decode cX7_scrap 27 = .ok (.aload_n 0, 1) := by decide +kernel
theorem dX7_scrap_28 : decode cX7_scrap 28 = .ok (.invokevirtual 122, 3) := by decide +kernel
theorem dX7_scrap_31 : decode cX7_scrap 31 = .ok (.aload_n 0, 1) := by decide +kernel
theorem dX7_scrap_32 : decode cX7_scrap 32 = .ok (.getfield 7, 3) := by decide +kernel
theorem dX7_scrap_35 : decode cX7_scrap 35 = .ok (.iload_n 1, 1) := by decide +kernel
theorem dX7_scrap_36 : decode cX7_scrap 36 = .ok (.iconst 1, 1) := by decide +kernel
theorem dX7_scrap_37 : decode cX7_scrap 37 = .ok (.invokestatic 70, 3) := by decide +kernel
theorem dX7_scrap_40 : decode cX7_scrap 40 = .ok (.iconst 1, 1) := by decide +kernel
theorem dX7_scrap_41 : decode cX7_scrap 41 = .ok (.iastore, 1) := by decide +kernel
theorem dX7_scrap_42 : decode cX7_scrap 42 = .ok (.aload_n 0, 1) := by decide +kernel
theorem dX7_scrap_43 : decode cX7_scrap 43 = .ok (.getfield 7, 3) := by decide +kernel
theorem dX7_scrap_46 : decode cX7_scrap 46 = .ok (.iconst 2, 1) := by decide +kernel
theorem dX7_scrap_47 : decode cX7_scrap 47 = .ok (.dup2, 1) := by decide +kernel
theorem dX7_scrap_48 : decode cX7_scrap 48 = .ok (.iaload, 1) := by decide +kernel
theorem dX7_scrap_49 : decode cX7_scrap 49 = .ok (.aload_n 0, 1) := by decide +kernel
theorem dX7_scrap_50 : decode cX7_scrap 50 = .ok (.iload_n 1, 1) := by decide +kernel
theorem dX7_scrap_51 : decode cX7_scrap 51 = .ok (.invokevirtual 164, 3) := by decide +kernel
theorem dX7_scrap_54 : decode cX7_scrap 54 = .ok (.iadd, 1) := by decide +kernel
theorem dX7_scrap_55 : decode cX7_scrap 55 = .ok (.iastore, 1) := by decide +kernel
theorem dX7_scrap_56 : decode cX7_scrap 56 = .ok (.aload_n 0, 1) := by decide +kernel
theorem dX7_scrap_57 : decode cX7_scrap 57 = .ok (.iload_n 1, 1) := by decide +kernel
theorem dX7_scrap_58 : decode cX7_scrap 58 = .ok (.invokevirtual 164, 3) := by decide +kernel
theorem dX7_scrap_61 : decode cX7_scrap 61 = .ok (.ireturn, 1) := by decide +kernel
theorem dX7_of_0 : decode cX7_of 0 = .ok (.aload_n 0, 1) := by decide +kernel
theorem dX7_of_1 : decode cX7_of 1 = .ok (.iload_n 1, 1) := by decide +kernel
theorem dX7_of_2 : decode cX7_of 2 = .ok (.invokevirtual 152, 3) := by decide +kernel
theorem dX7_of_5 : decode cX7_of 5 = .ok (.ifCond .ne 7, 3) := by decide +kernel
theorem dX7_of_8 : decode cX7_of 8 = .ok (.iconst (-1), 1) := by decide +kernel
theorem dX7_of_9 : decode cX7_of 9 = .ok (.goto 28, 3) := by decide +kernel
theorem dX7_of_12 : decode cX7_of 12 = .ok (.iload_n 2, 1) := by decide +kernel
theorem dX7_of_13 : decode cX7_of 13 = .ok (.iconst 0, 1) := by decide +kernel
theorem dX7_of_14 : decode cX7_of 14 = .ok (.bipush 7, 2) := by decide +kernel
theorem dX7_of_16 : decode cX7_of 16 = .ok (.invokestatic 66, 3) := by decide +kernel
theorem dX7_of_19 : decode cX7_of 19 = .ok (.ifCond .eq 16, 3) := by decide +kernel
theorem dX7_of_22 : decode cX7_of 22 = .ok (.aload_n 0, 1) := by decide +kernel
theorem dX7_of_23 : decode cX7_of 23 = .ok (.getfield 7, 3) := by decide +kernel
theorem dX7_of_26 : decode cX7_of 26 = .ok (.iload_n 1, 1) := by decide +kernel
theorem dX7_of_27 : decode cX7_of 27 = .ok (.iload_n 2, 1) := by decide +kernel
theorem dX7_of_28 : decode cX7_of 28 = .ok (.invokestatic 85, 3) := by decide +kernel
theorem dX7_of_31 : decode cX7_of 31 = .ok (.iaload, 1) := by decide +kernel
theorem dX7_of_32 : decode cX7_of 32 = .ok (.goto 5, 3) := by decide +kernel
theorem dX7_of_35 : decode cX7_of 35 = .ok (.bipush (-2), 2) := by decide +kernel
theorem dX7_of_37 : decode cX7_of 37 = .ok (.ireturn, 1) := by decide +kernel
theorem dX7_piecesFrom_0 : decode cX7_piecesFrom 0 = .ok (.iconst 0, 1) := by decide +kernel
theorem dX7_piecesFrom_1 : decode cX7_piecesFrom 1 = .ok (.istore_n 2, 1) := by decide +kernel
theorem dX7_piecesFrom_2 : decode cX7_piecesFrom 2 = .ok (.iconst 0, 1) := by decide +kernel
theorem dX7_piecesFrom_3 : decode cX7_piecesFrom 3 = .ok (.istore_n 3, 1) := by decide +kernel
theorem dX7_piecesFrom_4 : decode cX7_piecesFrom 4 = .ok (.iload_n 3, 1) := by decide +kernel
theorem dX7_piecesFrom_5 : decode cX7_piecesFrom 5 = .ok (.aload_n 0, 1) := by decide +kernel
theorem dX7_piecesFrom_6 : decode cX7_piecesFrom 6 = .ok (.getfield 7, 3) := by decide +kernel
theorem dX7_piecesFrom_9 : decode cX7_piecesFrom 9 = .ok (.iconst 1, 1) := by decide +kernel
theorem dX7_piecesFrom_10 : decode cX7_piecesFrom 10 = .ok (.iaload, 1) := by decide +kernel
theorem dX7_piecesFrom_11 : decode cX7_piecesFrom 11 = .ok (.if_icmp .ge 31, 3) := by decide +kernel
theorem dX7_piecesFrom_14 : decode cX7_piecesFrom 14 = .ok (.iload_n 2, 1) := by decide +kernel
theorem dX7_piecesFrom_15 : decode cX7_piecesFrom 15 = .ok (.aload_n 0, 1) := by decide +kernel
theorem dX7_piecesFrom_16 : decode cX7_piecesFrom 16 = .ok (.getfield 7, 3) := by decide +kernel
theorem dX7_piecesFrom_19 : decode cX7_piecesFrom 19 = .ok (.iload_n 3, 1) := by decide +kernel
theorem dX7_piecesFrom_20 : decode cX7_piecesFrom 20 = .ok (.iconst 5, 1) := by decide +kernel
theorem dX7_piecesFrom_21 : decode cX7_piecesFrom 21 = .ok (.invokestatic 85, 3) := by decide +kernel
theorem dX7_piecesFrom_24 : decode cX7_piecesFrom 24 = .ok (.iaload, 1) := by decide +kernel
theorem dX7_piecesFrom_25 : decode cX7_piecesFrom 25 = .ok (.iload_n 1, 1) := by decide +kernel
theorem dX7_piecesFrom_26 : decode cX7_piecesFrom 26 = .ok (.if_icmp .ne 7, 3) := by decide +kernel
theorem dX7_piecesFrom_29 : decode cX7_piecesFrom 29 = .ok (.iconst 1, 1) := by decide +kernel
theorem dX7_piecesFrom_30 : decode cX7_piecesFrom 30 = .ok (.goto 4, 3) := by decide +kernel
theorem dX7_piecesFrom_33 : decode cX7_piecesFrom 33 = .ok (.iconst 0, 1) := by decide +kernel
theorem dX7_piecesFrom_34 : decode cX7_piecesFrom 34 = .ok (.iadd, 1) := by decide +kernel
theorem dX7_piecesFrom_35 : decode cX7_piecesFrom 35 = .ok (.istore_n 2, 1) := by decide +kernel
theorem dX7_piecesFrom_36 : decode cX7_piecesFrom 36 = .ok (.iinc 3 1, 3) := by decide +kernel
theorem dX7_piecesFrom_39 : decode cX7_piecesFrom 39 = .ok (.goto (-35), 3) := by decide +kernel
theorem dX7_piecesFrom_42 : decode cX7_piecesFrom 42 = .ok (.iload_n 2, 1) := by decide +kernel
theorem dX7_piecesFrom_43 : decode cX7_piecesFrom 43 = .ok (.ireturn, 1) := by decide +kernel
theorem dX7_lettersThatFit_0 : decode cX7_lettersThatFit 0 = .ok (.iconst 0, 1) := by decide +kernel
theorem dX7_lettersThatFit_1 : decode cX7_lettersThatFit 1 = .ok (.istore_n 2, 1) := by decide +kernel
theorem dX7_lettersThatFit_2 : decode cX7_lettersThatFit 2 = .ok (.iconst 0, 1) := by decide +kernel
theorem dX7_lettersThatFit_3 : decode cX7_lettersThatFit 3 = .ok (.istore_n 3, 1) := by decide +kernel
theorem dX7_lettersThatFit_4 : decode cX7_lettersThatFit 4 = .ok (.iload_n 3, 1) := by decide +kernel
theorem dX7_lettersThatFit_5 : decode cX7_lettersThatFit 5 = .ok (.bipush 8, 2) := by decide +kernel
theorem dX7_lettersThatFit_7 : decode cX7_lettersThatFit 7 = .ok (.if_icmp .ge 39, 3) := by decide +kernel
theorem dX7_lettersThatFit_10 : decode cX7_lettersThatFit 10 = .ok (.iload_n 2, 1) := by decide +kernel
theorem dX7_lettersThatFit_11 : decode cX7_lettersThatFit 11 = .ok (.aload_n 0, 1) := by decide +kernel
theorem dX7_lettersThatFit_12 : decode cX7_lettersThatFit 12 = .ok (.iload_n 1, 1) := by decide +kernel
theorem dX7_lettersThatFit_13 : decode cX7_lettersThatFit 13 = .ok (.iload_n 3, 1) := by decide +kernel
theorem dX7_lettersThatFit_14 : decode cX7_lettersThatFit 14 = .ok (.iconst 0, 1) := by decide +kernel
theorem dX7_lettersThatFit_15 : decode cX7_lettersThatFit 15 = .ok (.invokevirtual 78, 3) := by decide +kernel
theorem dX7_lettersThatFit_18 : decode cX7_lettersThatFit 18 = .ok (.ifCond .ne 13, 3) := by decide +kernel
theorem dX7_lettersThatFit_21 : decode cX7_lettersThatFit 21 = .ok (.aload_n 0, 1) := by decide +kernel
theorem dX7_lettersThatFit_22 : decode cX7_lettersThatFit 22 = .ok (.iload_n 1, 1) := by decide +kernel
theorem dX7_lettersThatFit_23 : decode cX7_lettersThatFit 23 = .ok (.iload_n 3, 1) := by decide +kernel
theorem dX7_lettersThatFit_24 : decode cX7_lettersThatFit 24 = .ok (.iconst 1, 1) := by decide +kernel
theorem dX7_lettersThatFit_25 : decode cX7_lettersThatFit 25 = .ok (.invokevirtual 78, 3) := by decide +kernel
theorem dX7_lettersThatFit_28 : decode cX7_lettersThatFit 28 = .ok (.ifCond .eq 9, 3) := by decide +kernel
theorem dX7_lettersThatFit_31 : decode cX7_lettersThatFit 31 = .ok (.iconst 1, 1) := by decide +kernel
theorem dX7_lettersThatFit_32 : decode cX7_lettersThatFit 32 = .ok (.iload_n 3, 1) := by decide +kernel
theorem dX7_lettersThatFit_33 : decode cX7_lettersThatFit 33 = .ok (.ishl, 1) := by decide +kernel
theorem dX7_lettersThatFit_34 : decode cX7_lettersThatFit 34 = .ok (.goto 4, 3) := by decide +kernel
theorem dX7_lettersThatFit_37 : decode cX7_lettersThatFit 37 = .ok (.iconst 0, 1) := by decide +kernel
theorem dX7_lettersThatFit_38 : decode cX7_lettersThatFit 38 = .ok (.ior, 1) := by decide +kernel
theorem dX7_lettersThatFit_39 : decode cX7_lettersThatFit 39 = .ok (.istore_n 2, 1) := by decide +kernel
theorem dX7_lettersThatFit_40 : decode cX7_lettersThatFit 40 = .ok (.iinc 3 1, 3) := by decide +kernel
theorem dX7_lettersThatFit_43 : decode cX7_lettersThatFit 43 = .ok (.goto (-39), 3) := by decide +kernel
theorem dX7_lettersThatFit_46 : decode cX7_lettersThatFit 46 = .ok (.iload_n 2, 1) := by decide +kernel
theorem dX7_lettersThatFit_47 : decode cX7_lettersThatFit 47 = .ok (.ireturn, 1) := by decide +kernel
theorem dX7_ofSheet_0 : decode cX7_ofSheet 0 = .ok (.aload_n 0, 1) := by decide +kernel
theorem dX7_ofSheet_1 : decode cX7_ofSheet 1 = .ok (.iload_n 1, 1) := by decide +kernel
theorem dX7_ofSheet_2 : decode cX7_ofSheet 2 = .ok (.invokevirtual 125, 3) := by decide +kernel
theorem dX7_ofSheet_5 : decode cX7_ofSheet 5 = .ok (.ifCond .ne 5, 3) := by decide +kernel
theorem dX7_ofSheet_8 : decode cX7_ofSheet 8 = .ok (.iconst (-1), 1) := by decide +kernel
theorem dX7_ofSheet_9 : decode cX7_ofSheet 9 = .ok (.ireturn, 1) := by decide +kernel
theorem dX7_ofSheet_10 : decode cX7_ofSheet 10 = .ok (.iload_n 2, 1) := by decide +kernel
theorem dX7_ofSheet_11 : decode cX7_ofSheet 11 = .ok (.tableswitch 73 0 4 #[33, 44, 50, 56, 67], 33) := by decide +kernel
theorem dX7_ofSheet_44 : decode cX7_ofSheet 44 = .ok (.aload_n 0, 1) := by decide +kernel
theorem dX7_ofSheet_45 : decode cX7_ofSheet 45 = .ok (.getfield 7, 3) := by decide +kernel
theorem dX7_ofSheet_48 : decode cX7_ofSheet 48 = .ok (.iload_n 1, 1) := by decide +kernel
theorem dX7_ofSheet_49 : decode cX7_ofSheet 49 = .ok (.iconst 0, 1) := by decide +kernel
theorem dX7_ofSheet_50 : decode cX7_ofSheet 50 = .ok (.invokestatic 70, 3) := by decide +kernel
theorem dX7_ofSheet_53 : decode cX7_ofSheet 53 = .ok (.iaload, 1) := by decide +kernel
theorem dX7_ofSheet_54 : decode cX7_ofSheet 54 = .ok (.ireturn, 1) := by decide +kernel
theorem dX7_ofSheet_55 : decode cX7_ofSheet 55 = .ok (.aload_n 0, 1) := by decide +kernel
theorem dX7_ofSheet_56 : decode cX7_ofSheet 56 = .ok (.iload_n 1, 1) := by decide +kernel
theorem dX7_ofSheet_57 : decode cX7_ofSheet 57 = .ok (.invokevirtual 164, 3) := by decide +kernel
theorem dX7_ofSheet_60 : decode cX7_ofSheet 60 = .ok (.ireturn, 1) := by decide +kernel
theorem dX7_ofSheet_61 : decode cX7_ofSheet 61 = .ok (.aload_n 0, 1) := by decide +kernel
theorem dX7_ofSheet_62 : decode cX7_ofSheet 62 = .ok (.iload_n 1, 1) := by decide +kernel
theorem dX7_ofSheet_63 : decode cX7_ofSheet 63 = .ok (.invokevirtual 167, 3) := by decide +kernel
theorem dX7_ofSheet_66 : decode cX7_ofSheet 66 = .ok (.ireturn, 1) := by decide +kernel
theorem dX7_ofSheet_67 : decode cX7_ofSheet 67 = .ok (.aload_n 0, 1) := by decide +kernel
theorem dX7_ofSheet_68 : decode cX7_ofSheet 68 = .ok (.getfield 7, 3) := by decide +kernel
theorem dX7_ofSheet_71 : decode cX7_ofSheet 71 = .ok (.iload_n 1, 1) := by decide +kernel
theorem dX7_ofSheet_72 : decode cX7_ofSheet 72 = .ok (.iconst 1, 1) := by decide +kernel
theorem dX7_ofSheet_73 : decode cX7_ofSheet 73 = .ok (.invokestatic 70, 3) := by decide +kernel
theorem dX7_ofSheet_76 : decode cX7_ofSheet 76 = .ok (.iaload, 1) := by decide +kernel
theorem dX7_ofSheet_77 : decode cX7_ofSheet 77 = .ok (.ireturn, 1) := by decide +kernel
theorem dX7_ofSheet_78 : decode cX7_ofSheet 78 = .ok (.aload_n 0, 1) := by decide +kernel
theorem dX7_ofSheet_79 : decode cX7_ofSheet 79 = .ok (.iload_n 1, 1) := by decide +kernel
theorem dX7_ofSheet_80 : decode cX7_ofSheet 80 = .ok (.invokevirtual 170, 3) := by decide +kernel
theorem dX7_ofSheet_83 : decode cX7_ofSheet 83 = .ok (.ireturn, 1) := by decide +kernel
theorem dX7_ofSheet_84 : decode cX7_ofSheet 84 = .ok (.bipush (-2), 2) := by decide +kernel
theorem dX7_ofSheet_86 : decode cX7_ofSheet 86 = .ok (.ireturn, 1) := by decide +kernel
theorem dX7_row_0 : decode cX7_row 0 = .ok (.aload_n 0, 1) := by decide +kernel
theorem dX7_row_1 : decode cX7_row 1 = .ok (.iload_n 1, 1) := by decide +kernel
theorem dX7_row_2 : decode cX7_row 2 = .ok (.invokevirtual 125, 3) := by decide +kernel
theorem dX7_row_5 : decode cX7_row 5 = .ok (.ifCond .eq 28, 3) := by decide +kernel
theorem dX7_row_8 : decode cX7_row 8 = .ok (.iload_n 2, 1) := by decide +kernel
theorem dX7_row_9 : decode cX7_row 9 = .ok (.iconst 0, 1) := by decide +kernel
theorem dX7_row_10 : decode cX7_row 10 = .ok (.bipush 8, 2) := by decide +kernel
theorem dX7_row_12 : decode cX7_row 12 = .ok (.invokestatic 66, 3) := by decide +kernel
theorem dX7_row_15 : decode cX7_row 15 = .ok (.ifCond .eq 18, 3) := by decide +kernel
theorem dX7_row_18 : decode cX7_row 18 = .ok (.aload_n 0, 1) := by decide +kernel
theorem dX7_row_19 : decode cX7_row 19 = .ok (.getfield 7, 3) := by decide +kernel
theorem dX7_row_22 : decode cX7_row 22 = .ok (.iload_n 1, 1) := by decide +kernel
theorem dX7_row_23 : decode cX7_row 23 = .ok (.iconst 2, 1) := by decide +kernel
theorem dX7_row_24 : decode cX7_row 24 = .ok (.iload_n 2, 1) := by decide +kernel
theorem dX7_row_25 : decode cX7_row 25 = .ok (.iadd, 1) := by decide +kernel
theorem dX7_row_26 : decode cX7_row 26 = .ok (.invokestatic 70, 3) := by decide +kernel
theorem dX7_row_29 : decode cX7_row 29 = .ok (.iaload, 1) := by decide +kernel
theorem dX7_row_30 : decode cX7_row 30 = .ok (.goto 4, 3) := by decide +kernel
theorem dX7_row_33 : decode cX7_row 33 = .ok (.iconst (-1), 1) := by decide +kernel
theorem dX7_row_34 : decode cX7_row 34 = .ok (.ireturn, 1) := by decide +kernel
theorem dX7_pane_0 : decode cX7_pane 0 = .ok (.iload_n 1, 1) := by decide +kernel
theorem dX7_pane_1 : decode cX7_pane 1 = .ok (.iload_n 2, 1) := by decide +kernel
theorem dX7_pane_2 : decode cX7_pane 2 = .ok (.invokestatic 141, 3) := by decide +kernel
theorem dX7_pane_5 : decode cX7_pane 5 = .ok (.ifCond .eq 12, 3) := by decide +kernel
theorem dX7_pane_8 : decode cX7_pane 8 = .ok (.aload_n 0, 1) := by decide +kernel
theorem dX7_pane_9 : decode cX7_pane 9 = .ok (.iload_n 1, 1) := by decide +kernel
theorem dX7_pane_10 : decode cX7_pane 10 = .ok (.iload_n 2, 1) := by decide +kernel
theorem dX7_pane_11 : decode cX7_pane 11 = .ok (.invokevirtual 88, 3) := by decide +kernel
theorem dX7_pane_14 : decode cX7_pane 14 = .ok (.goto 4, 3) := by decide +kernel
theorem dX7_pane_17 : decode cX7_pane 17 = .ok (.iconst (-1), 1) := by decide +kernel
theorem dX7_pane_18 : decode cX7_pane 18 = .ok (.ireturn, 1) := by decide +kernel
theorem dX7_shape_0 : decode cX7_shape 0 = .ok (.iload_n 1, 1) := by decide +kernel
theorem dX7_shape_1 : decode cX7_shape 1 = .ok (.invokestatic 128, 3) := by decide +kernel
theorem dX7_shape_4 : decode cX7_shape 4 = .ok (.ifCond .ne 5, 3) := by decide +kernel
theorem dX7_shape_7 : decode cX7_shape 7 = .ok (.iconst (-1), 1) := by decide +kernel
theorem dX7_shape_8 : decode cX7_shape 8 = .ok (.ireturn, 1) := by decide +kernel
theorem dX7_shape_9 : decode cX7_shape 9 = .ok (.iload_n 2, 1) := by decide +kernel
theorem dX7_shape_10 : decode cX7_shape 10 = .ok (.iconst 0, 1) := by decide +kernel
theorem dX7_shape_11 : decode cX7_shape 11 = .ok (.bipush 7, 2) := by decide +kernel
theorem dX7_shape_13 : decode cX7_shape 13 = .ok (.invokestatic 66, 3) := by decide +kernel
theorem dX7_shape_16 : decode cX7_shape 16 = .ok (.ifCond .eq 22, 3) := by decide +kernel
theorem dX7_shape_19 : decode cX7_shape 19 = .ok (.iload_n 3, 1) := by decide +kernel
theorem dX7_shape_20 : decode cX7_shape 20 = .ok (.iconst 0, 1) := by decide +kernel
theorem dX7_shape_21 : decode cX7_shape 21 = .ok (.iconst 4, 1) := by decide +kernel
theorem dX7_shape_22 : decode cX7_shape 22 = .ok (.invokestatic 66, 3) := by decide +kernel
theorem dX7_shape_25 : decode cX7_shape 25 = .ok (.ifCond .eq 13, 3) := by decide +kernel
theorem dX7_shape_28 : decode cX7_shape 28 = .ok (.aload_n 0, 1) := by decide +kernel
theorem dX7_shape_29 : decode cX7_shape 29 = .ok (.iload_n 1, 1) := by decide +kernel
theorem dX7_shape_30 : decode cX7_shape 30 = .ok (.iload_n 2, 1) := by decide +kernel
theorem dX7_shape_31 : decode cX7_shape 31 = .ok (.iload_n 3, 1) := by decide +kernel
theorem dX7_shape_32 : decode cX7_shape 32 = .ok (.invokevirtual 60, 3) := by decide +kernel
theorem dX7_shape_35 : decode cX7_shape 35 = .ok (.goto 5, 3) := by decide +kernel
theorem dX7_shape_38 : decode cX7_shape 38 = .ok (.bipush (-2), 2) := by decide +kernel
theorem dX7_shape_40 : decode cX7_shape 40 = .ok (.ireturn, 1) := by decide +kernel
theorem dX7_piecesThatAre_0 : decode cX7_piecesThatAre 0 = .ok (.iconst 0, 1) := by decide +kernel
theorem dX7_piecesThatAre_1 : decode cX7_piecesThatAre 1 = .ok (.istore_n 2, 1) := by decide +kernel
theorem dX7_piecesThatAre_2 : decode cX7_piecesThatAre 2 = .ok (.iconst 0, 1) := by decide +kernel
theorem dX7_piecesThatAre_3 : decode cX7_piecesThatAre 3 = .ok (.istore_n 3, 1) := by decide +kernel
theorem dX7_piecesThatAre_4 : decode cX7_piecesThatAre 4 = .ok (.iload_n 3, 1) := by decide +kernel
theorem dX7_piecesThatAre_5 : decode cX7_piecesThatAre 5 = .ok (.aload_n 0, 1) := by decide +kernel
theorem dX7_piecesThatAre_6 : decode cX7_piecesThatAre 6 = .ok (.getfield 7, 3) := by decide +kernel
theorem dX7_piecesThatAre_9 : decode cX7_piecesThatAre 9 = .ok (.iconst 1, 1) := by decide +kernel
theorem dX7_piecesThatAre_10 : decode cX7_piecesThatAre 10 = .ok (.iaload, 1) := by decide +kernel
theorem dX7_piecesThatAre_11 : decode cX7_piecesThatAre 11 = .ok (.if_icmp .ge 31, 3) := by decide +kernel
theorem dX7_piecesThatAre_14 : decode cX7_piecesThatAre 14 = .ok (.iload_n 2, 1) := by decide +kernel
theorem dX7_piecesThatAre_15 : decode cX7_piecesThatAre 15 = .ok (.aload_n 0, 1) := by decide +kernel
theorem dX7_piecesThatAre_16 : decode cX7_piecesThatAre 16 = .ok (.getfield 7, 3) := by decide +kernel
theorem dX7_piecesThatAre_19 : decode cX7_piecesThatAre 19 = .ok (.iload_n 3, 1) := by decide +kernel
theorem dX7_piecesThatAre_20 : decode cX7_piecesThatAre 20 = .ok (.iconst 3, 1) := by decide +kernel
theorem dX7_piecesThatAre_21 : decode cX7_piecesThatAre 21 = .ok (.invokestatic 85, 3) := by decide +kernel
theorem dX7_piecesThatAre_24 : decode cX7_piecesThatAre 24 = .ok (.iaload, 1) := by decide +kernel
theorem dX7_piecesThatAre_25 : decode cX7_piecesThatAre 25 = .ok (.iload_n 1, 1) := by decide +kernel
theorem dX7_piecesThatAre_26 : decode cX7_piecesThatAre 26 = .ok (.if_icmp .ne 7, 3) := by decide +kernel
theorem dX7_piecesThatAre_29 : decode cX7_piecesThatAre 29 = .ok (.iconst 1, 1) := by decide +kernel
theorem dX7_piecesThatAre_30 : decode cX7_piecesThatAre 30 = .ok (.goto 4, 3) := by decide +kernel
theorem dX7_piecesThatAre_33 : decode cX7_piecesThatAre 33 = .ok (.iconst 0, 1) := by decide +kernel
theorem dX7_piecesThatAre_34 : decode cX7_piecesThatAre 34 = .ok (.iadd, 1) := by decide +kernel
theorem dX7_piecesThatAre_35 : decode cX7_piecesThatAre 35 = .ok (.istore_n 2, 1) := by decide +kernel
theorem dX7_piecesThatAre_36 : decode cX7_piecesThatAre 36 = .ok (.iinc 3 1, 3) := by decide +kernel
theorem dX7_piecesThatAre_39 : decode cX7_piecesThatAre 39 = .ok (.goto (-35), 3) := by decide +kernel
theorem dX7_piecesThatAre_42 : decode cX7_piecesThatAre 42 = .ok (.iload_n 2, 1) := by decide +kernel
theorem dX7_piecesThatAre_43 : decode cX7_piecesThatAre 43 = .ok (.ireturn, 1) := by decide +kernel
theorem dX7_squaresOfPieces_0 : decode cX7_squaresOfPieces 0 = .ok (.iconst 0, 1) := by decide +kernel
theorem dX7_squaresOfPieces_1 : decode cX7_squaresOfPieces 1 = .ok (.istore_n 1, 1) := by decide +kernel
theorem dX7_squaresOfPieces_2 : decode cX7_squaresOfPieces 2 = .ok (.iconst 0, 1) := by decide +kernel
theorem dX7_squaresOfPieces_3 : decode cX7_squaresOfPieces 3 = .ok (.istore_n 2, 1) := by decide +kernel
theorem dX7_squaresOfPieces_4 : decode cX7_squaresOfPieces 4 = .ok (.iload_n 2, 1) := by decide +kernel
theorem dX7_squaresOfPieces_5 : decode cX7_squaresOfPieces 5 = .ok (.aload_n 0, 1) := by decide +kernel
theorem dX7_squaresOfPieces_6 : decode cX7_squaresOfPieces 6 = .ok (.getfield 7, 3) := by decide +kernel
theorem dX7_squaresOfPieces_9 : decode cX7_squaresOfPieces 9 = .ok (.iconst 1, 1) := by decide +kernel
theorem dX7_squaresOfPieces_10 : decode cX7_squaresOfPieces 10 = .ok (.iaload, 1) := by decide +kernel
theorem dX7_squaresOfPieces_11 : decode cX7_squaresOfPieces 11 = .ok (.if_icmp .ge 44, 3) := by decide +kernel
theorem dX7_squaresOfPieces_14 : decode cX7_squaresOfPieces 14 = .ok (.iload_n 1, 1) := by decide +kernel
theorem dX7_squaresOfPieces_15 : decode cX7_squaresOfPieces 15 = .ok (.aload_n 0, 1) := by decide +kernel
theorem dX7_squaresOfPieces_16 : decode cX7_squaresOfPieces 16 = .ok (.getfield 7, 3) := by decide +kernel
theorem dX7_squaresOfPieces_19 : decode cX7_squaresOfPieces 19 = .ok (.iload_n 2, 1) := by decide +kernel
theorem dX7_squaresOfPieces_20 : decode cX7_squaresOfPieces 20 = .ok (.iconst 3, 1) := by decide +kernel
theorem dX7_squaresOfPieces_21 : decode cX7_squaresOfPieces 21 = .ok (.invokestatic 85, 3) := by decide +kernel
theorem dX7_squaresOfPieces_24 : decode cX7_squaresOfPieces 24 = .ok (.iaload, 1) := by decide +kernel
theorem dX7_squaresOfPieces_25 : decode cX7_squaresOfPieces 25 = .ok (.iconst 2, 1) := by decide +kernel
theorem dX7_squaresOfPieces_26 : decode cX7_squaresOfPieces 26 = .ok (.if_icmp .ne 7, 3) := by decide +kernel
theorem dX7_squaresOfPieces_29 : decode cX7_squaresOfPieces 29 = .ok (.iconst 0, 1) := by decide +kernel
theorem dX7_squaresOfPieces_30 : decode cX7_squaresOfPieces 30 = .ok (.goto 17, 3) := by decide +kernel
theorem dX7_squaresOfPieces_33 : decode cX7_squaresOfPieces 33 = .ok (.aload_n 0, 1) := by decide +kernel
theorem dX7_squaresOfPieces_34 : decode cX7_squaresOfPieces 34 = .ok (.aload_n 0, 1) := by decide +kernel
theorem dX7_squaresOfPieces_35 : decode cX7_squaresOfPieces 35 = .ok (.getfield 7, 3) := by decide +kernel
theorem dX7_squaresOfPieces_38 : decode cX7_squaresOfPieces 38 = .ok (.iload_n 2, 1) := by decide +kernel
theorem dX7_squaresOfPieces_39 : decode cX7_squaresOfPieces 39 = .ok (.iconst 0, 1) := by decide +kernel
theorem dX7_squaresOfPieces_40 : decode cX7_squaresOfPieces 40 = .ok (.invokestatic 85, 3) := by decide +kernel
theorem dX7_squaresOfPieces_43 : decode cX7_squaresOfPieces 43 = .ok (.iaload, 1) := by decide +kernel
theorem dX7_squaresOfPieces_44 : decode cX7_squaresOfPieces 44 = .ok (.invokevirtual 161, 3) := by decide +kernel
theorem dX7_squaresOfPieces_47 : decode cX7_squaresOfPieces 47 = .ok (.iadd, 1) := by decide +kernel
theorem dX7_squaresOfPieces_48 : decode cX7_squaresOfPieces 48 = .ok (.istore_n 1, 1) := by decide +kernel
theorem dX7_squaresOfPieces_49 : decode cX7_squaresOfPieces 49 = .ok (.iinc 2 1, 3) := by decide +kernel
theorem dX7_squaresOfPieces_52 : decode cX7_squaresOfPieces 52 = .ok (.goto (-48), 3) := by decide +kernel
theorem dX7_squaresOfPieces_55 : decode cX7_squaresOfPieces 55 = .ok (.iload_n 1, 1) := by decide +kernel
theorem dX7_squaresOfPieces_56 : decode cX7_squaresOfPieces 56 = .ok (.ireturn, 1) := by decide +kernel
theorem dX7_squaresOfSheets_0 : decode cX7_squaresOfSheets 0 = .ok (.iconst 0, 1) := by decide +kernel
theorem dX7_squaresOfSheets_1 : decode cX7_squaresOfSheets 1 = .ok (.istore_n 1, 1) := by decide +kernel
theorem dX7_squaresOfSheets_2 : decode cX7_squaresOfSheets 2 = .ok (.iconst 0, 1) := by decide +kernel
theorem dX7_squaresOfSheets_3 : decode cX7_squaresOfSheets 3 = .ok (.istore_n 2, 1) := by decide +kernel
theorem dX7_squaresOfSheets_4 : decode cX7_squaresOfSheets 4 = .ok (.iload_n 2, 1) := by decide +kernel
theorem dX7_squaresOfSheets_5 : decode cX7_squaresOfSheets 5 = .ok (.aload_n 0, 1) := by decide +kernel
theorem dX7_squaresOfSheets_6 : decode cX7_squaresOfSheets 6 = .ok (.getfield 7, 3) := by decide +kernel
theorem dX7_squaresOfSheets_9 : decode cX7_squaresOfSheets 9 = .ok (.iconst 0, 1) := by decide +kernel
theorem dX7_squaresOfSheets_10 : decode cX7_squaresOfSheets 10 = .ok (.iaload, 1) := by decide +kernel
theorem dX7_squaresOfSheets_11 : decode cX7_squaresOfSheets 11 = .ok (.if_icmp .ge 35, 3) := by decide +kernel
theorem dX7_squaresOfSheets_14 : decode cX7_squaresOfSheets 14 = .ok (.iload_n 1, 1) := by decide +kernel
theorem dX7_squaresOfSheets_15 : decode cX7_squaresOfSheets 15 = .ok (.aload_n 0, 1) := by decide +kernel
theorem dX7_squaresOfSheets_16 : decode cX7_squaresOfSheets 16 = .ok (.getfield 7, 3) := by decide +kernel
theorem dX7_squaresOfSheets_19 : decode cX7_squaresOfSheets 19 = .ok (.iload_n 2, 1) := by decide +kernel
theorem dX7_squaresOfSheets_20 : decode cX7_squaresOfSheets 20 = .ok (.iconst 1, 1) := by decide +kernel
theorem dX7_squaresOfSheets_21 : decode cX7_squaresOfSheets 21 = .ok (.invokestatic 70, 3) := by decide +kernel
theorem dX7_squaresOfSheets_24 : decode cX7_squaresOfSheets 24 = .ok (.iaload, 1) := by decide +kernel
theorem dX7_squaresOfSheets_25 : decode cX7_squaresOfSheets 25 = .ok (.iconst 1, 1) := by decide +kernel
theorem dX7_squaresOfSheets_26 : decode cX7_squaresOfSheets 26 = .ok (.if_icmp .ne 7, 3) := by decide +kernel
theorem dX7_squaresOfSheets_29 : decode cX7_squaresOfSheets 29 = .ok (.iconst 0, 1) := by decide +kernel
theorem dX7_squaresOfSheets_30 : decode cX7_squaresOfSheets 30 = .ok (.goto 8, 3) := by decide +kernel
theorem dX7_squaresOfSheets_33 : decode cX7_squaresOfSheets 33 = .ok (.aload_n 0, 1) := by decide +kernel
theorem dX7_squaresOfSheets_34 : decode cX7_squaresOfSheets 34 = .ok (.iload_n 2, 1) := by decide +kernel
theorem dX7_squaresOfSheets_35 : decode cX7_squaresOfSheets 35 = .ok (.invokevirtual 164, 3) := by decide +kernel
theorem dX7_squaresOfSheets_38 : decode cX7_squaresOfSheets 38 = .ok (.iadd, 1) := by decide +kernel
theorem dX7_squaresOfSheets_39 : decode cX7_squaresOfSheets 39 = .ok (.istore_n 1, 1) := by decide +kernel
theorem dX7_squaresOfSheets_40 : decode cX7_squaresOfSheets 40 = .ok (.iinc 2 1, 3) := by decide +kernel
theorem dX7_squaresOfSheets_43 : decode cX7_squaresOfSheets 43 = .ok (.goto (-39), 3) := by decide +kernel
theorem dX7_squaresOfSheets_46 : decode cX7_squaresOfSheets 46 = .ok (.iload_n 1, 1) := by decide +kernel
theorem dX7_squaresOfSheets_47 : decode cX7_squaresOfSheets 47 = .ok (.ireturn, 1) := by decide +kernel
theorem dX7_count_0 : decode cX7_count 0 = .ok (.iload_n 1, 1) := by decide +kernel
theorem dX7_count_1 : decode cX7_count 1 = .ok (.tableswitch 97 0 9 #[55, 55, 62, 62, 62, 70, 77, 82, 87, 92], 55) := by decide +kernel
theorem dX7_count_56 : decode cX7_count 56 = .ok (.aload_n 0, 1) := by decide +kernel
theorem dX7_count_57 : decode cX7_count 57 = .ok (.getfield 7, 3) := by decide +kernel
theorem dX7_count_60 : decode cX7_count 60 = .ok (.iload_n 1, 1) := by decide +kernel
theorem dX7_count_61 : decode cX7_count 61 = .ok (.iaload, 1) := by decide +kernel
theorem dX7_count_62 : decode cX7_count 62 = .ok (.ireturn, 1) := by decide +kernel
theorem dX7_count_63 : decode cX7_count 63 = .ok (.aload_n 0, 1) := by decide +kernel
theorem dX7_count_64 : decode cX7_count 64 = .ok (.iload_n 1, 1) := by decide +kernel
theorem dX7_count_65 : decode cX7_count 65 = .ok (.iconst 2, 1) := by decide +kernel
theorem dX7_count_66 : decode cX7_count 66 = .ok (.isub, 1) := by decide +kernel
theorem dX7_count_67 : decode cX7_count 67 = .ok (.invokevirtual 173, 3) := by decide +kernel
theorem dX7_count_70 : decode cX7_count 70 = .ok (.ireturn, 1) := by decide +kernel
theorem dX7_count_71 : decode cX7_count 71 = .ok (.aload_n 0, 1) := by decide +kernel
theorem dX7_count_72 : decode cX7_count 72 = .ok (.getfield 7, 3) := by decide +kernel
theorem dX7_count_75 : decode cX7_count 75 = .ok (.iconst 2, 1) := by decide +kernel
theorem dX7_count_76 : decode cX7_count 76 = .ok (.iaload, 1) := by decide +kernel
theorem dX7_count_77 : decode cX7_count 77 = .ok (.ireturn, 1) := by decide +kernel
theorem dX7_count_78 : decode cX7_count 78 = .ok (.aload_n 0, 1) := by decide +kernel
theorem dX7_count_79 : decode cX7_count 79 = .ok (.invokevirtual 176, 3) := by decide +kernel
theorem dX7_count_82 : decode cX7_count 82 = .ok (.ireturn, 1) := by decide +kernel
theorem dX7_count_83 : decode cX7_count 83 = .ok (.aload_n 0, 1) := by decide +kernel
theorem dX7_count_84 : decode cX7_count 84 = .ok (.invokevirtual 179, 3) := by decide +kernel
theorem dX7_count_87 : decode cX7_count 87 = .ok (.ireturn, 1) := by decide +kernel
theorem dX7_count_88 : decode cX7_count 88 = .ok (.aload_n 0, 1) := by decide +kernel
theorem dX7_count_89 : decode cX7_count 89 = .ok (.getfield 101, 3) := by decide +kernel
theorem dX7_count_92 : decode cX7_count 92 = .ok (.ireturn, 1) := by decide +kernel
theorem dX7_count_93 : decode cX7_count 93 = .ok (.aload_n 0, 1) := by decide +kernel
theorem dX7_count_94 : decode cX7_count 94 = .ok (.getfield 115, 3) := by decide +kernel
theorem dX7_count_97 : decode cX7_count 97 = .ok (.ireturn, 1) := by decide +kernel
theorem dX7_count_98 : decode cX7_count 98 = .ok (.bipush (-2), 2) := by decide +kernel
theorem dX7_count_100 : decode cX7_count 100 = .ok (.ireturn, 1) := by decide +kernel
theorem dX7_fit_0 : decode cX7_fit 0 = .ok (.aload_n 0, 1) := by decide +kernel
theorem dX7_fit_1 : decode cX7_fit 1 = .ok (.iload_n 1, 1) := by decide +kernel
theorem dX7_fit_2 : decode cX7_fit 2 = .ok (.invokevirtual 125, 3) := by decide +kernel
theorem dX7_fit_5 : decode cX7_fit 5 = .ok (.ifCond .eq 10, 3) := by decide +kernel
theorem dX7_fit_8 : decode cX7_fit 8 = .ok (.iload_n 2, 1) := by decide +kernel
theorem dX7_fit_9 : decode cX7_fit 9 = .ok (.invokestatic 128, 3) := by decide +kernel
theorem dX7_fit_12 : decode cX7_fit 12 = .ok (.ifCond .ne 5, 3) := by decide +kernel
theorem dX7_fit_15 : decode cX7_fit 15 = .ok (.iconst (-1), 1) := by decide +kernel
theorem dX7_fit_16 : decode cX7_fit 16 = .ok (.ireturn, 1) := by decide +kernel
theorem dX7_fit_17 : decode cX7_fit 17 = .ok (.iload_n 3, 1) := by decide +kernel
theorem dX7_fit_18 : decode cX7_fit 18 = .ok (.iconst 0, 1) := by decide +kernel
theorem dX7_fit_19 : decode cX7_fit 19 = .ok (.iconst 1, 1) := by decide +kernel
theorem dX7_fit_20 : decode cX7_fit 20 = .ok (.invokestatic 66, 3) := by decide +kernel
theorem dX7_fit_23 : decode cX7_fit 23 = .ok (.ifCond .eq 13, 3) := by decide +kernel
theorem dX7_fit_26 : decode cX7_fit 26 = .ok (.iload 4, 2) := by decide +kernel
theorem dX7_fit_28 : decode cX7_fit 28 = .ok (.iconst 0, 1) := by decide +kernel
theorem dX7_fit_29 : decode cX7_fit 29 = .ok (.iconst 2, 1) := by decide +kernel
theorem dX7_fit_30 : decode cX7_fit 30 = .ok (.invokestatic 66, 3) := by decide +kernel
theorem dX7_fit_33 : decode cX7_fit 33 = .ok (.ifCond .ne 6, 3) := by decide +kernel
theorem dX7_fit_36 : decode cX7_fit 36 = .ok (.bipush (-2), 2) := by decide +kernel
theorem dX7_fit_38 : decode cX7_fit 38 = .ok (.ireturn, 1) := by decide +kernel
theorem dX7_fit_39 : decode cX7_fit 39 = .ok (.aload_n 0, 1) := by decide +kernel
theorem dX7_fit_40 : decode cX7_fit 40 = .ok (.iload_n 1, 1) := by decide +kernel
theorem dX7_fit_41 : decode cX7_fit 41 = .ok (.iload_n 2, 1) := by decide +kernel
theorem dX7_fit_42 : decode cX7_fit 42 = .ok (.iload_n 3, 1) := by decide +kernel
theorem dX7_fit_43 : decode cX7_fit 43 = .ok (.invokevirtual 78, 3) := by decide +kernel
theorem dX7_fit_46 : decode cX7_fit 46 = .ok (.ifCond .eq 13, 3) := by decide +kernel
theorem dX7_fit_49 : decode cX7_fit 49 = .ok (.aload_n 0, 1) := by decide +kernel
theorem dX7_fit_50 : decode cX7_fit 50 = .ok (.getfield 32, 3) := by decide +kernel
theorem dX7_fit_53 : decode cX7_fit 53 = .ok (.iload 4, 2) := by decide +kernel
theorem dX7_fit_55 : decode cX7_fit 55 = .ok (.iaload, 1) := by decide +kernel
theorem dX7_fit_56 : decode cX7_fit 56 = .ok (.goto 5, 3) := by decide +kernel
theorem dX7_fit_59 : decode cX7_fit 59 = .ok (.bipush (-6), 2) := by decide +kernel
theorem dX7_fit_61 : decode cX7_fit 61 = .ok (.ireturn, 1) := by decide +kernel
theorem dX7_manyOf_0 : decode cX7_manyOf 0 = .ok (.aload_n 0, 1) := by decide +kernel
theorem dX7_manyOf_1 : decode cX7_manyOf 1 = .ok (.iload_n 1, 1) := by decide +kernel
theorem dX7_manyOf_2 : decode cX7_manyOf 2 = .ok (.invokevirtual 125, 3) := by decide +kernel
theorem dX7_manyOf_5 : decode cX7_manyOf 5 = .ok (.ifCond .eq 10, 3) := by decide +kernel
theorem dX7_manyOf_8 : decode cX7_manyOf 8 = .ok (.iload_n 2, 1) := by decide +kernel
theorem dX7_manyOf_9 : decode cX7_manyOf 9 = .ok (.invokestatic 128, 3) := by decide +kernel
theorem dX7_manyOf_12 : decode cX7_manyOf 12 = .ok (.ifCond .ne 5, 3) := by decide +kernel
theorem dX7_manyOf_15 : decode cX7_manyOf 15 = .ok (.iconst (-1), 1) := by decide +kernel
theorem dX7_manyOf_16 : decode cX7_manyOf 16 = .ok (.ireturn, 1) := by decide +kernel
theorem dX7_manyOf_17 : decode cX7_manyOf 17 = .ok (.iload_n 3, 1) := by decide +kernel
theorem dX7_manyOf_18 : decode cX7_manyOf 18 = .ok (.iconst 0, 1) := by decide +kernel
theorem dX7_manyOf_19 : decode cX7_manyOf 19 = .ok (.iconst 1, 1) := by decide +kernel
theorem dX7_manyOf_20 : decode cX7_manyOf 20 = .ok (.invokestatic 66, 3) := by decide +kernel
theorem dX7_manyOf_23 : decode cX7_manyOf 23 = .ok (.ifCond .ne 6, 3) := by decide +kernel
theorem dX7_manyOf_26 : decode cX7_manyOf 26 = .ok (.bipush (-2), 2) := by decide +kernel
theorem dX7_manyOf_28 : decode cX7_manyOf 28 = .ok (.ireturn, 1) := by decide +kernel
theorem dX7_manyOf_29 : decode cX7_manyOf 29 = .ok (.aload_n 0, 1) := by decide +kernel
theorem dX7_manyOf_30 : decode cX7_manyOf 30 = .ok (.invokevirtual 131, 3) := by decide +kernel
theorem dX7_manyOf_33 : decode cX7_manyOf 33 = .ok (.iconst 0, 1) := by decide +kernel
theorem dX7_manyOf_34 : decode cX7_manyOf 34 = .ok (.istore 4, 2) := by decide +kernel
theorem dX7_manyOf_36 : decode cX7_manyOf 36 = .ok (.aload_n 0, 1) := by decide +kernel
theorem dX7_manyOf_37 : decode cX7_manyOf 37 = .ok (.iload_n 1, 1) := by decide +kernel
theorem dX7_manyOf_38 : decode cX7_manyOf 38 = .ok (.iload_n 2, 1) := by decide +kernel
theorem dX7_manyOf_39 : decode cX7_manyOf 39 = .ok (.iload_n 3, 1) := by decide +kernel
theorem dX7_manyOf_40 : decode cX7_manyOf 40 = .ok (.invokevirtual 78, 3) := by decide +kernel
theorem dX7_manyOf_43 : decode cX7_manyOf 43 = .ok (.ifCond .eq 33, 3) := by decide +kernel
theorem dX7_manyOf_46 : decode cX7_manyOf 46 = .ok (.aload_n 0, 1) := by decide +kernel
theorem dX7_manyOf_47 : decode cX7_manyOf 47 = .ok (.iload_n 1, 1) := by decide +kernel
theorem dX7_manyOf_48 : decode cX7_manyOf 48 = .ok (.iload_n 2, 1) := by decide +kernel
theorem dX7_manyOf_49 : decode cX7_manyOf 49 = .ok (.aload_n 0, 1) := by decide +kernel
theorem dX7_manyOf_50 : decode cX7_manyOf 50 = .ok (.getfield 32, 3) := by decide +kernel
theorem dX7_manyOf_53 : decode cX7_manyOf 53 = .ok (.iconst 0, 1) := by decide +kernel
theorem dX7_manyOf_54 : decode cX7_manyOf 54 = .ok (.iaload, 1) := by decide +kernel
theorem dX7_manyOf_55 : decode cX7_manyOf 55 = .ok (.aload_n 0, 1) := by decide +kernel
theorem dX7_manyOf_56 : decode cX7_manyOf 56 = .ok (.getfield 32, 3) := by decide +kernel
theorem dX7_manyOf_59 : decode cX7_manyOf 59 = .ok (.iconst 1, 1) := by decide +kernel
theorem dX7_manyOf_60 : decode cX7_manyOf 60 = .ok (.iaload, 1) := by decide +kernel
theorem dX7_manyOf_61 : decode cX7_manyOf 61 = .ok (.aload_n 0, 1) := by decide +kernel
theorem dX7_manyOf_62 : decode cX7_manyOf 62 = .ok (.getfield 32, 3) := by decide +kernel
theorem dX7_manyOf_65 : decode cX7_manyOf 65 = .ok (.iconst 2, 1) := by decide +kernel
theorem dX7_manyOf_66 : decode cX7_manyOf 66 = .ok (.iaload, 1) := by decide +kernel
theorem dX7_manyOf_67 : decode cX7_manyOf 67 = .ok (.invokevirtual 81, 3) := by decide +kernel
theorem dX7_manyOf_70 : decode cX7_manyOf 70 = .ok (.iinc 4 1, 3) := by decide +kernel
theorem dX7_manyOf_73 : decode cX7_manyOf 73 = .ok (.goto (-37), 3) := by decide +kernel
theorem dX7_manyOf_76 : decode cX7_manyOf 76 = .ok (.aload_n 0, 1) := by decide +kernel
theorem dX7_manyOf_77 : decode cX7_manyOf 77 = .ok (.invokevirtual 138, 3) := by decide +kernel
theorem dX7_manyOf_80 : decode cX7_manyOf 80 = .ok (.iload 4, 2) := by decide +kernel
theorem dX7_manyOf_82 : decode cX7_manyOf 82 = .ok (.ireturn, 1) := by decide +kernel
theorem dX7_fits_0 : decode cX7_fits 0 = .ok (.aload_n 0, 1) := by decide +kernel
theorem dX7_fits_1 : decode cX7_fits 1 = .ok (.iload_n 1, 1) := by decide +kernel
theorem dX7_fits_2 : decode cX7_fits 2 = .ok (.invokevirtual 125, 3) := by decide +kernel
theorem dX7_fits_5 : decode cX7_fits 5 = .ok (.ifCond .eq 10, 3) := by decide +kernel
theorem dX7_fits_8 : decode cX7_fits 8 = .ok (.iload_n 2, 1) := by decide +kernel
theorem dX7_fits_9 : decode cX7_fits 9 = .ok (.invokestatic 128, 3) := by decide +kernel
theorem dX7_fits_12 : decode cX7_fits 12 = .ok (.ifCond .ne 5, 3) := by decide +kernel
theorem dX7_fits_15 : decode cX7_fits 15 = .ok (.iconst (-1), 1) := by decide +kernel
theorem dX7_fits_16 : decode cX7_fits 16 = .ok (.ireturn, 1) := by decide +kernel
theorem dX7_fits_17 : decode cX7_fits 17 = .ok (.iconst 0, 1) := by decide +kernel
theorem dX7_fits_18 : decode cX7_fits 18 = .ok (.istore_n 3, 1) := by decide +kernel
theorem dX7_fits_19 : decode cX7_fits 19 = .ok (.iconst 0, 1) := by decide +kernel
theorem dX7_fits_20 : decode cX7_fits 20 = .ok (.istore 4, 2) := by decide +kernel
theorem dX7_fits_22 : decode cX7_fits 22 = .ok (.iload 4, 2) := by decide +kernel
theorem dX7_fits_24 : decode cX7_fits 24 = .ok (.sipush 1008, 3) := by decide +kernel
theorem dX7_fits_27 : decode cX7_fits 27 = .ok (.if_icmp .ge 47, 3) := by decide +kernel
theorem dX7_fits_30 : decode cX7_fits 30 = .ok (.iload_n 3, 1) := by decide +kernel
theorem dX7_fits_31 : decode cX7_fits 31 = .ok (.aload_n 0, 1) := by decide +kernel
theorem dX7_fits_32 : decode cX7_fits 32 = .ok (.iload_n 1, 1) := by decide +kernel
theorem dX7_fits_33 : decode cX7_fits 33 = .ok (.iload_n 2, 1) := by decide +kernel
theorem dX7_fits_34 : decode cX7_fits 34 = .ok (.iload 4, 2) := by decide +kernel
theorem dX7_fits_36 : decode cX7_fits 36 = .ok (.bipush 8, 2) := by decide +kernel
theorem dX7_fits_38 : decode cX7_fits 38 = .ok (.irem, 1) := by decide +kernel
theorem dX7_fits_39 : decode cX7_fits 39 = .ok (.iload 4, 2) := by decide +kernel
theorem dX7_fits_41 : decode cX7_fits 41 = .ok (.bipush 8, 2) := by decide +kernel
theorem dX7_fits_43 : decode cX7_fits 43 = .ok (.idiv, 1) := by decide +kernel
theorem dX7_fits_44 : decode cX7_fits 44 = .ok (.bipush 14, 2) := by decide +kernel
theorem dX7_fits_46 : decode cX7_fits 46 = .ok (.idiv, 1) := by decide +kernel
theorem dX7_fits_47 : decode cX7_fits 47 = .ok (.iload 4, 2) := by decide +kernel
theorem dX7_fits_49 : decode cX7_fits 49 = .ok (.bipush 8, 2) := by decide +kernel
theorem dX7_fits_51 : decode cX7_fits 51 = .ok (.idiv, 1) := by decide +kernel
theorem dX7_fits_52 : decode cX7_fits 52 = .ok (.bipush 14, 2) := by decide +kernel
theorem dX7_fits_54 : decode cX7_fits 54 = .ok (.irem, 1) := by decide +kernel
theorem dX7_fits_55 : decode cX7_fits 55 = .ok (.invokevirtual 74, 3) := by decide +kernel
theorem dX7_fits_58 : decode cX7_fits 58 = .ok (.ifCond .eq 7, 3) := by decide +kernel
theorem dX7_fits_61 : decode cX7_fits 61 = .ok (.iconst 1, 1) := by decide +kernel
theorem dX7_fits_62 : decode cX7_fits 62 = .ok (.goto 4, 3) := by decide +kernel
theorem dX7_fits_65 : decode cX7_fits 65 = .ok (.iconst 0, 1) := by decide +kernel
theorem dX7_fits_66 : decode cX7_fits 66 = .ok (.iadd, 1) := by decide +kernel
theorem dX7_fits_67 : decode cX7_fits 67 = .ok (.istore_n 3, 1) := by decide +kernel
theorem dX7_fits_68 : decode cX7_fits 68 = .ok (.iinc 4 1, 3) := by decide +kernel
theorem dX7_fits_71 : decode cX7_fits 71 = .ok (.goto (-49), 3) := by decide +kernel
theorem dX7_fits_74 : decode cX7_fits 74 = .ok (.iload_n 3, 1) := by decide +kernel
theorem dX7_fits_75 : decode cX7_fits 75 = .ok (.ireturn, 1) := by decide +kernel
theorem dX7_colours_0 : decode cX7_colours 0 = .ok (.iload_n 1, 1) := by decide +kernel
theorem dX7_colours_1 : decode cX7_colours 1 = .ok (.iload_n 2, 1) := by decide +kernel
theorem dX7_colours_2 : decode cX7_colours 2 = .ok (.invokestatic 141, 3) := by decide +kernel
theorem dX7_colours_5 : decode cX7_colours 5 = .ok (.ifCond .ne 5, 3) := by decide +kernel
theorem dX7_colours_8 : decode cX7_colours 8 = .ok (.iconst (-1), 1) := by decide +kernel
theorem dX7_colours_9 : decode cX7_colours 9 = .ok (.ireturn, 1) := by decide +kernel
theorem dX7_colours_10 : decode cX7_colours 10 = .ok (.aload_n 0, 1) := by decide +kernel
theorem dX7_colours_11 : decode cX7_colours 11 = .ok (.invokevirtual 145, 3) := by decide +kernel
theorem dX7_colours_14 : decode cX7_colours 14 = .ok (.bipush (-6), 2) := by decide +kernel
theorem dX7_colours_16 : decode cX7_colours 16 = .ok (.if_icmp .eq 6, 3) := by decide +kernel
theorem dX7_colours_19 : decode cX7_colours 19 = .ok (.bipush (-3), 2) := by decide +kernel
theorem dX7_colours_21 : decode cX7_colours 21 = .ok (.ireturn, 1) := by decide +kernel
theorem dX7_colours_22 : decode cX7_colours 22 = .ok (.iload_n 3, 1) := by decide +kernel
theorem dX7_colours_23 : decode cX7_colours 23 = .ok (.iconst 0, 1) := by decide +kernel
theorem dX7_colours_24 : decode cX7_colours 24 = .ok (.iconst 1, 1) := by decide +kernel
theorem dX7_colours_25 : decode cX7_colours 25 = .ok (.invokestatic 66, 3) := by decide +kernel
theorem dX7_colours_28 : decode cX7_colours 28 = .ok (.ifCond .ne 6, 3) := by decide +kernel
theorem dX7_colours_31 : decode cX7_colours 31 = .ok (.bipush (-2), 2) := by decide +kernel
theorem dX7_colours_33 : decode cX7_colours 33 = .ok (.ireturn, 1) := by decide +kernel
theorem dX7_colours_34 : decode cX7_colours 34 = .ok (.iconst 0, 1) := by decide +kernel
theorem dX7_colours_35 : decode cX7_colours 35 = .ok (.istore 4, 2) := by decide +kernel
theorem dX7_colours_37 : decode cX7_colours 37 = .ok (.iconst 1, 1) := by decide +kernel
theorem dX7_colours_38 : decode cX7_colours 38 = .ok (.istore 5, 2) := by decide +kernel
theorem dX7_colours_40 : decode cX7_colours 40 = .ok (.iload 5, 2) := by decide +kernel
theorem dX7_colours_42 : decode cX7_colours 42 = .ok (.iconst 4, 1) := by decide +kernel
theorem dX7_colours_43 : decode cX7_colours 43 = .ok (.if_icmp .gt 34, 3) := by decide +kernel
theorem dX7_colours_46 : decode cX7_colours 46 = .ok (.iload 4, 2) := by decide +kernel
theorem dX7_colours_48 : decode cX7_colours 48 = .ok (.aload_n 0, 1) := by decide +kernel
theorem dX7_colours_49 : decode cX7_colours 49 = .ok (.iload_n 1, 1) := by decide +kernel
theorem dX7_colours_50 : decode cX7_colours 50 = .ok (.iload_n 2, 1) := by decide +kernel
theorem dX7_colours_51 : decode cX7_colours 51 = .ok (.iload 5, 2) := by decide +kernel
theorem dX7_colours_53 : decode cX7_colours 53 = .ok (.iload_n 3, 1) := by decide +kernel
theorem dX7_colours_54 : decode cX7_colours 54 = .ok (.invokevirtual 149, 3) := by decide +kernel
theorem dX7_colours_57 : decode cX7_colours 57 = .ok (.ifCond .eq 10, 3) := by decide +kernel
theorem dX7_colours_60 : decode cX7_colours 60 = .ok (.iconst 1, 1) := by decide +kernel
theorem dX7_colours_61 : decode cX7_colours 61 = .ok (.iload 5, 2) := by decide +kernel
theorem dX7_colours_63 : decode cX7_colours 63 = .ok (.ishl, 1) := by decide +kernel
theorem dX7_colours_64 : decode cX7_colours 64 = .ok (.goto 4, 3) := by decide +kernel
theorem dX7_colours_67 : decode cX7_colours 67 = .ok (.iconst 0, 1) := by decide +kernel
theorem dX7_colours_68 : decode cX7_colours 68 = .ok (.ior, 1) := by decide +kernel
theorem dX7_colours_69 : decode cX7_colours 69 = .ok (.istore 4, 2) := by decide +kernel
theorem dX7_colours_71 : decode cX7_colours 71 = .ok (.iinc 5 1, 3) := by decide +kernel
theorem dX7_colours_74 : decode cX7_colours 74 = .ok (.goto (-34), 3) := by decide +kernel
theorem dX7_colours_77 : decode cX7_colours 77 = .ok (.iload 4, 2) := by decide +kernel
theorem dX7_colours_79 : decode cX7_colours 79 = .ok (.ireturn, 1) := by decide +kernel
theorem dX7_put_0 : decode cX7_put 0 = .ok (.iconst 0, 1) := by decide +kernel
theorem dX7_put_1 : decode cX7_put 1 = .ok (.istore_n 3, 1) := by decide +kernel
theorem dX7_put_2 : decode cX7_put 2 = .ok (.iconst 0, 1) := by decide +kernel
theorem dX7_put_3 : decode cX7_put 3 = .ok (.istore 4, 2) := by decide +kernel
theorem dX7_put_5 : decode cX7_put 5 = .ok (.iconst 0, 1) := by decide +kernel
theorem dX7_put_6 : decode cX7_put 6 = .ok (.istore 5, 2) := by decide +kernel
theorem dX7_put_8 : decode cX7_put 8 = .ok (.iload 5, 2) := by decide +kernel
theorem dX7_put_10 : decode cX7_put 10 = .ok (.bipush 8, 2) := by decide +kernel
theorem dX7_put_12 : decode cX7_put 12 = .ok (.if_icmp .ge 89, 3) := by decide +kernel
theorem dX7_put_15 : decode cX7_put 15 = .ok (.lload_n 1, 1) := by decide +kernel
theorem dX7_put_16 : decode cX7_put 16 = .ok (.bipush 8, 2) := by decide +kernel
theorem dX7_put_18 : decode cX7_put 18 = .ok (.iload 5, 2) := by decide +kernel
theorem dX7_put_20 : decode cX7_put 20 = .ok (.imul, 1) := by decide +kernel
theorem dX7_put_21 : decode cX7_put 21 = .ok (.lushr, 1) := by decide +kernel
theorem dX7_put_22 : decode cX7_put 22 = .ok (.ldc2_w 182, 3) := by decide +kernel
theorem dX7_put_25 : decode cX7_put 25 = .ok (.land, 1) := by decide +kernel
theorem dX7_put_26 : decode cX7_put 26 = .ok (.l2i, 1) := by decide +kernel
theorem dX7_put_27 : decode cX7_put 27 = .ok (.istore 6, 2) := by decide +kernel
theorem dX7_put_29 : decode cX7_put 29 = .ok (.iload 5, 2) := by decide +kernel
theorem dX7_put_31 : decode cX7_put 31 = .ok (.ifCond .le 19, 3) := by decide +kernel
theorem dX7_put_34 : decode cX7_put 34 = .ok (.lload_n 1, 1) := by decide +kernel
theorem dX7_put_35 : decode cX7_put 35 = .ok (.bipush 8, 2) := by decide +kernel
theorem dX7_put_37 : decode cX7_put 37 = .ok (.iload 5, 2) := by decide +kernel
theorem dX7_put_39 : decode cX7_put 39 = .ok (.imul, 1) := by decide +kernel
theorem dX7_put_40 : decode cX7_put 40 = .ok (.lushr, 1) := by decide +kernel
theorem dX7_put_41 : decode cX7_put 41 = .ok (.lconst 0, 1) := by decide +kernel
theorem dX7_put_42 : decode cX7_put 42 = .ok (.lcmp, 1) := by decide +kernel
theorem dX7_put_43 : decode cX7_put 43 = .ok (.ifCond .ne 7, 3) := by decide +kernel
theorem dX7_put_46 : decode cX7_put 46 = .ok (.iconst 1, 1) := by decide +kernel
theorem dX7_put_47 : decode cX7_put 47 = .ok (.goto 4, 3) := by decide +kernel
theorem dX7_put_50 : decode cX7_put 50 = .ok (.iconst 0, 1) := by decide +kernel
theorem dX7_put_51 : decode cX7_put 51 = .ok (.istore 7, 2) := by decide +kernel
theorem dX7_put_53 : decode cX7_put 53 = .ok (.iload 4, 2) := by decide +kernel
theorem dX7_put_55 : decode cX7_put 55 = .ok (.ifCond .ne 20, 3) := by decide +kernel
theorem dX7_put_58 : decode cX7_put 58 = .ok (.iload 7, 2) := by decide +kernel
theorem dX7_put_60 : decode cX7_put 60 = .ok (.ifCond .ne 19, 3) := by decide +kernel
theorem dX7_put_63 : decode cX7_put 63 = .ok (.iload 6, 2) := by decide +kernel
theorem dX7_put_65 : decode cX7_put 65 = .ok (.bipush 33, 2) := by decide +kernel
theorem dX7_put_67 : decode cX7_put 67 = .ok (.bipush 126, 2) := by decide +kernel
theorem dX7_put_69 : decode cX7_put 69 = .ok (.invokestatic 66, 3) := by decide +kernel
theorem dX7_put_72 : decode cX7_put 72 = .ok (.ifCond .ne 7, 3) := by decide +kernel
theorem dX7_put_75 : decode cX7_put 75 = .ok (.iconst 1, 1) := by decide +kernel
theorem dX7_put_76 : decode cX7_put 76 = .ok (.goto 4, 3) := by decide +kernel
theorem dX7_put_79 : decode cX7_put 79 = .ok (.iconst 0, 1) := by decide +kernel
theorem dX7_put_80 : decode cX7_put 80 = .ok (.istore 4, 2) := by decide +kernel
theorem dX7_put_82 : decode cX7_put 82 = .ok (.iload_n 3, 1) := by decide +kernel
theorem dX7_put_83 : decode cX7_put 83 = .ok (.iload 7, 2) := by decide +kernel
theorem dX7_put_85 : decode cX7_put 85 = .ok (.ifCond .eq 7, 3) := by decide +kernel
theorem dX7_put_88 : decode cX7_put 88 = .ok (.iconst 0, 1) := by decide +kernel
theorem dX7_put_89 : decode cX7_put 89 = .ok (.goto 4, 3) := by decide +kernel
theorem dX7_put_92 : decode cX7_put 92 = .ok (.iconst 1, 1) := by decide +kernel
theorem dX7_put_93 : decode cX7_put 93 = .ok (.iadd, 1) := by decide +kernel
theorem dX7_put_94 : decode cX7_put 94 = .ok (.istore_n 3, 1) := by decide +kernel
theorem dX7_put_95 : decode cX7_put 95 = .ok (.iinc 5 1, 3) := by decide +kernel
theorem dX7_put_98 : decode cX7_put 98 = .ok (.goto (-90), 3) := by decide +kernel
theorem dX7_put_101 : decode cX7_put 101 = .ok (.iload 4, 2) := by decide +kernel
theorem dX7_put_103 : decode cX7_put 103 = .ok (.ifCond .eq 6, 3) := by decide +kernel
theorem dX7_put_106 : decode cX7_put 106 = .ok (.bipush (-2), 2) := by decide +kernel
theorem dX7_put_108 : decode cX7_put 108 = .ok (.ireturn, 1) := by decide +kernel
theorem dX7_put_109 : decode cX7_put 109 = .ok (.aload_n 0, 1) := by decide +kernel
theorem dX7_put_110 : decode cX7_put 110 = .ok (.getfield 101, 3) := by decide +kernel
theorem dX7_put_113 : decode cX7_put 113 = .ok (.iload_n 3, 1) := by decide +kernel
theorem dX7_put_114 : decode cX7_put 114 = .ok (.iadd, 1) := by decide +kernel
theorem dX7_put_115 : decode cX7_put 115 = .ok (.bipush 80, 2) := by decide +kernel
theorem dX7_put_117 : decode cX7_put 117 = .ok (.if_icmp .le 6, 3) := by decide +kernel
theorem dX7_put_120 : decode cX7_put 120 = .ok (.bipush (-4), 2) := by decide +kernel
theorem dX7_put_122 : decode cX7_put 122 = .ok (.ireturn, 1) := by decide +kernel
theorem dX7_put_123 : decode cX7_put 123 = .ok (.iconst 0, 1) := by decide +kernel
theorem dX7_put_124 : decode cX7_put 124 = .ok (.istore 5, 2) := by decide +kernel
theorem dX7_put_126 : decode cX7_put 126 = .ok (.iload 5, 2) := by decide +kernel
theorem dX7_put_128 : decode cX7_put 128 = .ok (.iload_n 3, 1) := by decide +kernel
theorem dX7_put_129 : decode cX7_put 129 = .ok (.if_icmp .ge 37, 3) := by decide +kernel
theorem dX7_put_132 : decode cX7_put 132 = .ok (.aload_n 0, 1) := by decide +kernel
theorem dX7_put_133 : decode cX7_put 133 = .ok (.getfield 26, 3) := by decide +kernel
theorem dX7_put_136 : decode cX7_put 136 = .ok (.aload_n 0, 1) := by decide +kernel
theorem dX7_put_137 : decode cX7_put 137 = .ok (.getfield 101, 3) := by decide +kernel
theorem dX7_put_140 : decode cX7_put 140 = .ok (.iload_n 3, 1) := by decide +kernel
theorem dX7_put_141 : decode cX7_put 141 = .ok (.iadd, 1) := by decide +kernel
theorem dX7_put_142 : decode cX7_put 142 = .ok (.iconst 1, 1) := by decide +kernel
theorem dX7_put_143 : decode cX7_put 143 = .ok (.isub, 1) := by decide +kernel
theorem dX7_put_144 : decode cX7_put 144 = .ok (.iload 5, 2) := by decide +kernel
theorem dX7_put_146 : decode cX7_put 146 = .ok (.isub, 1) := by decide +kernel
theorem dX7_put_147 : decode cX7_put 147 = .ok (.lload_n 1, 1) := by decide +kernel
theorem dX7_put_148 : decode cX7_put 148 = .ok (.bipush 8, 2) := by decide +kernel
theorem dX7_put_150 : decode cX7_put 150 = .ok (.iload 5, 2) := by decide +kernel
theorem dX7_put_152 : decode cX7_put 152 = .ok (.imul, 1) := by decide +kernel
theorem dX7_put_153 : decode cX7_put 153 = .ok (.lushr, 1) := by decide +kernel
theorem dX7_put_154 : decode cX7_put 154 = .ok (.ldc2_w 182, 3) := by decide +kernel
theorem dX7_put_157 : decode cX7_put 157 = .ok (.land, 1) := by decide +kernel
theorem dX7_put_158 : decode cX7_put 158 = .ok (.l2i, 1) := by decide +kernel
theorem dX7_put_159 : decode cX7_put 159 = .ok (.iastore, 1) := by decide +kernel
theorem dX7_put_160 : decode cX7_put 160 = .ok (.iinc 5 1, 3) := by decide +kernel
theorem dX7_put_163 : decode cX7_put 163 = .ok (.goto (-37), 3) := by decide +kernel
theorem dX7_put_166 : decode cX7_put 166 = .ok (.aload_n 0, 1) := by decide +kernel
theorem dX7_put_167 : decode cX7_put 167 = .ok (.dup, 1) := by decide +kernel
theorem dX7_put_168 : decode cX7_put 168 = .ok (.getfield 101, 3) := by decide +kernel
theorem dX7_put_171 : decode cX7_put 171 = .ok (.iload_n 3, 1) := by decide +kernel
theorem dX7_put_172 : decode cX7_put 172 = .ok (.iadd, 1) := by decide +kernel
theorem dX7_put_173 : decode cX7_put 173 = .ok (.putfield 101, 3) := by decide +kernel
theorem dX7_put_176 : decode cX7_put 176 = .ok (.aload_n 0, 1) := by decide +kernel
theorem dX7_put_177 : decode cX7_put 177 = .ok (.getfield 101, 3) := by decide +kernel
theorem dX7_put_180 : decode cX7_put 180 = .ok (.ireturn, 1) := by decide +kernel
theorem dX7_wipe_0 : decode cX7_wipe 0 = .ok (.aload_n 0, 1) := by decide +kernel
theorem dX7_wipe_1 : decode cX7_wipe 1 = .ok (.getfield 101, 3) := by decide +kernel
theorem dX7_wipe_4 : decode cX7_wipe 4 = .ok (.istore_n 1, 1) := by decide +kernel
theorem dX7_wipe_5 : decode cX7_wipe 5 = .ok (.aload_n 0, 1) := by decide +kernel
theorem dX7_wipe_6 : decode cX7_wipe 6 = .ok (.iconst 0, 1) := by decide +kernel
theorem dX7_wipe_7 : decode cX7_wipe 7 = .ok (.putfield 101, 3) := by decide +kernel
theorem dX7_wipe_10 : decode cX7_wipe 10 = .ok (.iload_n 1, 1) := by decide +kernel
theorem dX7_wipe_11 : decode cX7_wipe 11 = .ok (.ireturn, 1) := by decide +kernel
theorem dX7_fault_0 : decode cX7_fault 0 = .ok (.aload_n 0, 1) := by decide +kernel
theorem dX7_fault_1 : decode cX7_fault 1 = .ok (.getfield 101, 3) := by decide +kernel
theorem dX7_fault_4 : decode cX7_fault 4 = .ok (.ifCond .ne 7, 3) := by decide +kernel
theorem dX7_fault_7 : decode cX7_fault 7 = .ok (.iconst 0, 1) := by decide +kernel
theorem dX7_fault_8 : decode cX7_fault 8 = .ok (.goto 5, 3) := by decide +kernel
theorem dX7_fault_11 : decode cX7_fault 11 = .ok (.bipush (-6), 2) := by decide +kernel
theorem dX7_fault_13 : decode cX7_fault 13 = .ok (.istore_n 1, 1) := by decide +kernel
theorem dX7_fault_14 : decode cX7_fault 14 = .ok (.aload_n 0, 1) := by decide +kernel
theorem dX7_fault_15 : decode cX7_fault 15 = .ok (.getfield 101, 3) := by decide +kernel
theorem dX7_fault_18 : decode cX7_fault 18 = .ok (.iconst 1, 1) := by decide +kernel
theorem dX7_fault_19 : decode cX7_fault 19 = .ok (.isub, 1) := by decide +kernel
theorem dX7_fault_20 : decode cX7_fault 20 = .ok (.istore_n 2, 1) := by decide +kernel
theorem dX7_fault_21 : decode cX7_fault 21 = .ok (.iload_n 2, 1) := by decide +kernel
theorem dX7_fault_22 : decode cX7_fault 22 = .ok (.ifCond .lt 35, 3) := by decide +kernel
theorem dX7_fault_25 : decode cX7_fault 25 = .ok (.iload_n 2, 1) := by decide +kernel
theorem dX7_fault_26 : decode cX7_fault 26 = .ok (.bipush 12, 2) := by decide +kernel
theorem dX7_fault_28 : decode cX7_fault 28 = .ok (.if_icmp .ge 17, 3) := by decide +kernel
theorem dX7_fault_31 : decode cX7_fault 31 = .ok (.aload_n 0, 1) := by decide +kernel
theorem dX7_fault_32 : decode cX7_fault 32 = .ok (.getfield 26, 3) := by decide +kernel
theorem dX7_fault_35 : decode cX7_fault 35 = .ok (.iload_n 2, 1) := by decide +kernel
theorem dX7_fault_36 : decode cX7_fault 36 = .ok (.iaload, 1) := by decide +kernel
theorem dX7_fault_37 : decode cX7_fault 37 = .ok (.invokestatic 105, 3) := by decide +kernel
theorem dX7_fault_40 : decode cX7_fault 40 = .ok (.bipush (-6), 2) := by decide +kernel
theorem dX7_fault_42 : decode cX7_fault 42 = .ok (.if_icmp .ne 7, 3) := by decide +kernel
theorem dX7_fault_45 : decode cX7_fault 45 = .ok (.iload_n 2, 1) := by decide +kernel
theorem dX7_fault_46 : decode cX7_fault 46 = .ok (.goto 4, 3) := by decide +kernel
theorem dX7_fault_49 : decode cX7_fault 49 = .ok (.iload_n 1, 1) := by decide +kernel
theorem dX7_fault_50 : decode cX7_fault 50 = .ok (.istore_n 1, 1) := by decide +kernel
theorem dX7_fault_51 : decode cX7_fault 51 = .ok (.iinc 2 (-1), 3) := by decide +kernel
theorem dX7_fault_54 : decode cX7_fault 54 = .ok (.goto (-33), 3) := by decide +kernel
theorem dX7_fault_57 : decode cX7_fault 57 = .ok (.iload_n 1, 1) := by decide +kernel
theorem dX7_fault_58 : decode cX7_fault 58 = .ok (.ireturn, 1) := by decide +kernel
theorem dX7_undo_0 : decode cX7_undo 0 = .ok (.aload_n 0, 1) := by decide +kernel
theorem dX7_undo_1 : decode cX7_undo 1 = .ok (.getfield 115, 3) := by decide +kernel
theorem dX7_undo_4 : decode cX7_undo 4 = .ok (.ifCond .ne 6, 3) := by decide +kernel
theorem dX7_undo_7 : decode cX7_undo 7 = .ok (.bipush (-5), 2) := by decide +kernel
theorem dX7_undo_9 : decode cX7_undo 9 = .ok (.ireturn, 1) := by decide +kernel
theorem dX7_undo_10 : decode cX7_undo 10 = .ok (.aload_n 0, 1) := by decide +kernel
theorem dX7_undo_11 : decode cX7_undo 11 = .ok (.dup, 1) := by decide +kernel
theorem dX7_undo_12 : decode cX7_undo 12 = .ok (.getfield 115, 3) := by decide +kernel
theorem dX7_undo_15 : decode cX7_undo 15 = .ok (.iconst 1, 1) := by decide +kernel
theorem dX7_undo_16 : decode cX7_undo 16 = .ok (.isub, 1) := by decide +kernel
theorem dX7_undo_17 : decode cX7_undo 17 = .ok (.putfield 115, 3) := by decide +kernel
theorem dX7_undo_20 : decode cX7_undo 20 = .ok (.iconst 0, 1) := by decide +kernel
theorem dX7_undo_21 : decode cX7_undo 21 = .ok (.istore_n 1, 1) := by decide +kernel
theorem dX7_undo_22 : decode cX7_undo 22 = .ok (.iload_n 1, 1) := by decide +kernel
theorem dX7_undo_23 : decode cX7_undo 23 = .ok (.sipush 453, 3) := by decide +kernel
theorem dX7_undo_26 : decode cX7_undo 26 = .ok (.if_icmp .ge 30, 3) := by decide +kernel
theorem dX7_undo_29 : decode cX7_undo 29 = .ok (.aload_n 0, 1) := by decide +kernel
theorem dX7_undo_30 : decode cX7_undo 30 = .ok (.getfield 7, 3) := by decide +kernel
theorem dX7_undo_33 : decode cX7_undo 33 = .ok (.iload_n 1, 1) := by decide +kernel
theorem dX7_undo_34 : decode cX7_undo 34 = .ok (.aload_n 0, 1) := by decide +kernel
theorem dX7_undo_35 : decode cX7_undo 35 = .ok (.getfield 16, 3) := by decide +kernel
theorem dX7_undo_38 : decode cX7_undo 38 = .ok (.sipush 453, 3) := by decide +kernel
theorem dX7_undo_41 : decode cX7_undo 41 = .ok (.aload_n 0, 1) := by decide +kernel
theorem dX7_undo_42 : decode cX7_undo 42 = .ok (.getfield 115, 3) := by decide +kernel
theorem dX7_undo_45 : decode cX7_undo 45 = .ok (.imul, 1) := by decide +kernel
theorem dX7_undo_46 : decode cX7_undo 46 = .ok (.iload_n 1, 1) := by decide +kernel
theorem dX7_undo_47 : decode cX7_undo 47 = .ok (.iadd, 1) := by decide +kernel
theorem dX7_undo_48 : decode cX7_undo 48 = .ok (.iaload, 1) := by decide +kernel
theorem dX7_undo_49 : decode cX7_undo 49 = .ok (.iastore, 1) := by decide +kernel
theorem dX7_undo_50 : decode cX7_undo 50 = .ok (.iinc 1 1, 3) := by decide +kernel
theorem dX7_undo_53 : decode cX7_undo 53 = .ok (.goto (-31), 3) := by decide +kernel
theorem dX7_undo_56 : decode cX7_undo 56 = .ok (.aload_n 0, 1) := by decide +kernel
theorem dX7_undo_57 : decode cX7_undo 57 = .ok (.getfield 115, 3) := by decide +kernel
theorem dX7_undo_60 : decode cX7_undo 60 = .ok (.ireturn, 1) := by decide +kernel
theorem dX7_save_0 : decode cX7_save 0 = .ok (.iload_n 1, 1) := by decide +kernel
theorem dX7_save_1 : decode cX7_save 1 = .ok (.iconst 0, 1) := by decide +kernel
theorem dX7_save_2 : decode cX7_save 2 = .ok (.iconst 1, 1) := by decide +kernel
theorem dX7_save_3 : decode cX7_save 3 = .ok (.invokestatic 66, 3) := by decide +kernel
theorem dX7_save_6 : decode cX7_save 6 = .ok (.ifCond .ne 6, 3) := by decide +kernel
theorem dX7_save_9 : decode cX7_save 9 = .ok (.bipush (-2), 2) := by decide +kernel
theorem dX7_save_11 : decode cX7_save 11 = .ok (.ireturn, 1) := by decide +kernel
theorem dX7_save_12 : decode cX7_save 12 = .ok (.iconst 0, 1) := by decide +kernel
theorem dX7_save_13 : decode cX7_save 13 = .ok (.istore_n 2, 1) := by decide +kernel
theorem dX7_save_14 : decode cX7_save 14 = .ok (.iload_n 2, 1) := by decide +kernel
theorem dX7_save_15 : decode cX7_save 15 = .ok (.sipush 453, 3) := by decide +kernel
theorem dX7_save_18 : decode cX7_save 18 = .ok (.if_icmp .ge 27, 3) := by decide +kernel
theorem dX7_save_21 : decode cX7_save 21 = .ok (.aload_n 0, 1) := by decide +kernel
theorem dX7_save_22 : decode cX7_save 22 = .ok (.getfield 19, 3) := by decide +kernel
theorem dX7_save_25 : decode cX7_save 25 = .ok (.sipush 453, 3) := by decide +kernel
theorem dX7_save_28 : decode cX7_save 28 = .ok (.iload_n 1, 1) := by decide +kernel
theorem dX7_save_29 : decode cX7_save 29 = .ok (.imul, 1) := by decide +kernel
theorem dX7_save_30 : decode cX7_save 30 = .ok (.iload_n 2, 1) := by decide +kernel
theorem dX7_save_31 : decode cX7_save 31 = .ok (.iadd, 1) := by decide +kernel
theorem dX7_save_32 : decode cX7_save 32 = .ok (.aload_n 0, 1) := by decide +kernel
theorem dX7_save_33 : decode cX7_save 33 = .ok (.getfield 7, 3) := by decide +kernel
theorem dX7_save_36 : decode cX7_save 36 = .ok (.iload_n 2, 1) := by decide +kernel
theorem dX7_save_37 : decode cX7_save 37 = .ok (.iaload, 1) := by decide +kernel
theorem dX7_save_38 : decode cX7_save 38 = .ok (.iastore, 1) := by decide +kernel
theorem dX7_save_39 : decode cX7_save 39 = .ok (.iinc 2 1, 3) := by decide +kernel
theorem dX7_save_42 : decode cX7_save 42 = .ok (.goto (-28), 3) := by decide +kernel
theorem dX7_save_45 : decode cX7_save 45 = .ok (.aload_n 0, 1) := by decide +kernel
theorem dX7_save_46 : decode cX7_save 46 = .ok (.getfield 22, 3) := by decide +kernel
theorem dX7_save_49 : decode cX7_save 49 = .ok (.iload_n 1, 1) := by decide +kernel
theorem dX7_save_50 : decode cX7_save 50 = .ok (.iconst 1, 1) := by decide +kernel
theorem dX7_save_51 : decode cX7_save 51 = .ok (.bastore, 1) := by decide +kernel
theorem dX7_save_52 : decode cX7_save 52 = .ok (.aload_n 0, 1) := by decide +kernel
theorem dX7_save_53 : decode cX7_save 53 = .ok (.getfield 7, 3) := by decide +kernel
theorem dX7_save_56 : decode cX7_save 56 = .ok (.iconst 1, 1) := by decide +kernel
theorem dX7_save_57 : decode cX7_save 57 = .ok (.iaload, 1) := by decide +kernel
theorem dX7_save_58 : decode cX7_save 58 = .ok (.ireturn, 1) := by decide +kernel
theorem dX7_restore_0 : decode cX7_restore 0 = .ok (.iload_n 1, 1) := by decide +kernel
theorem dX7_restore_1 : decode cX7_restore 1 = .ok (.iconst 0, 1) := by decide +kernel
theorem dX7_restore_2 : decode cX7_restore 2 = .ok (.iconst 1, 1) := by decide +kernel
theorem dX7_restore_3 : decode cX7_restore 3 = .ok (.invokestatic 66, 3) := by decide +kernel
theorem dX7_restore_6 : decode cX7_restore 6 = .ok (.ifCond .ne 6, 3) := by decide +kernel
theorem dX7_restore_9 : decode cX7_restore 9 = .ok (.bipush (-2), 2) := by decide +kernel
theorem dX7_restore_11 : decode cX7_restore 11 = .ok (.ireturn, 1) := by decide +kernel
theorem dX7_restore_12 : decode cX7_restore 12 = .ok (.aload_n 0, 1) := by decide +kernel
theorem dX7_restore_13 : decode cX7_restore 13 = .ok (.getfield 22, 3) := by decide +kernel
theorem dX7_restore_16 : decode cX7_restore 16 = .ok (.iload_n 1, 1) := by decide +kernel
theorem dX7_restore_17 : decode cX7_restore 17 = .ok (.baload, 1) := by decide +kernel
theorem dX7_restore_18 : decode cX7_restore 18 = .ok (.ifCond .ne 6, 3) := by decide +kernel
theorem dX7_restore_21 : decode cX7_restore 21 = .ok (.bipush (-5), 2) := by decide +kernel
theorem dX7_restore_23 : decode cX7_restore 23 = .ok (.ireturn, 1) := by decide +kernel
theorem dX7_restore_24 : decode cX7_restore 24 = .ok (.aload_n 0, 1) := by decide +kernel
theorem dX7_restore_25 : decode cX7_restore 25 = .ok (.invokevirtual 122, 3) := by decide +kernel
theorem dX7_restore_28 : decode cX7_restore 28 = .ok (.iconst 0, 1) := by decide +kernel
theorem dX7_restore_29 : decode cX7_restore 29 = .ok (.istore_n 2, 1) := by decide +kernel
theorem dX7_restore_30 : decode cX7_restore 30 = .ok (.iload_n 2, 1) := by decide +kernel
theorem dX7_restore_31 : decode cX7_restore 31 = .ok (.sipush 453, 3) := by decide +kernel
theorem dX7_restore_34 : decode cX7_restore 34 = .ok (.if_icmp .ge 27, 3) := by decide +kernel
theorem dX7_restore_37 : decode cX7_restore 37 = .ok (.aload_n 0, 1) := by decide +kernel
theorem dX7_restore_38 : decode cX7_restore 38 = .ok (.getfield 7, 3) := by decide +kernel
theorem dX7_restore_41 : decode cX7_restore 41 = .ok (.iload_n 2, 1) := by decide +kernel
theorem dX7_restore_42 : decode cX7_restore 42 = .ok (.aload_n 0, 1) := by decide +kernel
theorem dX7_restore_43 : decode cX7_restore 43 = .ok (.getfield 19, 3) := by decide +kernel
theorem dX7_restore_46 : decode cX7_restore 46 = .ok (.sipush 453, 3) := by decide +kernel
theorem dX7_restore_49 : decode cX7_restore 49 = .ok (.iload_n 1, 1) := by decide +kernel
theorem dX7_restore_50 : decode cX7_restore 50 = .ok (.imul, 1) := by decide +kernel
theorem dX7_restore_51 : decode cX7_restore 51 = .ok (.iload_n 2, 1) := by decide +kernel
theorem dX7_restore_52 : decode cX7_restore 52 = .ok (.iadd, 1) := by decide +kernel
theorem dX7_restore_53 : decode cX7_restore 53 = .ok (.iaload, 1) := by decide +kernel
theorem dX7_restore_54 : decode cX7_restore 54 = .ok (.iastore, 1) := by decide +kernel
theorem dX7_restore_55 : decode cX7_restore 55 = .ok (.iinc 2 1, 3) := by decide +kernel
theorem dX7_restore_58 : decode cX7_restore 58 = .ok (.goto (-28), 3) := by decide +kernel
theorem dX7_restore_61 : decode cX7_restore 61 = .ok (.aload_n 0, 1) := by decide +kernel
theorem dX7_restore_62 : decode cX7_restore 62 = .ok (.getfield 7, 3) := by decide +kernel
theorem dX7_restore_65 : decode cX7_restore 65 = .ok (.iconst 1, 1) := by decide +kernel
theorem dX7_restore_66 : decode cX7_restore 66 = .ok (.iaload, 1) := by decide +kernel
theorem dX7_restore_67 : decode cX7_restore 67 = .ok (.ireturn, 1) := by decide +kernel
