theorem dX0_init_0 : decode cX0_init 0 = .ok (.aload_n 0, 1) := by decide +kernel
theorem dX0_init_1 : decode cX0_init 1 = .ok (.invokespecial 3, 3) := by decide +kernel
theorem dX0_init_4 : decode cX0_init 4 = .ok (.aload_n 0, 1) := by decide +kernel
theorem dX0_init_5 : decode cX0_init 5 = .ok (.bipush 6, 2) := by decide +kernel
theorem dX0_init_7 : decode cX0_init 7 = .ok (.anewarray 9, 3) := by decide +kernel
theorem dX0_init_10 : decode cX0_init 10 = .ok (.putfield 11, 3) := by decide +kernel
theorem dX0_init_13 : decode cX0_init 13 = .ok (.aload_n 0, 1) := by decide +kernel
theorem dX0_init_14 : decode cX0_init 14 = .ok (.aload_n 1, 1) := by decide +kernel
theorem dX0_init_15 : decode cX0_init 15 = .ok (.putfield 17, 3) := by decide +kernel
theorem dX0_init_18 : decode cX0_init 18 = .ok (.return_, 1) := by decide +kernel
theorem dX0_record_0 : decode cX0_record 0 = .ok (.aload_n 0, 1) := by decide +kernel
theorem dX0_record_1 : decode cX0_record 1 = .ok (.getfield 21, 3) := by decide +kernel
theorem dX0_record_4 : decode cX0_record 4 = .ok (.aload_n 0, 1) := by decide +kernel
theorem dX0_record_5 : decode cX0_record 5 = .ok (.getfield 25, 3) := by decide +kernel
theorem dX0_record_8 : decode cX0_record 8 = .ok (.iadd, 1) := by decide +kernel
theorem dX0_record_9 : decode cX0_record 9 = .ok (.bipush 6, 2) := by decide +kernel
theorem dX0_record_11 : decode cX0_record 11 = .ok (.invokestatic 28, 3) := by decide +kernel
theorem dX0_record_14 : decode cX0_record 14 = .ok (.istore_n 2, 1) := by decide +kernel
theorem dX0_record_15 : decode cX0_record 15 = .ok (.aload_n 0, 1) := by decide +kernel
theorem dX0_record_16 : decode cX0_record 16 = .ok (.getfield 11, 3) := by decide +kernel
theorem dX0_record_19 : decode cX0_record 19 = .ok (.iload_n 2, 1) := by decide +kernel
theorem dX0_record_20 : decode cX0_record 20 = .ok (.aaload, 1) := by decide +kernel
theorem dX0_record_21 : decode cX0_record 21 = .ok (.astore_n 3, 1) := by decide +kernel
theorem dX0_record_22 : decode cX0_record 22 = .ok (.aload_n 3, 1) := by decide +kernel
theorem dX0_record_23 : decode cX0_record 23 = .ok (.ifnonnull 22, 3) := by decide +kernel
theorem dX0_record_26 : decode cX0_record 26 = .ok (.new 9, 3) := by decide +kernel
theorem dX0_record_29 : decode cX0_record 29 = .ok (.dup, 1) := by decide +kernel
theorem dX0_record_30 : decode cX0_record 30 = .ok (.aload_n 0, 1) := by decide +kernel
theorem dX0_record_31 : decode cX0_record 31 = .ok (.getfield 17, 3) := by decide +kernel
theorem dX0_record_34 : decode cX0_record 34 = .ok (.invokespecial 34, 3) := by decide +kernel
theorem dX0_record_37 : decode cX0_record 37 = .ok (.astore_n 3, 1) := by decide +kernel
theorem dX0_record_38 : decode cX0_record 38 = .ok (.aload_n 0, 1) := by decide +kernel
theorem dX0_record_39 : decode cX0_record 39 = .ok (.getfield 11, 3) := by decide +kernel
theorem dX0_record_42 : decode cX0_record 42 = .ok (.iload_n 2, 1) := by decide +kernel
theorem dX0_record_43 : decode cX0_record 43 = .ok (.aload_n 3, 1) := by decide +kernel
theorem dX0_record_44 : decode cX0_record 44 = .ok (.aastore, 1) := by decide +kernel
theorem dX0_record_45 : decode cX0_record 45 = .ok (.aload_n 3, 1) := by decide +kernel
theorem dX0_record_46 : decode cX0_record 46 = .ok (.aload_n 1, 1) := by decide +kernel
theorem dX0_record_47 : decode cX0_record 47 = .ok (.invokevirtual 37, 3) := by decide +kernel
theorem dX0_record_50 : decode cX0_record 50 = .ok (.aload_n 0, 1) := by decide +kernel
theorem dX0_record_51 : decode cX0_record 51 = .ok (.getfield 25, 3) := by decide +kernel
theorem dX0_record_54 : decode cX0_record 54 = .ok (.bipush 6, 2) := by decide +kernel
theorem dX0_record_56 : decode cX0_record 56 = .ok (.if_icmp .ge 16, 3) := by decide +kernel
theorem dX0_record_59 : decode cX0_record 59 = .ok (.aload_n 0, 1) := by decide +kernel
theorem dX0_record_60 : decode cX0_record 60 = .ok (.dup, 1) := by decide +kernel
theorem dX0_record_61 : decode cX0_record 61 = .ok (.getfield 25, 3) := by decide +kernel
theorem dX0_record_64 : decode cX0_record 64 = .ok (.iconst 1, 1) := by decide +kernel
theorem dX0_record_65 : decode cX0_record 65 = .ok (.iadd, 1) := by decide +kernel
theorem dX0_record_66 : decode cX0_record 66 = .ok (.putfield 25, 3) := by decide +kernel
theorem dX0_record_69 : decode cX0_record 69 = .ok (.goto 18, 3) := by decide +kernel
theorem dX0_record_72 : decode cX0_record 72 = .ok (.aload_n 0, 1) := by decide +kernel
theorem dX0_record_73 : decode cX0_record 73 = .ok (.aload_n 0, 1) := by decide +kernel
theorem dX0_record_74 : decode cX0_record 74 = .ok (.getfield 21, 3) := by decide +kernel
theorem dX0_record_77 : decode cX0_record 77 = .ok (.iconst 1, 1) := by decide +kernel
theorem dX0_record_78 : decode cX0_record 78 = .ok (.iadd, 1) := by decide +kernel
theorem dX0_record_79 : decode cX0_record 79 = .ok (.bipush 6, 2) := by decide +kernel
theorem dX0_record_81 : decode cX0_record 81 = .ok (.invokestatic 28, 3) := by decide +kernel
theorem dX0_record_84 : decode cX0_record 84 = .ok (.putfield 21, 3) := by decide +kernel
theorem dX0_record_87 : decode cX0_record 87 = .ok (.return_, 1) := by decide +kernel
theorem dX0_takeBack_0 : decode cX0_takeBack 0 = .ok (.aload_n 0, 1) := by decide +kernel
theorem dX0_takeBack_1 : decode cX0_takeBack 1 = .ok (.getfield 25, 3) := by decide +kernel
theorem dX0_takeBack_4 : decode cX0_takeBack 4 = .ok (.ifCond .gt 5, 3) := by decide +kernel
theorem dX0_takeBack_7 : decode cX0_takeBack 7 = .ok (.iconst 0, 1) := by decide +kernel
theorem dX0_takeBack_8 : decode cX0_takeBack 8 = .ok (.ireturn, 1) := by decide +kernel
theorem dX0_takeBack_9 : decode cX0_takeBack 9 = .ok (.aload_n 0, 1) := by decide +kernel
theorem dX0_takeBack_10 : decode cX0_takeBack 10 = .ok (.getfield 11, 3) := by decide +kernel
theorem dX0_takeBack_13 : decode cX0_takeBack 13 = .ok (.aload_n 0, 1) := by decide +kernel
theorem dX0_takeBack_14 : decode cX0_takeBack 14 = .ok (.getfield 21, 3) := by decide +kernel
theorem dX0_takeBack_17 : decode cX0_takeBack 17 = .ok (.aload_n 0, 1) := by decide +kernel
theorem dX0_takeBack_18 : decode cX0_takeBack 18 = .ok (.getfield 25, 3) := by decide +kernel
theorem dX0_takeBack_21 : decode cX0_takeBack 21 = .ok (.iadd, 1) := by decide +kernel
theorem dX0_takeBack_22 : decode cX0_takeBack 22 = .ok (.iconst 1, 1) := by decide +kernel
theorem dX0_takeBack_23 : decode cX0_takeBack 23 = .ok (.isub, 1) := by decide +kernel
theorem dX0_takeBack_24 : decode cX0_takeBack 24 = .ok (.bipush 6, 2) := by decide +kernel
theorem dX0_takeBack_26 : decode cX0_takeBack 26 = .ok (.invokestatic 28, 3) := by decide +kernel
theorem dX0_takeBack_29 : decode cX0_takeBack 29 = .ok (.aaload, 1) := by decide +kernel
theorem dX0_takeBack_30 : decode cX0_takeBack 30 = .ok (.astore_n 2, 1) := by decide +kernel
theorem dX0_takeBack_31 : decode cX0_takeBack 31 = .ok (.aload_n 2, 1) := by decide +kernel
theorem dX0_takeBack_32 : decode cX0_takeBack 32 = .ok (.ifnonnull 5, 3) := by decide +kernel
theorem dX0_takeBack_35 : decode cX0_takeBack 35 = .ok (.iconst 0, 1) := by decide +kernel
theorem dX0_takeBack_36 : decode cX0_takeBack 36 = .ok (.ireturn, 1) := by decide +kernel
theorem dX0_takeBack_37 : decode cX0_takeBack 37 = .ok (.aload_n 1, 1) := by decide +kernel
theorem dX0_takeBack_38 : decode cX0_takeBack 38 = .ok (.aload_n 2, 1) := by decide +kernel
theorem dX0_takeBack_39 : decode cX0_takeBack 39 = .ok (.invokevirtual 37, 3) := by decide +kernel
theorem dX0_takeBack_42 : decode cX0_takeBack 42 = .ok (.aload_n 0, 1) := by decide +kernel
theorem dX0_takeBack_43 : decode cX0_takeBack 43 = .ok (.dup, 1) := by decide +kernel
theorem dX0_takeBack_44 : decode cX0_takeBack 44 = .ok (.getfield 25, 3) := by decide +kernel
theorem dX0_takeBack_47 : decode cX0_takeBack 47 = .ok (.iconst 1, 1) := by decide +kernel
theorem dX0_takeBack_48 : decode cX0_takeBack 48 = .ok (.isub, 1) := by decide +kernel
theorem dX0_takeBack_49 : decode cX0_takeBack 49 = .ok (.putfield 25, 3) := by decide +kernel
theorem dX0_takeBack_52 : decode cX0_takeBack 52 = .ok (.iconst 1, 1) := by decide +kernel
theorem dX0_takeBack_53 : decode cX0_takeBack 53 = .ok (.ireturn, 1) := by decide +kernel
theorem dX1_init_0 : decode cX1_init 0 = .ok (.aload_n 0, 1) := by decide +kernel
theorem dX1_init_1 : decode cX1_init 1 = .ok (.invokespecial 3, 3) := by decide +kernel
theorem dX1_init_4 : decode cX1_init 4 = .ok (.aload_n 0, 1) := by decide +kernel
theorem dX1_init_5 : decode cX1_init 5 = .ok (.bipush 80, 2) := by decide +kernel
theorem dX1_init_7 : decode cX1_init 7 = .ok (.newarray .char, 2) := by decide +kernel
theorem dX1_init_9 : decode cX1_init 9 = .ok (.putfield 9, 3) := by decide +kernel
theorem dX1_init_12 : decode cX1_init 12 = .ok (.return_, 1) := by decide +kernel
theorem dX1_empty_0 : decode cX1_empty 0 = .ok (.aload_n 0, 1) := by decide +kernel
theorem dX1_empty_1 : decode cX1_empty 1 = .ok (.iconst 0, 1) := by decide +kernel
theorem dX1_empty_2 : decode cX1_empty 2 = .ok (.putfield 15, 3) := by decide +kernel
theorem dX1_empty_5 : decode cX1_empty 5 = .ok (.return_, 1) := by decide +kernel
theorem dX1_append_0 : decode cX1_append 0 = .ok (.lload_n 1, 1) := by decide +kernel
theorem dX1_append_1 : decode cX1_append 1 = .ok (.invokestatic 19, 3) := by decide +kernel
theorem dX1_append_4 : decode cX1_append 4 = .ok (.istore_n 3, 1) := by decide +kernel
theorem dX1_append_5 : decode cX1_append 5 = .ok (.iload_n 3, 1) := by decide +kernel
theorem dX1_append_6 : decode cX1_append 6 = .ok (.ifCond .gt 6, 3) := by decide +kernel
theorem dX1_append_9 : decode cX1_append 9 = .ok (.bipush (-2), 2) := by decide +kernel
theorem dX1_append_11 : decode cX1_append 11 = .ok (.ireturn, 1) := by decide +kernel
theorem dX1_append_12 : decode cX1_append 12 = .ok (.aload_n 0, 1) := by decide +kernel
theorem dX1_append_13 : decode cX1_append 13 = .ok (.getfield 15, 3) := by decide +kernel
theorem dX1_append_16 : decode cX1_append 16 = .ok (.bipush 80, 2) := by decide +kernel
theorem dX1_append_18 : decode cX1_append 18 = .ok (.iload_n 3, 1) := by decide +kernel
theorem dX1_append_19 : decode cX1_append 19 = .ok (.isub, 1) := by decide +kernel
theorem dX1_append_20 : decode cX1_append 20 = .ok (.if_icmp .le 6, 3) := by decide +kernel
theorem dX1_append_23 : decode cX1_append 23 = .ok (.bipush (-4), 2) := by decide +kernel
theorem dX1_append_25 : decode cX1_append 25 = .ok (.ireturn, 1) := by decide +kernel
theorem dX1_append_26 : decode cX1_append 26 = .ok (.iconst 0, 1) := by decide +kernel
theorem dX1_append_27 : decode cX1_append 27 = .ok (.istore 4, 2) := by decide +kernel
theorem dX1_append_29 : decode cX1_append 29 = .ok (.iload 4, 2) := by decide +kernel
theorem dX1_append_31 : decode cX1_append 31 = .ok (.iload_n 3, 1) := by decide +kernel
theorem dX1_append_32 : decode cX1_append 32 = .ok (.if_icmp .ge 39, 3) := by decide +kernel
theorem dX1_append_35 : decode cX1_append 35 = .ok (.aload_n 0, 1) := by decide +kernel
theorem dX1_append_36 : decode cX1_append 36 = .ok (.getfield 9, 3) := by decide +kernel
theorem dX1_append_39 : decode cX1_append 39 = .ok (.aload_n 0, 1) := by decide +kernel
theorem dX1_append_40 : decode cX1_append 40 = .ok (.getfield 15, 3) := by decide +kernel
theorem dX1_append_43 : decode cX1_append 43 = .ok (.lload_n 1, 1) := by decide +kernel
theorem dX1_append_44 : decode cX1_append 44 = .ok (.iload_n 3, 1) := by decide +kernel
theorem dX1_append_45 : decode cX1_append 45 = .ok (.iconst 1, 1) := by decide +kernel
theorem dX1_append_46 : decode cX1_append 46 = .ok (.isub, 1) := by decide +kernel
theorem dX1_append_47 : decode cX1_append 47 = .ok (.iload 4, 2) := by decide +kernel
theorem dX1_append_49 : decode cX1_append 49 = .ok (.isub, 1) := by decide +kernel
theorem dX1_append_50 : decode cX1_append 50 = .ok (.invokestatic 23, 3) := by decide +kernel
theorem dX1_append_53 : decode cX1_append 53 = .ok (.i2c, 1) := by decide +kernel
theorem dX1_append_54 : decode cX1_append 54 = .ok (.castore, 1) := by decide +kernel
theorem dX1_append_55 : decode cX1_append 55 = .ok (.aload_n 0, 1) := by decide +kernel
theorem dX1_append_56 : decode cX1_append 56 = .ok (.dup, 1) := by decide +kernel
theorem dX1_append_57 : decode cX1_append 57 = .ok (.getfield 15, 3) := by decide +kernel
theorem dX1_append_60 : decode cX1_append 60 = .ok (.iconst 1, 1) := by decide +kernel
theorem dX1_append_61 : decode cX1_append 61 = .ok (.iadd, 1) := by decide +kernel
theorem dX1_append_62 : decode cX1_append 62 = .ok (.putfield 15, 3) := by decide +kernel
theorem dX1_append_65 : decode cX1_append 65 = .ok (.iinc 4 1, 3) := by decide +kernel
theorem dX1_append_68 : decode cX1_append 68 = .ok (.goto (-39), 3) := by decide +kernel
theorem dX1_append_71 : decode cX1_append 71 = .ok (.aload_n 0, 1) := by decide +kernel
theorem dX1_append_72 : decode cX1_append 72 = .ok (.getfield 15, 3) := by decide +kernel
theorem dX1_append_75 : decode cX1_append 75 = .ok (.ireturn, 1) := by decide +kernel
theorem dX1_signsIn_0 : decode cX1_signsIn 0 = .ok (.iconst 0, 1) := by decide +kernel
theorem dX1_signsIn_1 : decode cX1_signsIn 1 = .ok (.istore_n 2, 1) := by decide +kernel
theorem dX1_signsIn_2 : decode cX1_signsIn 2 = .ok (.iload_n 2, 1) := by decide +kernel
theorem dX1_signsIn_3 : decode cX1_signsIn 3 = .ok (.bipush 8, 2) := by decide +kernel
theorem dX1_signsIn_5 : decode cX1_signsIn 5 = .ok (.if_icmp .ge 38, 3) := by decide +kernel
theorem dX1_signsIn_8 : decode cX1_signsIn 8 = .ok (.lload_n 0, 1) := by decide +kernel
theorem dX1_signsIn_9 : decode cX1_signsIn 9 = .ok (.iload_n 2, 1) := by decide +kernel
theorem dX1_signsIn_10 : decode cX1_signsIn 10 = .ok (.invokestatic 23, 3) := by decide +kernel
theorem dX1_signsIn_13 : decode cX1_signsIn 13 = .ok (.ifCond .eq 30, 3) := by decide +kernel
theorem dX1_signsIn_16 : decode cX1_signsIn 16 = .ok (.lload_n 0, 1) := by decide +kernel
theorem dX1_signsIn_17 : decode cX1_signsIn 17 = .ok (.iload_n 2, 1) := by decide +kernel
theorem dX1_signsIn_18 : decode cX1_signsIn 18 = .ok (.invokestatic 23, 3) := by decide +kernel
theorem dX1_signsIn_21 : decode cX1_signsIn 21 = .ok (.istore_n 3, 1) := by decide +kernel
theorem dX1_signsIn_22 : decode cX1_signsIn 22 = .ok (.iload_n 3, 1) := by decide +kernel
theorem dX1_signsIn_23 : decode cX1_signsIn 23 = .ok (.bipush 33, 2) := by decide +kernel
theorem dX1_signsIn_25 : decode cX1_signsIn 25 = .ok (.if_icmp .lt 9, 3) := by decide +kernel
theorem dX1_signsIn_28 : decode cX1_signsIn 28 = .ok (.iload_n 3, 1) := by decide +kernel
theorem dX1_signsIn_29 : decode cX1_signsIn 29 = .ok (.bipush 126, 2) := by decide +kernel
theorem dX1_signsIn_31 : decode cX1_signsIn 31 = .ok (.if_icmp .le 6, 3) := by decide +kernel
theorem dX1_signsIn_34 : decode cX1_signsIn 34 = .ok (.bipush (-2), 2) := by decide +kernel
theorem dX1_signsIn_36 : decode cX1_signsIn 36 = .ok (.ireturn, 1) := by decide +kernel
theorem dX1_signsIn_37 : decode cX1_signsIn 37 = .ok (.iinc 2 1, 3) := by decide +kernel
theorem dX1_signsIn_40 : decode cX1_signsIn 40 = .ok (.goto (-38), 3) := by decide +kernel
theorem dX1_signsIn_43 : decode cX1_signsIn 43 = .ok (.iload_n 2, 1) := by decide +kernel
theorem dX1_signsIn_44 : decode cX1_signsIn 44 = .ok (.bipush 8, 2) := by decide +kernel
theorem dX1_signsIn_46 : decode cX1_signsIn 46 = .ok (.if_icmp .ge 18, 3) := by decide +kernel
theorem dX1_signsIn_49 : decode cX1_signsIn 49 = .ok (.lload_n 0, 1) := by decide +kernel
theorem dX1_signsIn_50 : decode cX1_signsIn 50 = .ok (.bipush 8, 2) := by decide +kernel
theorem dX1_signsIn_52 : decode cX1_signsIn 52 = .ok (.iload_n 2, 1) := by decide +kernel
theorem dX1_signsIn_53 : decode cX1_signsIn 53 = .ok (.imul, 1) := by decide +kernel
theorem dX1_signsIn_54 : decode cX1_signsIn 54 = .ok (.lushr, 1) := by decide +kernel
theorem dX1_signsIn_55 : decode cX1_signsIn 55 = .ok (.lconst 0, 1) := by decide +kernel
theorem dX1_signsIn_56 : decode cX1_signsIn 56 = .ok (.lcmp, 1) := by decide +kernel
theorem dX1_signsIn_57 : decode cX1_signsIn 57 = .ok (.ifCond .eq 7, 3) := by decide +kernel
theorem dX1_signsIn_60 : decode cX1_signsIn 60 = .ok (.iconst 1, 1) := by decide +kernel
theorem dX1_signsIn_61 : decode cX1_signsIn 61 = .ok (.goto 4, 3) := by decide +kernel
theorem dX1_signsIn_64 : decode cX1_signsIn 64 = .ok (.iconst 0, 1) := by decide +kernel
theorem dX1_signsIn_65 : decode cX1_signsIn 65 = .ok (.istore_n 3, 1) := by decide +kernel
theorem dX1_signsIn_66 : decode cX1_signsIn 66 = .ok (.iload_n 3, 1) := by decide +kernel
theorem dX1_signsIn_67 : decode cX1_signsIn 67 = .ok (.ifCond .eq 8, 3) := by decide +kernel
theorem dX1_signsIn_70 : decode cX1_signsIn 70 = .ok (.bipush (-2), 2) := by decide +kernel
theorem dX1_signsIn_72 : decode cX1_signsIn 72 = .ok (.goto 4, 3) := by decide +kernel
theorem dX1_signsIn_75 : decode cX1_signsIn 75 = .ok (.iload_n 2, 1) := by decide +kernel
theorem dX1_signsIn_76 : decode cX1_signsIn 76 = .ok (.ireturn, 1) := by decide +kernel
theorem dX1_codeIn_0 : decode cX1_codeIn 0 = .ok (.lload_n 0, 1) := by decide +kernel
theorem dX1_codeIn_1 : decode cX1_codeIn 1 = .ok (.bipush 8, 2) := by decide +kernel
theorem dX1_codeIn_3 : decode cX1_codeIn 3 = .ok (.iload_n 2, 1) := by decide +kernel
theorem dX1_codeIn_4 : decode cX1_codeIn 4 = .ok (.imul, 1) := by decide +kernel
theorem dX1_codeIn_5 : decode cX1_codeIn 5 = .ok (.lushr, 1) := by decide +kernel
theorem dX1_codeIn_6 : decode cX1_codeIn 6 = .ok (.ldc2_w 27, 3) := by decide +kernel
theorem dX1_codeIn_9 : decode cX1_codeIn 9 = .ok (.land, 1) := by decide +kernel
theorem dX1_codeIn_10 : decode cX1_codeIn 10 = .ok (.l2i, 1) := by decide +kernel
theorem dX1_codeIn_11 : decode cX1_codeIn 11 = .ok (.ireturn, 1) := by decide +kernel
theorem dX1_letterAt_0 : decode cX1_letterAt 0 = .ok (.iload_n 1, 1) := by decide +kernel
theorem dX1_letterAt_1 : decode cX1_letterAt 1 = .ok (.ifCond .lt 17, 3) := by decide +kernel
theorem dX1_letterAt_4 : decode cX1_letterAt 4 = .ok (.iload_n 1, 1) := by decide +kernel
theorem dX1_letterAt_5 : decode cX1_letterAt 5 = .ok (.aload_n 0, 1) := by decide +kernel
theorem dX1_letterAt_6 : decode cX1_letterAt 6 = .ok (.getfield 15, 3) := by decide +kernel
theorem dX1_letterAt_9 : decode cX1_letterAt 9 = .ok (.if_icmp .ge 9, 3) := by decide +kernel
theorem dX1_letterAt_12 : decode cX1_letterAt 12 = .ok (.iload_n 1, 1) := by decide +kernel
theorem dX1_letterAt_13 : decode cX1_letterAt 13 = .ok (.bipush 80, 2) := by decide +kernel
theorem dX1_letterAt_15 : decode cX1_letterAt 15 = .ok (.if_icmp .lt 6, 3) := by decide +kernel
theorem dX1_letterAt_18 : decode cX1_letterAt 18 = .ok (.bipush (-6), 2) := by decide +kernel
theorem dX1_letterAt_20 : decode cX1_letterAt 20 = .ok (.ireturn, 1) := by decide +kernel
theorem dX1_letterAt_21 : decode cX1_letterAt 21 = .ok (.ldc 29, 2) := by decide +kernel
theorem dX1_letterAt_23 : decode cX1_letterAt 23 = .ok (.aload_n 0, 1) := by decide +kernel
theorem dX1_letterAt_24 : decode cX1_letterAt 24 = .ok (.getfield 9, 3) := by decide +kernel
theorem dX1_letterAt_27 : decode cX1_letterAt 27 = .ok (.iload_n 1, 1) := by decide +kernel
theorem dX1_letterAt_28 : decode cX1_letterAt 28 = .ok (.caload, 1) := by decide +kernel
theorem dX1_letterAt_29 : decode cX1_letterAt 29 = .ok (.invokevirtual 31, 3) := by decide +kernel
theorem dX1_letterAt_32 : decode cX1_letterAt 32 = .ok (.istore_n 2, 1) := by decide +kernel
theorem dX1_letterAt_33 : decode cX1_letterAt 33 = .ok (.iload_n 2, 1) := by decide +kernel
theorem dX1_letterAt_34 : decode cX1_letterAt 34 = .ok (.ifCond .ge 8, 3) := by decide +kernel
theorem dX1_letterAt_37 : decode cX1_letterAt 37 = .ok (.bipush (-6), 2) := by decide +kernel
theorem dX1_letterAt_39 : decode cX1_letterAt 39 = .ok (.goto 4, 3) := by decide +kernel
theorem dX1_letterAt_42 : decode cX1_letterAt 42 = .ok (.iload_n 2, 1) := by decide +kernel
theorem dX1_letterAt_43 : decode cX1_letterAt 43 = .ok (.ireturn, 1) := by decide +kernel
theorem dX1_faultIndex_0 : decode cX1_faultIndex 0 = .ok (.iconst 0, 1) := by decide +kernel
theorem dX1_faultIndex_1 : decode cX1_faultIndex 1 = .ok (.istore_n 1, 1) := by decide +kernel
theorem dX1_faultIndex_2 : decode cX1_faultIndex 2 = .ok (.iload_n 1, 1) := by decide +kernel
theorem dX1_faultIndex_3 : decode cX1_faultIndex 3 = .ok (.aload_n 0, 1) := by decide +kernel
theorem dX1_faultIndex_4 : decode cX1_faultIndex 4 = .ok (.getfield 15, 3) := by decide +kernel
theorem dX1_faultIndex_7 : decode cX1_faultIndex 7 = .ok (.if_icmp .ge 27, 3) := by decide +kernel
theorem dX1_faultIndex_10 : decode cX1_faultIndex 10 = .ok (.iload_n 1, 1) := by decide +kernel
theorem dX1_faultIndex_11 : decode cX1_faultIndex 11 = .ok (.bipush 12, 2) := by decide +kernel
theorem dX1_faultIndex_13 : decode cX1_faultIndex 13 = .ok (.if_icmp .ge 13, 3) := by decide +kernel
theorem dX1_faultIndex_16 : decode cX1_faultIndex 16 = .ok (.aload_n 0, 1) := by decide +kernel
theorem dX1_faultIndex_17 : decode cX1_faultIndex 17 = .ok (.iload_n 1, 1) := by decide +kernel
theorem dX1_faultIndex_18 : decode cX1_faultIndex 18 = .ok (.invokevirtual 37, 3) := by decide +kernel
theorem dX1_faultIndex_21 : decode cX1_faultIndex 21 = .ok (.bipush (-6), 2) := by decide +kernel
theorem dX1_faultIndex_23 : decode cX1_faultIndex 23 = .ok (.if_icmp .ne 5, 3) := by decide +kernel
theorem dX1_faultIndex_26 : decode cX1_faultIndex 26 = .ok (.iload_n 1, 1) := by decide +kernel
theorem dX1_faultIndex_27 : decode cX1_faultIndex 27 = .ok (.ireturn, 1) := by decide +kernel
theorem dX1_faultIndex_28 : decode cX1_faultIndex 28 = .ok (.iinc 1 1, 3) := by decide +kernel
theorem dX1_faultIndex_31 : decode cX1_faultIndex 31 = .ok (.goto (-29), 3) := by decide +kernel
theorem dX1_faultIndex_34 : decode cX1_faultIndex 34 = .ok (.aload_n 0, 1) := by decide +kernel
theorem dX1_faultIndex_35 : decode cX1_faultIndex 35 = .ok (.getfield 15, 3) := by decide +kernel
theorem dX1_faultIndex_38 : decode cX1_faultIndex 38 = .ok (.ifCond .ne 7, 3) := by decide +kernel
theorem dX1_faultIndex_41 : decode cX1_faultIndex 41 = .ok (.iconst 0, 1) := by decide +kernel
theorem dX1_faultIndex_42 : decode cX1_faultIndex 42 = .ok (.goto 5, 3) := by decide +kernel
theorem dX1_faultIndex_45 : decode cX1_faultIndex 45 = .ok (.bipush (-6), 2) := by decide +kernel
theorem dX1_faultIndex_47 : decode cX1_faultIndex 47 = .ok (.ireturn, 1) := by decide +kernel
theorem dX2_init_0 : decode cX2_init 0 = .ok (.aload_n 0, 1) := by decide +kernel
theorem dX2_init_1 : decode cX2_init 1 = .ok (.invokespecial 3, 3) := by decide +kernel
theorem dX2_init_4 : decode cX2_init 4 = .ok (.return_, 1) := by decide +kernel
theorem dX2_copyFrom_0 : decode cX2_copyFrom 0 = .ok (.aload_n 0, 1) := by decide +kernel
theorem dX2_copyFrom_1 : decode cX2_copyFrom 1 = .ok (.aload_n 1, 1) := by decide +kernel
theorem dX2_copyFrom_2 : decode cX2_copyFrom 2 = .ok (.getfield 9, 3) := by decide +kernel
theorem dX2_copyFrom_5 : decode cX2_copyFrom 5 = .ok (.putfield 9, 3) := by decide +kernel
theorem dX2_copyFrom_8 : decode cX2_copyFrom 8 = .ok (.aload_n 0, 1) := by decide +kernel
theorem dX2_copyFrom_9 : decode cX2_copyFrom 9 = .ok (.aload_n 1, 1) := by decide +kernel
theorem dX2_copyFrom_10 : decode cX2_copyFrom 10 = .ok (.getfield 15, 3) := by decide +kernel
theorem dX2_copyFrom_13 : decode cX2_copyFrom 13 = .ok (.putfield 15, 3) := by decide +kernel
theorem dX2_copyFrom_16 : decode cX2_copyFrom 16 = .ok (.aload_n 0, 1) := by decide +kernel
theorem dX2_copyFrom_17 : decode cX2_copyFrom 17 = .ok (.aload_n 1, 1) := by decide +kernel
theorem dX2_copyFrom_18 : decode cX2_copyFrom 18 = .ok (.getfield 18, 3) := by decide +kernel
theorem dX2_copyFrom_21 : decode cX2_copyFrom 21 = .ok (.putfield 18, 3) := by decide +kernel
theorem dX2_copyFrom_24 : decode cX2_copyFrom 24 = .ok (.aload_n 0, 1) := by decide +kernel
theorem dX2_copyFrom_25 : decode cX2_copyFrom 25 = .ok (.aload_n 1, 1) := by decide +kernel
theorem dX2_copyFrom_26 : decode cX2_copyFrom 26 = .ok (.getfield 21, 3) := by decide +kernel
theorem dX2_copyFrom_29 : decode cX2_copyFrom 29 = .ok (.putfield 21, 3) := by decide +kernel
theorem dX2_copyFrom_32 : decode cX2_copyFrom 32 = .ok (.aload_n 0, 1) := by decide +kernel
theorem dX2_copyFrom_33 : decode cX2_copyFrom 33 = .ok (.aload_n 1, 1) := by decide +kernel
theorem dX2_copyFrom_34 : decode cX2_copyFrom 34 = .ok (.getfield 24, 3) := by decide +kernel
theorem dX2_copyFrom_37 : decode cX2_copyFrom 37 = .ok (.putfield 24, 3) := by decide +kernel
theorem dX2_copyFrom_40 : decode cX2_copyFrom 40 = .ok (.aload_n 0, 1) := by decide +kernel
theorem dX2_copyFrom_41 : decode cX2_copyFrom 41 = .ok (.aload_n 1, 1) := by decide +kernel
theorem dX2_copyFrom_42 : decode cX2_copyFrom 42 = .ok (.getfield 27, 3) := by decide +kernel
theorem dX2_copyFrom_45 : decode cX2_copyFrom 45 = .ok (.putfield 27, 3) := by decide +kernel
theorem dX2_copyFrom_48 : decode cX2_copyFrom 48 = .ok (.aload_n 0, 1) := by decide +kernel
theorem dX2_copyFrom_49 : decode cX2_copyFrom 49 = .ok (.aload_n 1, 1) := by decide +kernel
theorem dX2_copyFrom_50 : decode cX2_copyFrom 50 = .ok (.getfield 30, 3) := by decide +kernel
theorem dX2_copyFrom_53 : decode cX2_copyFrom 53 = .ok (.putfield 30, 3) := by decide +kernel
theorem dX2_copyFrom_56 : decode cX2_copyFrom 56 = .ok (.return_, 1) := by decide +kernel
theorem dX2_becomeLoose_0 : decode cX2_becomeLoose 0 = .ok (.aload_n 0, 1) := by decide +kernel
theorem dX2_becomeLoose_1 : decode cX2_becomeLoose 1 = .ok (.iconst 0, 1) := by decide +kernel
theorem dX2_becomeLoose_2 : decode cX2_becomeLoose 2 = .ok (.putfield 27, 3) := by decide +kernel
theorem dX2_becomeLoose_5 : decode cX2_becomeLoose 5 = .ok (.aload_n 0, 1) := by decide +kernel
theorem dX2_becomeLoose_6 : decode cX2_becomeLoose 6 = .ok (.bipush (-6), 2) := by decide +kernel
theorem dX2_becomeLoose_8 : decode cX2_becomeLoose 8 = .ok (.putfield 30, 3) := by decide +kernel
theorem dX2_becomeLoose_11 : decode cX2_becomeLoose 11 = .ok (.return_, 1) := by decide +kernel
theorem dX3_init_0 : decode cX3_init 0 = .ok (.aload_n 0, 1) := by decide +kernel
theorem dX3_init_1 : decode cX3_init 1 = .ok (.invokespecial 3, 3) := by decide +kernel
theorem dX3_init_4 : decode cX3_init 4 = .ok (.aload_n 0, 1) := by decide +kernel
theorem dX3_init_5 : decode cX3_init 5 = .ok (.sipush 320, 3) := by decide +kernel
theorem dX3_init_8 : decode cX3_init 8 = .ok (.newarray .int, 2) := by decide +kernel
theorem dX3_init_10 : decode cX3_init 10 = .ok (.putfield 9, 3) := by decide +kernel
theorem dX3_init_13 : decode cX3_init 13 = .ok (.iconst 0, 1) := by decide +kernel
theorem dX3_init_14 : decode cX3_init 14 = .ok (.istore_n 1, 1) := by decide +kernel
theorem dX3_init_15 : decode cX3_init 15 = .ok (.iload_n 1, 1) := by decide +kernel
theorem dX3_init_16 : decode cX3_init 16 = .ok (.bipush 8, 2) := by decide +kernel
theorem dX3_init_18 : decode cX3_init 18 = .ok (.if_icmp .ge 60, 3) := by decide +kernel
theorem dX3_init_21 : decode cX3_init 21 = .ok (.iconst 0, 1) := by decide +kernel
theorem dX3_init_22 : decode cX3_init 22 = .ok (.istore_n 2, 1) := by decide +kernel
theorem dX3_init_23 : decode cX3_init 23 = .ok (.iload_n 2, 1) := by decide +kernel
theorem dX3_init_24 : decode cX3_init 24 = .ok (.bipush 8, 2) := by decide +kernel
theorem dX3_init_26 : decode cX3_init 26 = .ok (.if_icmp .ge 46, 3) := by decide +kernel
theorem dX3_init_29 : decode cX3_init 29 = .ok (.iconst 0, 1) := by decide +kernel
theorem dX3_init_30 : decode cX3_init 30 = .ok (.istore_n 3, 1) := by decide +kernel
theorem dX3_init_31 : decode cX3_init 31 = .ok (.iload_n 3, 1) := by decide +kernel
theorem dX3_init_32 : decode cX3_init 32 = .ok (.iload_n 2, 1) := by decide +kernel
theorem dX3_init_33 : decode cX3_init 33 = .ok (.invokestatic 15, 3) := by decide +kernel
theorem dX3_init_36 : decode cX3_init 36 = .ok (.if_icmp .ge 30, 3) := by decide +kernel
theorem dX3_init_39 : decode cX3_init 39 = .ok (.aload_n 0, 1) := by decide +kernel
theorem dX3_init_40 : decode cX3_init 40 = .ok (.getfield 9, 3) := by decide +kernel
theorem dX3_init_43 : decode cX3_init 43 = .ok (.iload_n 1, 1) := by decide +kernel
theorem dX3_init_44 : decode cX3_init 44 = .ok (.bipush 8, 2) := by decide +kernel
theorem dX3_init_46 : decode cX3_init 46 = .ok (.imul, 1) := by decide +kernel
theorem dX3_init_47 : decode cX3_init 47 = .ok (.iload_n 2, 1) := by decide +kernel
theorem dX3_init_48 : decode cX3_init 48 = .ok (.iadd, 1) := by decide +kernel
theorem dX3_init_49 : decode cX3_init 49 = .ok (.iconst 5, 1) := by decide +kernel
theorem dX3_init_50 : decode cX3_init 50 = .ok (.imul, 1) := by decide +kernel
theorem dX3_init_51 : decode cX3_init 51 = .ok (.iload_n 3, 1) := by decide +kernel
theorem dX3_init_52 : decode cX3_init 52 = .ok (.iadd, 1) := by decide +kernel
theorem dX3_init_53 : decode cX3_init 53 = .ok (.iload_n 1, 1) := by decide +kernel
theorem dX3_init_54 : decode cX3_init 54 = .ok (.iload_n 2, 1) := by decide +kernel
theorem dX3_init_55 : decode cX3_init 55 = .ok (.iload_n 3, 1) := by decide +kernel
theorem dX3_init_56 : decode cX3_init 56 = .ok (.invokestatic 19, 3) := by decide +kernel
theorem dX3_init_59 : decode cX3_init 59 = .ok (.iastore, 1) := by decide +kernel
theorem dX3_init_60 : decode cX3_init 60 = .ok (.iinc 3 1, 3) := by decide +kernel
theorem dX3_init_63 : decode cX3_init 63 = .ok (.goto (-32), 3) := by decide +kernel
theorem dX3_init_66 : decode cX3_init 66 = .ok (.iinc 2 1, 3) := by decide +kernel
theorem dX3_init_69 : decode cX3_init 69 = .ok (.goto (-46), 3) := by decide +kernel
theorem dX3_init_72 : decode cX3_init 72 = .ok (.iinc 1 1, 3) := by decide +kernel
theorem dX3_init_75 : decode cX3_init 75 = .ok (.goto (-60), 3) := by decide +kernel
theorem dX3_init_78 : decode cX3_init 78 = .ok (.return_, 1) := by decide +kernel
theorem dX3_columnsOf_0 : decode cX3_columnsOf 0 = .ok (.iload_n 1, 1) := by decide +kernel
theorem dX3_columnsOf_1 : decode cX3_columnsOf 1 = .ok (.invokestatic 23, 3) := by decide +kernel
theorem dX3_columnsOf_4 : decode cX3_columnsOf 4 = .ok (.ifCond .eq 19, 3) := by decide +kernel
theorem dX3_columnsOf_7 : decode cX3_columnsOf 7 = .ok (.iload_n 2, 1) := by decide +kernel
theorem dX3_columnsOf_8 : decode cX3_columnsOf 8 = .ok (.invokestatic 27, 3) := by decide +kernel
theorem dX3_columnsOf_11 : decode cX3_columnsOf 11 = .ok (.ifCond .eq 12, 3) := by decide +kernel
theorem dX3_columnsOf_14 : decode cX3_columnsOf 14 = .ok (.iload_n 3, 1) := by decide +kernel
theorem dX3_columnsOf_15 : decode cX3_columnsOf 15 = .ok (.ifCond .lt 8, 3) := by decide +kernel
theorem dX3_columnsOf_18 : decode cX3_columnsOf 18 = .ok (.iload_n 3, 1) := by decide +kernel
theorem dX3_columnsOf_19 : decode cX3_columnsOf 19 = .ok (.iconst 5, 1) := by decide +kernel
theorem dX3_columnsOf_20 : decode cX3_columnsOf 20 = .ok (.if_icmp .lt 5, 3) := by decide +kernel
theorem dX3_columnsOf_23 : decode cX3_columnsOf 23 = .ok (.iconst 0, 1) := by decide +kernel
theorem dX3_columnsOf_24 : decode cX3_columnsOf 24 = .ok (.ireturn, 1) := by decide +kernel
theorem dX3_columnsOf_25 : decode cX3_columnsOf 25 = .ok (.aload_n 0, 1) := by decide +kernel
theorem dX3_columnsOf_26 : decode cX3_columnsOf 26 = .ok (.getfield 9, 3) := by decide +kernel
theorem dX3_columnsOf_29 : decode cX3_columnsOf 29 = .ok (.iload_n 1, 1) := by decide +kernel
theorem dX3_columnsOf_30 : decode cX3_columnsOf 30 = .ok (.bipush 8, 2) := by decide +kernel
theorem dX3_columnsOf_32 : decode cX3_columnsOf 32 = .ok (.imul, 1) := by decide +kernel
theorem dX3_columnsOf_33 : decode cX3_columnsOf 33 = .ok (.iload_n 2, 1) := by decide +kernel
theorem dX3_columnsOf_34 : decode cX3_columnsOf 34 = .ok (.iadd, 1) := by decide +kernel
theorem dX3_columnsOf_35 : decode cX3_columnsOf 35 = .ok (.iconst 5, 1) := by decide +kernel
theorem dX3_columnsOf_36 : decode cX3_columnsOf 36 = .ok (.imul, 1) := by decide +kernel
theorem dX3_columnsOf_37 : decode cX3_columnsOf 37 = .ok (.iload_n 3, 1) := by decide +kernel
theorem dX3_columnsOf_38 : decode cX3_columnsOf 38 = .ok (.iadd, 1) := by decide +kernel
theorem dX3_columnsOf_39 : decode cX3_columnsOf 39 = .ok (.iaload, 1) := by decide +kernel
theorem dX3_columnsOf_40 : decode cX3_columnsOf 40 = .ok (.ireturn, 1) := by decide +kernel
theorem dX3_squaresOf_0 : decode cX3_squaresOf 0 = .ok (.iconst 0, 1) := by decide +kernel
theorem dX3_squaresOf_1 : decode cX3_squaresOf 1 = .ok (.istore_n 2, 1) := by decide +kernel
theorem dX3_squaresOf_2 : decode cX3_squaresOf 2 = .ok (.iconst 0, 1) := by decide +kernel
theorem dX3_squaresOf_3 : decode cX3_squaresOf 3 = .ok (.istore_n 3, 1) := by decide +kernel
theorem dX3_squaresOf_4 : decode cX3_squaresOf 4 = .ok (.iload_n 3, 1) := by decide +kernel
theorem dX3_squaresOf_5 : decode cX3_squaresOf 5 = .ok (.iconst 5, 1) := by decide +kernel
theorem dX3_squaresOf_6 : decode cX3_squaresOf 6 = .ok (.if_icmp .ge 22, 3) := by decide +kernel
theorem dX3_squaresOf_9 : decode cX3_squaresOf 9 = .ok (.iload_n 2, 1) := by decide +kernel
theorem dX3_squaresOf_10 : decode cX3_squaresOf 10 = .ok (.aload_n 0, 1) := by decide +kernel
theorem dX3_squaresOf_11 : decode cX3_squaresOf 11 = .ok (.iload_n 1, 1) := by decide +kernel
theorem dX3_squaresOf_12 : decode cX3_squaresOf 12 = .ok (.iconst 0, 1) := by decide +kernel
theorem dX3_squaresOf_13 : decode cX3_squaresOf 13 = .ok (.iload_n 3, 1) := by decide +kernel
theorem dX3_squaresOf_14 : decode cX3_squaresOf 14 = .ok (.invokevirtual 30, 3) := by decide +kernel
theorem dX3_squaresOf_17 : decode cX3_squaresOf 17 = .ok (.invokestatic 33, 3) := by decide +kernel
theorem dX3_squaresOf_20 : decode cX3_squaresOf 20 = .ok (.iadd, 1) := by decide +kernel
theorem dX3_squaresOf_21 : decode cX3_squaresOf 21 = .ok (.istore_n 2, 1) := by decide +kernel
theorem dX3_squaresOf_22 : decode cX3_squaresOf 22 = .ok (.iinc 3 1, 3) := by decide +kernel
theorem dX3_squaresOf_25 : decode cX3_squaresOf 25 = .ok (.goto (-21), 3) := by decide +kernel
theorem dX3_squaresOf_28 : decode cX3_squaresOf 28 = .ok (.iload_n 2, 1) := by decide +kernel
theorem dX3_squaresOf_29 : decode cX3_squaresOf 29 = .ok (.ireturn, 1) := by decide +kernel
theorem dX3_turnedRow_0 : decode cX3_turnedRow 0 = .ok (.iconst 0, 1) := by decide +kernel
theorem dX3_turnedRow_1 : decode cX3_turnedRow 1 = .ok (.istore_n 3, 1) := by decide +kernel
theorem dX3_turnedRow_2 : decode cX3_turnedRow 2 = .ok (.iconst 0, 1) := by decide +kernel
theorem dX3_turnedRow_3 : decode cX3_turnedRow 3 = .ok (.istore 4, 2) := by decide +kernel
theorem dX3_turnedRow_5 : decode cX3_turnedRow 5 = .ok (.iload 4, 2) := by decide +kernel
theorem dX3_turnedRow_7 : decode cX3_turnedRow 7 = .ok (.iload_n 1, 1) := by decide +kernel
theorem dX3_turnedRow_8 : decode cX3_turnedRow 8 = .ok (.invokestatic 38, 3) := by decide +kernel
theorem dX3_turnedRow_11 : decode cX3_turnedRow 11 = .ok (.if_icmp .ge 27, 3) := by decide +kernel
theorem dX3_turnedRow_14 : decode cX3_turnedRow 14 = .ok (.iload_n 0, 1) := by decide +kernel
theorem dX3_turnedRow_15 : decode cX3_turnedRow 15 = .ok (.iload_n 1, 1) := by decide +kernel
theorem dX3_turnedRow_16 : decode cX3_turnedRow 16 = .ok (.iload_n 2, 1) := by decide +kernel
theorem dX3_turnedRow_17 : decode cX3_turnedRow 17 = .ok (.iload 4, 2) := by decide +kernel
theorem dX3_turnedRow_19 : decode cX3_turnedRow 19 = .ok (.invokestatic 41, 3) := by decide +kernel
theorem dX3_turnedRow_22 : decode cX3_turnedRow 22 = .ok (.ifCond .eq 10, 3) := by decide +kernel
theorem dX3_turnedRow_25 : decode cX3_turnedRow 25 = .ok (.iload_n 3, 1) := by decide +kernel
theorem dX3_turnedRow_26 : decode cX3_turnedRow 26 = .ok (.iconst 1, 1) := by decide +kernel
theorem dX3_turnedRow_27 : decode cX3_turnedRow 27 = .ok (.iload 4, 2) := by decide +kernel
theorem dX3_turnedRow_29 : decode cX3_turnedRow 29 = .ok (.ishl, 1) := by decide +kernel
theorem dX3_turnedRow_30 : decode cX3_turnedRow 30 = .ok (.ior, 1) := by decide +kernel
theorem dX3_turnedRow_31 : decode cX3_turnedRow 31 = .ok (.istore_n 3, 1) := by decide +kernel
theorem dX3_turnedRow_32 : decode cX3_turnedRow 32 = .ok (.iinc 4 1, 3) := by decide +kernel
theorem dX3_turnedRow_35 : decode cX3_turnedRow 35 = .ok (.goto (-30), 3) := by decide +kernel
theorem dX3_turnedRow_38 : decode cX3_turnedRow 38 = .ok (.iload_n 3, 1) := by decide +kernel
theorem dX3_turnedRow_39 : decode cX3_turnedRow 39 = .ok (.ireturn, 1) := by decide +kernel
theorem dX3_hasSquare_0 : decode cX3_hasSquare 0 = .ok (.iload_n 2, 1) := by decide +kernel
theorem dX3_hasSquare_1 : decode cX3_hasSquare 1 = .ok (.istore 4, 2) := by decide +kernel
theorem dX3_hasSquare_3 : decode cX3_hasSquare 3 = .ok (.iload_n 3, 1) := by decide +kernel
theorem dX3_hasSquare_4 : decode cX3_hasSquare 4 = .ok (.istore 5, 2) := by decide +kernel
theorem dX3_hasSquare_6 : decode cX3_hasSquare 6 = .ok (.iload_n 1, 1) := by decide +kernel
theorem dX3_hasSquare_7 : decode cX3_hasSquare 7 = .ok (.iconst 4, 1) := by decide +kernel
theorem dX3_hasSquare_8 : decode cX3_hasSquare 8 = .ok (.irem, 1) := by decide +kernel
theorem dX3_hasSquare_9 : decode cX3_hasSquare 9 = .ok (.tableswitch 62 1 3 #[27, 38, 51], 27) := by decide +kernel
theorem dX3_hasSquare_36 : decode cX3_hasSquare 36 = .ok (.iconst 4, 1) := by decide +kernel
theorem dX3_hasSquare_37 : decode cX3_hasSquare 37 = .ok (.iload_n 3, 1) := by decide +kernel
theorem dX3_hasSquare_38 : decode cX3_hasSquare 38 = .ok (.isub, 1) := by decide +kernel
theorem dX3_hasSquare_39 : decode cX3_hasSquare 39 = .ok (.istore 4, 2) := by decide +kernel
theorem dX3_hasSquare_41 : decode cX3_hasSquare 41 = .ok (.iload_n 2, 1) := by decide +kernel
theorem dX3_hasSquare_42 : decode cX3_hasSquare 42 = .ok (.istore 5, 2) := by decide +kernel
theorem dX3_hasSquare_44 : decode cX3_hasSquare 44 = .ok (.goto 27, 3) := by decide +kernel
theorem dX3_hasSquare_47 : decode cX3_hasSquare 47 = .ok (.iconst 4, 1) := by decide +kernel
theorem dX3_hasSquare_48 : decode cX3_hasSquare 48 = .ok (.iload_n 2, 1) := by decide +kernel
theorem dX3_hasSquare_49 : decode cX3_hasSquare 49 = .ok (.isub, 1) := by decide +kernel
theorem dX3_hasSquare_50 : decode cX3_hasSquare 50 = .ok (.istore 4, 2) := by decide +kernel
theorem dX3_hasSquare_52 : decode cX3_hasSquare 52 = .ok (.iconst 2, 1) := by decide +kernel
theorem dX3_hasSquare_53 : decode cX3_hasSquare 53 = .ok (.iload_n 3, 1) := by decide +kernel
theorem dX3_hasSquare_54 : decode cX3_hasSquare 54 = .ok (.isub, 1) := by decide +kernel
theorem dX3_hasSquare_55 : decode cX3_hasSquare 55 = .ok (.istore 5, 2) := by decide +kernel
theorem dX3_hasSquare_57 : decode cX3_hasSquare 57 = .ok (.goto 14, 3) := by decide +kernel
theorem dX3_hasSquare_60 : decode cX3_hasSquare 60 = .ok (.iload_n 3, 1) := by decide +kernel
theorem dX3_hasSquare_61 : decode cX3_hasSquare 61 = .ok (.istore 4, 2) := by decide +kernel
theorem dX3_hasSquare_63 : decode cX3_hasSquare 63 = .ok (.iconst 2, 1) := by decide +kernel
theorem dX3_hasSquare_64 : decode cX3_hasSquare 64 = .ok (.iload_n 2, 1) := by decide +kernel
theorem dX3_hasSquare_65 : decode cX3_hasSquare 65 = .ok (.isub, 1) := by decide +kernel
theorem dX3_hasSquare_66 : decode cX3_hasSquare 66 = .ok (.istore 5, 2) := by decide +kernel
theorem dX3_hasSquare_68 : decode cX3_hasSquare 68 = .ok (.goto 3, 3) := by decide +kernel
theorem dX3_hasSquare_71 : decode cX3_hasSquare 71 = .ok (.iload_n 1, 1) := by decide +kernel
theorem dX3_hasSquare_72 : decode cX3_hasSquare 72 = .ok (.invokestatic 45, 3) := by decide +kernel
theorem dX3_hasSquare_75 : decode cX3_hasSquare 75 = .ok (.iconst 1, 1) := by decide +kernel
theorem dX3_hasSquare_76 : decode cX3_hasSquare 76 = .ok (.if_icmp .ne 9, 3) := by decide +kernel
theorem dX3_hasSquare_79 : decode cX3_hasSquare 79 = .ok (.iconst 2, 1) := by decide +kernel
theorem dX3_hasSquare_80 : decode cX3_hasSquare 80 = .ok (.iload 5, 2) := by decide +kernel
theorem dX3_hasSquare_82 : decode cX3_hasSquare 82 = .ok (.isub, 1) := by decide +kernel
theorem dX3_hasSquare_83 : decode cX3_hasSquare 83 = .ok (.istore 5, 2) := by decide +kernel
theorem dX3_hasSquare_85 : decode cX3_hasSquare 85 = .ok (.iload_n 0, 1) := by decide +kernel
theorem dX3_hasSquare_86 : decode cX3_hasSquare 86 = .ok (.iload 4, 2) := by decide +kernel
theorem dX3_hasSquare_88 : decode cX3_hasSquare 88 = .ok (.iload 5, 2) := by decide +kernel
theorem dX3_hasSquare_90 : decode cX3_hasSquare 90 = .ok (.invokestatic 48, 3) := by decide +kernel
theorem dX3_hasSquare_93 : decode cX3_hasSquare 93 = .ok (.ireturn, 1) := by decide +kernel
theorem dX3_uprightHas_0 : decode cX3_uprightHas 0 = .ok (.iload_n 0, 1) := by decide +kernel
theorem dX3_uprightHas_1 : decode cX3_uprightHas 1 = .ok (.invokestatic 23, 3) := by decide +kernel
theorem dX3_uprightHas_4 : decode cX3_uprightHas 4 = .ok (.ifCond .eq 21, 3) := by decide +kernel
theorem dX3_uprightHas_7 : decode cX3_uprightHas 7 = .ok (.iload_n 1, 1) := by decide +kernel
theorem dX3_uprightHas_8 : decode cX3_uprightHas 8 = .ok (.ifCond .lt 17, 3) := by decide +kernel
theorem dX3_uprightHas_11 : decode cX3_uprightHas 11 = .ok (.iload_n 1, 1) := by decide +kernel
theorem dX3_uprightHas_12 : decode cX3_uprightHas 12 = .ok (.iconst 5, 1) := by decide +kernel
theorem dX3_uprightHas_13 : decode cX3_uprightHas 13 = .ok (.if_icmp .ge 12, 3) := by decide +kernel
theorem dX3_uprightHas_16 : decode cX3_uprightHas 16 = .ok (.iload_n 2, 1) := by decide +kernel
theorem dX3_uprightHas_17 : decode cX3_uprightHas 17 = .ok (.ifCond .lt 8, 3) := by decide +kernel
theorem dX3_uprightHas_20 : decode cX3_uprightHas 20 = .ok (.iload_n 2, 1) := by decide +kernel
theorem dX3_uprightHas_21 : decode cX3_uprightHas 21 = .ok (.iconst 3, 1) := by decide +kernel
theorem dX3_uprightHas_22 : decode cX3_uprightHas 22 = .ok (.if_icmp .lt 5, 3) := by decide +kernel
theorem dX3_uprightHas_25 : decode cX3_uprightHas 25 = .ok (.iconst 0, 1) := by decide +kernel
theorem dX3_uprightHas_26 : decode cX3_uprightHas 26 = .ok (.ireturn, 1) := by decide +kernel
theorem dX3_uprightHas_27 : decode cX3_uprightHas 27 = .ok (.getstatic 52, 3) := by decide +kernel
theorem dX3_uprightHas_30 : decode cX3_uprightHas 30 = .ok (.iload_n 0, 1) := by decide +kernel
theorem dX3_uprightHas_31 : decode cX3_uprightHas 31 = .ok (.iconst 5, 1) := by decide +kernel
theorem dX3_uprightHas_32 : decode cX3_uprightHas 32 = .ok (.imul, 1) := by decide +kernel
theorem dX3_uprightHas_33 : decode cX3_uprightHas 33 = .ok (.iload_n 1, 1) := by decide +kernel
theorem dX3_uprightHas_34 : decode cX3_uprightHas 34 = .ok (.iadd, 1) := by decide +kernel
theorem dX3_uprightHas_35 : decode cX3_uprightHas 35 = .ok (.iaload, 1) := by decide +kernel
theorem dX3_uprightHas_36 : decode cX3_uprightHas 36 = .ok (.istore_n 3, 1) := by decide +kernel
theorem dX3_uprightHas_37 : decode cX3_uprightHas 37 = .ok (.iload_n 3, 1) := by decide +kernel
theorem dX3_uprightHas_38 : decode cX3_uprightHas 38 = .ok (.iconst 4, 1) := by decide +kernel
theorem dX3_uprightHas_39 : decode cX3_uprightHas 39 = .ok (.iload_n 2, 1) := by decide +kernel
theorem dX3_uprightHas_40 : decode cX3_uprightHas 40 = .ok (.ishr, 1) := by decide +kernel
theorem dX3_uprightHas_41 : decode cX3_uprightHas 41 = .ok (.iand, 1) := by decide +kernel
theorem dX3_uprightHas_42 : decode cX3_uprightHas 42 = .ok (.ifCond .eq 7, 3) := by decide +kernel
theorem dX3_uprightHas_45 : decode cX3_uprightHas 45 = .ok (.iconst 1, 1) := by decide +kernel
theorem dX3_uprightHas_46 : decode cX3_uprightHas 46 = .ok (.goto 4, 3) := by decide +kernel
theorem dX3_uprightHas_49 : decode cX3_uprightHas 49 = .ok (.iconst 0, 1) := by decide +kernel
theorem dX3_uprightHas_50 : decode cX3_uprightHas 50 = .ok (.ireturn, 1) := by decide +kernel
theorem dX4_init_0 : decode cX4_init 0 = .ok (.aload_n 0, 1) := by decide +kernel
theorem dX4_init_1 : decode cX4_init 1 = .ok (.invokespecial 3, 3) := by decide +kernel
theorem dX4_init_4 : decode cX4_init 4 = .ok (.aload_n 0, 1) := by decide +kernel
theorem dX4_init_5 : decode cX4_init 5 = .ok (.bipush 9, 2) := by decide +kernel
theorem dX4_init_7 : decode cX4_init 7 = .ok (.newarray .int, 2) := by decide +kernel
theorem dX4_init_9 : decode cX4_init 9 = .ok (.putfield 9, 3) := by decide +kernel
theorem dX4_init_12 : decode cX4_init 12 = .ok (.aload_n 0, 1) := by decide +kernel
theorem dX4_init_13 : decode cX4_init 13 = .ok (.aload_n 1, 1) := by decide +kernel
theorem dX4_init_14 : decode cX4_init 14 = .ok (.putfield 15, 3) := by decide +kernel
theorem dX4_init_17 : decode cX4_init 17 = .ok (.return_, 1) := by decide +kernel
theorem dX4_copyFrom_0 : decode cX4_copyFrom 0 = .ok (.aload_n 0, 1) := by decide +kernel
theorem dX4_copyFrom_1 : decode cX4_copyFrom 1 = .ok (.aload_n 1, 1) := by decide +kernel
theorem dX4_copyFrom_2 : decode cX4_copyFrom 2 = .ok (.getfield 19, 3) := by decide +kernel
theorem dX4_copyFrom_5 : decode cX4_copyFrom 5 = .ok (.putfield 19, 3) := by decide +kernel
theorem dX4_copyFrom_8 : decode cX4_copyFrom 8 = .ok (.aload_n 0, 1) := by decide +kernel
theorem dX4_copyFrom_9 : decode cX4_copyFrom 9 = .ok (.aload_n 1, 1) := by decide +kernel
theorem dX4_copyFrom_10 : decode cX4_copyFrom 10 = .ok (.getfield 23, 3) := by decide +kernel
theorem dX4_copyFrom_13 : decode cX4_copyFrom 13 = .ok (.putfield 23, 3) := by decide +kernel
theorem dX4_copyFrom_16 : decode cX4_copyFrom 16 = .ok (.iconst 0, 1) := by decide +kernel
theorem dX4_copyFrom_17 : decode cX4_copyFrom 17 = .ok (.istore_n 2, 1) := by decide +kernel
theorem dX4_copyFrom_18 : decode cX4_copyFrom 18 = .ok (.iload_n 2, 1) := by decide +kernel
theorem dX4_copyFrom_19 : decode cX4_copyFrom 19 = .ok (.bipush 9, 2) := by decide +kernel
theorem dX4_copyFrom_21 : decode cX4_copyFrom 21 = .ok (.if_icmp .ge 21, 3) := by decide +kernel
theorem dX4_copyFrom_24 : decode cX4_copyFrom 24 = .ok (.aload_n 0, 1) := by decide +kernel
theorem dX4_copyFrom_25 : decode cX4_copyFrom 25 = .ok (.getfield 9, 3) := by decide +kernel
theorem dX4_copyFrom_28 : decode cX4_copyFrom 28 = .ok (.iload_n 2, 1) := by decide +kernel
theorem dX4_copyFrom_29 : decode cX4_copyFrom 29 = .ok (.aload_n 1, 1) := by decide +kernel
theorem dX4_copyFrom_30 : decode cX4_copyFrom 30 = .ok (.getfield 9, 3) := by decide +kernel
theorem dX4_copyFrom_33 : decode cX4_copyFrom 33 = .ok (.iload_n 2, 1) := by decide +kernel
theorem dX4_copyFrom_34 : decode cX4_copyFrom 34 = .ok (.iaload, 1) := by decide +kernel
theorem dX4_copyFrom_35 : decode cX4_copyFrom 35 = .ok (.iastore, 1) := by decide +kernel
theorem dX4_copyFrom_36 : decode cX4_copyFrom 36 = .ok (.iinc 2 1, 3) := by decide +kernel
theorem dX4_copyFrom_39 : decode cX4_copyFrom 39 = .ok (.goto (-21), 3) := by decide +kernel
theorem dX4_copyFrom_42 : decode cX4_copyFrom 42 = .ok (.return_, 1) := by decide +kernel
theorem dX4_canCut_0 : decode cX4_canCut 0 = .ok (.iload 4, 2) := by decide +kernel
theorem dX4_canCut_2 : decode cX4_canCut 2 = .ok (.ifCond .lt 29, 3) := by decide +kernel
theorem dX4_canCut_5 : decode cX4_canCut 5 = .ok (.iload 4, 2) := by decide +kernel
theorem dX4_canCut_7 : decode cX4_canCut 7 = .ok (.bipush 14, 2) := by decide +kernel
theorem dX4_canCut_9 : decode cX4_canCut 9 = .ok (.if_icmp .ge 22, 3) := by decide +kernel
theorem dX4_canCut_12 : decode cX4_canCut 12 = .ok (.aload_n 0, 1) := by decide +kernel
theorem dX4_canCut_13 : decode cX4_canCut 13 = .ok (.iload_n 1, 1) := by decide +kernel
theorem dX4_canCut_14 : decode cX4_canCut 14 = .ok (.iload_n 2, 1) := by decide +kernel
theorem dX4_canCut_15 : decode cX4_canCut 15 = .ok (.iload_n 3, 1) := by decide +kernel
theorem dX4_canCut_16 : decode cX4_canCut 16 = .ok (.invokevirtual 27, 3) := by decide +kernel
theorem dX4_canCut_19 : decode cX4_canCut 19 = .ok (.iload 4, 2) := by decide +kernel
theorem dX4_canCut_21 : decode cX4_canCut 21 = .ok (.ishr, 1) := by decide +kernel
theorem dX4_canCut_22 : decode cX4_canCut 22 = .ok (.iconst 1, 1) := by decide +kernel
theorem dX4_canCut_23 : decode cX4_canCut 23 = .ok (.iand, 1) := by decide +kernel
theorem dX4_canCut_24 : decode cX4_canCut 24 = .ok (.ifCond .eq 7, 3) := by decide +kernel
theorem dX4_canCut_27 : decode cX4_canCut 27 = .ok (.iconst 1, 1) := by decide +kernel
theorem dX4_canCut_28 : decode cX4_canCut 28 = .ok (.goto 4, 3) := by decide +kernel
theorem dX4_canCut_31 : decode cX4_canCut 31 = .ok (.iconst 0, 1) := by decide +kernel
theorem dX4_canCut_32 : decode cX4_canCut 32 = .ok (.ireturn, 1) := by decide +kernel
theorem dX4_freeColumns_0 : decode cX4_freeColumns 0 = .ok (.aload_n 0, 1) := by decide +kernel
theorem dX4_freeColumns_1 : decode cX4_freeColumns 1 = .ok (.getfield 23, 3) := by decide +kernel
theorem dX4_freeColumns_4 : decode cX4_freeColumns 4 = .ok (.ifCond .ne 12, 3) := by decide +kernel
theorem dX4_freeColumns_7 : decode cX4_freeColumns 7 = .ok (.iload_n 2, 1) := by decide +kernel
theorem dX4_freeColumns_8 : decode cX4_freeColumns 8 = .ok (.iload_n 3, 1) := by decide +kernel
theorem dX4_freeColumns_9 : decode cX4_freeColumns 9 = .ok (.iconst 0, 1) := by decide +kernel
theorem dX4_freeColumns_10 : decode cX4_freeColumns 10 = .ok (.invokestatic 31, 3) := by decide +kernel
theorem dX4_freeColumns_13 : decode cX4_freeColumns 13 = .ok (.ifCond .ne 5, 3) := by decide +kernel
theorem dX4_freeColumns_16 : decode cX4_freeColumns 16 = .ok (.iconst 0, 1) := by decide +kernel
theorem dX4_freeColumns_17 : decode cX4_freeColumns 17 = .ok (.ireturn, 1) := by decide +kernel
theorem dX4_freeColumns_18 : decode cX4_freeColumns 18 = .ok (.iconst 1, 1) := by decide +kernel
theorem dX4_freeColumns_19 : decode cX4_freeColumns 19 = .ok (.bipush 14, 2) := by decide +kernel
theorem dX4_freeColumns_21 : decode cX4_freeColumns 21 = .ok (.iload_n 2, 1) := by decide +kernel
theorem dX4_freeColumns_22 : decode cX4_freeColumns 22 = .ok (.invokestatic 35, 3) := by decide +kernel
theorem dX4_freeColumns_25 : decode cX4_freeColumns 25 = .ok (.isub, 1) := by decide +kernel
theorem dX4_freeColumns_26 : decode cX4_freeColumns 26 = .ok (.iconst 1, 1) := by decide +kernel
theorem dX4_freeColumns_27 : decode cX4_freeColumns 27 = .ok (.iadd, 1) := by decide +kernel
theorem dX4_freeColumns_28 : decode cX4_freeColumns 28 = .ok (.ishl, 1) := by decide +kernel
theorem dX4_freeColumns_29 : decode cX4_freeColumns 29 = .ok (.iconst 1, 1) := by decide +kernel
theorem dX4_freeColumns_30 : decode cX4_freeColumns 30 = .ok (.isub, 1) := by decide +kernel
theorem dX4_freeColumns_31 : decode cX4_freeColumns 31 = .ok (.istore 4, 2) := by decide +kernel
theorem dX4_freeColumns_33 : decode cX4_freeColumns 33 = .ok (.iconst 0, 1) := by decide +kernel
theorem dX4_freeColumns_34 : decode cX4_freeColumns 34 = .ok (.istore 5, 2) := by decide +kernel
theorem dX4_freeColumns_36 : decode cX4_freeColumns 36 = .ok (.iload 5, 2) := by decide +kernel
theorem dX4_freeColumns_38 : decode cX4_freeColumns 38 = .ok (.iload_n 2, 1) := by decide +kernel
theorem dX4_freeColumns_39 : decode cX4_freeColumns 39 = .ok (.invokestatic 39, 3) := by decide +kernel
theorem dX4_freeColumns_42 : decode cX4_freeColumns 42 = .ok (.if_icmp .ge 69, 3) := by decide +kernel
theorem dX4_freeColumns_45 : decode cX4_freeColumns 45 = .ok (.aload_n 0, 1) := by decide +kernel
theorem dX4_freeColumns_46 : decode cX4_freeColumns 46 = .ok (.getfield 15, 3) := by decide +kernel
theorem dX4_freeColumns_49 : decode cX4_freeColumns 49 = .ok (.iload_n 1, 1) := by decide +kernel
theorem dX4_freeColumns_50 : decode cX4_freeColumns 50 = .ok (.iload_n 2, 1) := by decide +kernel
theorem dX4_freeColumns_51 : decode cX4_freeColumns 51 = .ok (.iload 5, 2) := by decide +kernel
theorem dX4_freeColumns_53 : decode cX4_freeColumns 53 = .ok (.invokevirtual 42, 3) := by decide +kernel
theorem dX4_freeColumns_56 : decode cX4_freeColumns 56 = .ok (.istore 6, 2) := by decide +kernel
theorem dX4_freeColumns_58 : decode cX4_freeColumns 58 = .ok (.iconst 0, 1) := by decide +kernel
theorem dX4_freeColumns_59 : decode cX4_freeColumns 59 = .ok (.istore 7, 2) := by decide +kernel
theorem dX4_freeColumns_61 : decode cX4_freeColumns 61 = .ok (.iload 7, 2) := by decide +kernel
theorem dX4_freeColumns_63 : decode cX4_freeColumns 63 = .ok (.iload_n 2, 1) := by decide +kernel
theorem dX4_freeColumns_64 : decode cX4_freeColumns 64 = .ok (.invokestatic 35, 3) := by decide +kernel
theorem dX4_freeColumns_67 : decode cX4_freeColumns 67 = .ok (.if_icmp .ge 38, 3) := by decide +kernel
theorem dX4_freeColumns_70 : decode cX4_freeColumns 70 = .ok (.iload 6, 2) := by decide +kernel
theorem dX4_freeColumns_72 : decode cX4_freeColumns 72 = .ok (.iload 7, 2) := by decide +kernel
theorem dX4_freeColumns_74 : decode cX4_freeColumns 74 = .ok (.ishr, 1) := by decide +kernel
theorem dX4_freeColumns_75 : decode cX4_freeColumns 75 = .ok (.iconst 1, 1) := by decide +kernel
theorem dX4_freeColumns_76 : decode cX4_freeColumns 76 = .ok (.iand, 1) := by decide +kernel
theorem dX4_freeColumns_77 : decode cX4_freeColumns 77 = .ok (.ifCond .eq 22, 3) := by decide +kernel
theorem dX4_freeColumns_80 : decode cX4_freeColumns 80 = .ok (.iload 4, 2) := by decide +kernel
theorem dX4_freeColumns_82 : decode cX4_freeColumns 82 = .ok (.aload_n 0, 1) := by decide +kernel
theorem dX4_freeColumns_83 : decode cX4_freeColumns 83 = .ok (.getfield 9, 3) := by decide +kernel
theorem dX4_freeColumns_86 : decode cX4_freeColumns 86 = .ok (.iload_n 3, 1) := by decide +kernel
theorem dX4_freeColumns_87 : decode cX4_freeColumns 87 = .ok (.iload 5, 2) := by decide +kernel
theorem dX4_freeColumns_89 : decode cX4_freeColumns 89 = .ok (.iadd, 1) := by decide +kernel
theorem dX4_freeColumns_90 : decode cX4_freeColumns 90 = .ok (.iaload, 1) := by decide +kernel
theorem dX4_freeColumns_91 : decode cX4_freeColumns 91 = .ok (.iload 7, 2) := by decide +kernel
theorem dX4_freeColumns_93 : decode cX4_freeColumns 93 = .ok (.ishr, 1) := by decide +kernel
theorem dX4_freeColumns_94 : decode cX4_freeColumns 94 = .ok (.iconst (-1), 1) := by decide +kernel
theorem dX4_freeColumns_95 : decode cX4_freeColumns 95 = .ok (.ixor, 1) := by decide +kernel
theorem dX4_freeColumns_96 : decode cX4_freeColumns 96 = .ok (.iand, 1) := by decide +kernel
theorem dX4_freeColumns_97 : decode cX4_freeColumns 97 = .ok (.istore 4, 2) := by decide +kernel
theorem dX4_freeColumns_99 : decode cX4_freeColumns 99 = .ok (.iinc 7 1, 3) := by decide +kernel
theorem dX4_freeColumns_102 : decode cX4_freeColumns 102 = .ok (.goto (-41), 3) := by decide +kernel
theorem dX4_freeColumns_105 : decode cX4_freeColumns 105 = .ok (.iinc 5 1, 3) := by decide +kernel
theorem dX4_freeColumns_108 : decode cX4_freeColumns 108 = .ok (.goto (-72), 3) := by decide +kernel
theorem dX4_freeColumns_111 : decode cX4_freeColumns 111 = .ok (.iload 4, 2) := by decide +kernel
theorem dX4_freeColumns_113 : decode cX4_freeColumns 113 = .ok (.ireturn, 1) := by decide +kernel
theorem dX4_cutOut_0 : decode cX4_cutOut 0 = .ok (.iload_n 2, 1) := by decide +kernel
theorem dX4_cutOut_1 : decode cX4_cutOut 1 = .ok (.iload_n 3, 1) := by decide +kernel
theorem dX4_cutOut_2 : decode cX4_cutOut 2 = .ok (.iload 4, 2) := by decide +kernel
theorem dX4_cutOut_4 : decode cX4_cutOut 4 = .ok (.invokestatic 31, 3) := by decide +kernel
theorem dX4_cutOut_7 : decode cX4_cutOut 7 = .ok (.ifCond .ne 4, 3) := by decide +kernel
theorem dX4_cutOut_10 : decode cX4_cutOut 10 = .ok (.return_, 1) := by decide +kernel
theorem dX4_cutOut_11 : decode cX4_cutOut 11 = .ok (.iconst 0, 1) := by decide +kernel
theorem dX4_cutOut_12 : decode cX4_cutOut 12 = .ok (.istore 5, 2) := by decide +kernel
theorem dX4_cutOut_14 : decode cX4_cutOut 14 = .ok (.iload 5, 2) := by decide +kernel
theorem dX4_cutOut_16 : decode cX4_cutOut 16 = .ok (.iload_n 2, 1) := by decide +kernel
theorem dX4_cutOut_17 : decode cX4_cutOut 17 = .ok (.invokestatic 39, 3) := by decide +kernel
theorem dX4_cutOut_20 : decode cX4_cutOut 20 = .ok (.if_icmp .ge 35, 3) := by decide +kernel
theorem dX4_cutOut_23 : decode cX4_cutOut 23 = .ok (.aload_n 0, 1) := by decide +kernel
theorem dX4_cutOut_24 : decode cX4_cutOut 24 = .ok (.getfield 9, 3) := by decide +kernel
theorem dX4_cutOut_27 : decode cX4_cutOut 27 = .ok (.iload_n 3, 1) := by decide +kernel
theorem dX4_cutOut_28 : decode cX4_cutOut 28 = .ok (.iload 5, 2) := by decide +kernel
theorem dX4_cutOut_30 : decode cX4_cutOut 30 = .ok (.iadd, 1) := by decide +kernel
theorem dX4_cutOut_31 : decode cX4_cutOut 31 = .ok (.dup2, 1) := by decide +kernel
theorem dX4_cutOut_32 : decode cX4_cutOut 32 = .ok (.iaload, 1) := by decide +kernel
theorem dX4_cutOut_33 : decode cX4_cutOut 33 = .ok (.aload_n 0, 1) := by decide +kernel
theorem dX4_cutOut_34 : decode cX4_cutOut 34 = .ok (.getfield 15, 3) := by decide +kernel
theorem dX4_cutOut_37 : decode cX4_cutOut 37 = .ok (.iload_n 1, 1) := by decide +kernel
theorem dX4_cutOut_38 : decode cX4_cutOut 38 = .ok (.iload_n 2, 1) := by decide +kernel
theorem dX4_cutOut_39 : decode cX4_cutOut 39 = .ok (.iload 5, 2) := by decide +kernel
theorem dX4_cutOut_41 : decode cX4_cutOut 41 = .ok (.invokevirtual 42, 3) := by decide +kernel
theorem dX4_cutOut_44 : decode cX4_cutOut 44 = .ok (.iload 4, 2) := by decide +kernel
theorem dX4_cutOut_46 : decode cX4_cutOut 46 = .ok (.ishl, 1) := by decide +kernel
theorem dX4_cutOut_47 : decode cX4_cutOut 47 = .ok (.ior, 1) := by decide +kernel
theorem dX4_cutOut_48 : decode cX4_cutOut 48 = .ok (.iastore, 1) := by decide +kernel
theorem dX4_cutOut_49 : decode cX4_cutOut 49 = .ok (.iinc 5 1, 3) := by decide +kernel
theorem dX4_cutOut_52 : decode cX4_cutOut 52 = .ok (.goto (-38), 3) := by decide +kernel
theorem dX4_cutOut_55 : decode cX4_cutOut 55 = .ok (.return_, 1) := by decide +kernel
theorem dX4_isOnSheet_0 : decode cX4_isOnSheet 0 = .ok (.iload_n 1, 1) := by decide +kernel
theorem dX4_isOnSheet_1 : decode cX4_isOnSheet 1 = .ok (.ifCond .lt 33, 3) := by decide +kernel
theorem dX4_isOnSheet_4 : decode cX4_isOnSheet 4 = .ok (.iload_n 1, 1) := by decide +kernel
theorem dX4_isOnSheet_5 : decode cX4_isOnSheet 5 = .ok (.bipush 9, 2) := by decide +kernel
theorem dX4_isOnSheet_7 : decode cX4_isOnSheet 7 = .ok (.iload_n 0, 1) := by decide +kernel
theorem dX4_isOnSheet_8 : decode cX4_isOnSheet 8 = .ok (.invokestatic 39, 3) := by decide +kernel
theorem dX4_isOnSheet_11 : decode cX4_isOnSheet 11 = .ok (.isub, 1) := by decide +kernel
theorem dX4_isOnSheet_12 : decode cX4_isOnSheet 12 = .ok (.if_icmp .gt 22, 3) := by decide +kernel
theorem dX4_isOnSheet_15 : decode cX4_isOnSheet 15 = .ok (.iload_n 2, 1) := by decide +kernel
theorem dX4_isOnSheet_16 : decode cX4_isOnSheet 16 = .ok (.ifCond .lt 18, 3) := by decide +kernel
theorem dX4_isOnSheet_19 : decode cX4_isOnSheet 19 = .ok (.iload_n 2, 1) := by decide +kernel
theorem dX4_isOnSheet_20 : decode cX4_isOnSheet 20 = .ok (.bipush 14, 2) := by decide +kernel
theorem dX4_isOnSheet_22 : decode cX4_isOnSheet 22 = .ok (.iload_n 0, 1) := by decide +kernel
theorem dX4_isOnSheet_23 : decode cX4_isOnSheet 23 = .ok (.invokestatic 35, 3) := by decide +kernel
theorem dX4_isOnSheet_26 : decode cX4_isOnSheet 26 = .ok (.isub, 1) := by decide +kernel
theorem dX4_isOnSheet_27 : decode cX4_isOnSheet 27 = .ok (.if_icmp .gt 7, 3) := by decide +kernel
theorem dX4_isOnSheet_30 : decode cX4_isOnSheet 30 = .ok (.iconst 1, 1) := by decide +kernel
theorem dX4_isOnSheet_31 : decode cX4_isOnSheet 31 = .ok (.goto 4, 3) := by decide +kernel
theorem dX4_isOnSheet_34 : decode cX4_isOnSheet 34 = .ok (.iconst 0, 1) := by decide +kernel
theorem dX4_isOnSheet_35 : decode cX4_isOnSheet 35 = .ok (.ireturn, 1) := by decide +kernel
theorem dX4_firstFit_0 : decode cX4_firstFit 0 = .ok (.iconst 0, 1) := by decide +kernel
theorem dX4_firstFit_1 : decode cX4_firstFit 1 = .ok (.istore_n 3, 1) := by decide +kernel
theorem dX4_firstFit_2 : decode cX4_firstFit 2 = .ok (.iload_n 3, 1) := by decide +kernel
theorem dX4_firstFit_3 : decode cX4_firstFit 3 = .ok (.bipush 9, 2) := by decide +kernel
theorem dX4_firstFit_5 : decode cX4_firstFit 5 = .ok (.if_icmp .ge 89, 3) := by decide +kernel
theorem dX4_firstFit_8 : decode cX4_firstFit 8 = .ok (.bipush 14, 2) := by decide +kernel
theorem dX4_firstFit_10 : decode cX4_firstFit 10 = .ok (.istore 4, 2) := by decide +kernel
theorem dX4_firstFit_12 : decode cX4_firstFit 12 = .ok (.bipush (-6), 2) := by decide +kernel
theorem dX4_firstFit_14 : decode cX4_firstFit 14 = .ok (.istore 5, 2) := by decide +kernel
theorem dX4_firstFit_16 : decode cX4_firstFit 16 = .ok (.iconst 0, 1) := by decide +kernel
theorem dX4_firstFit_17 : decode cX4_firstFit 17 = .ok (.istore 6, 2) := by decide +kernel
theorem dX4_firstFit_19 : decode cX4_firstFit 19 = .ok (.iload 6, 2) := by decide +kernel
theorem dX4_firstFit_21 : decode cX4_firstFit 21 = .ok (.iconst 4, 1) := by decide +kernel
theorem dX4_firstFit_22 : decode cX4_firstFit 22 = .ok (.if_icmp .ge 45, 3) := by decide +kernel
theorem dX4_firstFit_25 : decode cX4_firstFit 25 = .ok (.iload_n 2, 1) := by decide +kernel
theorem dX4_firstFit_26 : decode cX4_firstFit 26 = .ok (.iconst 4, 1) := by decide +kernel
theorem dX4_firstFit_27 : decode cX4_firstFit 27 = .ok (.imul, 1) := by decide +kernel
theorem dX4_firstFit_28 : decode cX4_firstFit 28 = .ok (.iload 6, 2) := by decide +kernel
theorem dX4_firstFit_30 : decode cX4_firstFit 30 = .ok (.iadd, 1) := by decide +kernel
theorem dX4_firstFit_31 : decode cX4_firstFit 31 = .ok (.istore 7, 2) := by decide +kernel
theorem dX4_firstFit_33 : decode cX4_firstFit 33 = .ok (.aload_n 0, 1) := by decide +kernel
theorem dX4_firstFit_34 : decode cX4_firstFit 34 = .ok (.iload_n 1, 1) := by decide +kernel
theorem dX4_firstFit_35 : decode cX4_firstFit 35 = .ok (.iload 7, 2) := by decide +kernel
theorem dX4_firstFit_37 : decode cX4_firstFit 37 = .ok (.iload_n 3, 1) := by decide +kernel
theorem dX4_firstFit_38 : decode cX4_firstFit 38 = .ok (.invokevirtual 27, 3) := by decide +kernel
theorem dX4_firstFit_41 : decode cX4_firstFit 41 = .ok (.invokestatic 47, 3) := by decide +kernel
theorem dX4_firstFit_44 : decode cX4_firstFit 44 = .ok (.istore 8, 2) := by decide +kernel
theorem dX4_firstFit_46 : decode cX4_firstFit 46 = .ok (.iload 8, 2) := by decide +kernel
theorem dX4_firstFit_48 : decode cX4_firstFit 48 = .ok (.iload 4, 2) := by decide +kernel
theorem dX4_firstFit_50 : decode cX4_firstFit 50 = .ok (.if_icmp .ge 11, 3) := by decide +kernel
theorem dX4_firstFit_53 : decode cX4_firstFit 53 = .ok (.iload 8, 2) := by decide +kernel
theorem dX4_firstFit_55 : decode cX4_firstFit 55 = .ok (.istore 4, 2) := by decide +kernel
theorem dX4_firstFit_57 : decode cX4_firstFit 57 = .ok (.iload 7, 2) := by decide +kernel
theorem dX4_firstFit_59 : decode cX4_firstFit 59 = .ok (.istore 5, 2) := by decide +kernel
theorem dX4_firstFit_61 : decode cX4_firstFit 61 = .ok (.iinc 6 1, 3) := by decide +kernel
theorem dX4_firstFit_64 : decode cX4_firstFit 64 = .ok (.goto (-45), 3) := by decide +kernel
theorem dX4_firstFit_67 : decode cX4_firstFit 67 = .ok (.iload 5, 2) := by decide +kernel
theorem dX4_firstFit_69 : decode cX4_firstFit 69 = .ok (.bipush (-6), 2) := by decide +kernel
theorem dX4_firstFit_71 : decode cX4_firstFit 71 = .ok (.if_icmp .eq 17, 3) := by decide +kernel
theorem dX4_firstFit_74 : decode cX4_firstFit 74 = .ok (.iload_n 3, 1) := by decide +kernel
theorem dX4_firstFit_75 : decode cX4_firstFit 75 = .ok (.bipush 14, 2) := by decide +kernel
theorem dX4_firstFit_77 : decode cX4_firstFit 77 = .ok (.imul, 1) := by decide +kernel
theorem dX4_firstFit_78 : decode cX4_firstFit 78 = .ok (.iload 4, 2) := by decide +kernel
theorem dX4_firstFit_80 : decode cX4_firstFit 80 = .ok (.iadd, 1) := by decide +kernel
theorem dX4_firstFit_81 : decode cX4_firstFit 81 = .ok (.bipush 8, 2) := by decide +kernel
theorem dX4_firstFit_83 : decode cX4_firstFit 83 = .ok (.imul, 1) := by decide +kernel
theorem dX4_firstFit_84 : decode cX4_firstFit 84 = .ok (.iload 5, 2) := by decide +kernel
theorem dX4_firstFit_86 : decode cX4_firstFit 86 = .ok (.iadd, 1) := by decide +kernel
theorem dX4_firstFit_87 : decode cX4_firstFit 87 = .ok (.ireturn, 1) := by decide +kernel
theorem dX4_firstFit_88 : decode cX4_firstFit 88 = .ok (.iinc 3 1, 3) := by decide +kernel
theorem dX4_firstFit_91 : decode cX4_firstFit 91 = .ok (.goto (-89), 3) := by decide +kernel
theorem dX4_firstFit_94 : decode cX4_firstFit 94 = .ok (.bipush (-6), 2) := by decide +kernel
theorem dX4_firstFit_96 : decode cX4_firstFit 96 = .ok (.ireturn, 1) := by decide +kernel
theorem dX4_cutUp_0 : decode cX4_cutUp 0 = .ok (.iconst 0, 1) := by decide +kernel
theorem dX4_cutUp_1 : decode cX4_cutUp 1 = .ok (.istore_n 3, 1) := by decide +kernel
theorem dX4_cutUp_2 : decode cX4_cutUp 2 = .ok (.iload_n 3, 1) := by decide +kernel
theorem dX4_cutUp_3 : decode cX4_cutUp 3 = .ok (.bipush 126, 2) := by decide +kernel
theorem dX4_cutUp_5 : decode cX4_cutUp 5 = .ok (.if_icmp .ge 46, 3) := by decide +kernel
theorem dX4_cutUp_8 : decode cX4_cutUp 8 = .ok (.aload_n 0, 1) := by decide +kernel
theorem dX4_cutUp_9 : decode cX4_cutUp 9 = .ok (.iload_n 1, 1) := by decide +kernel
theorem dX4_cutUp_10 : decode cX4_cutUp 10 = .ok (.iload_n 2, 1) := by decide +kernel
theorem dX4_cutUp_11 : decode cX4_cutUp 11 = .ok (.invokevirtual 50, 3) := by decide +kernel
theorem dX4_cutUp_14 : decode cX4_cutUp 14 = .ok (.istore 4, 2) := by decide +kernel
theorem dX4_cutUp_16 : decode cX4_cutUp 16 = .ok (.iload 4, 2) := by decide +kernel
theorem dX4_cutUp_18 : decode cX4_cutUp 18 = .ok (.bipush (-6), 2) := by decide +kernel
theorem dX4_cutUp_20 : decode cX4_cutUp 20 = .ok (.if_icmp .ne 5, 3) := by decide +kernel
theorem dX4_cutUp_23 : decode cX4_cutUp 23 = .ok (.iload_n 3, 1) := by decide +kernel
theorem dX4_cutUp_24 : decode cX4_cutUp 24 = .ok (.ireturn, 1) := by decide +kernel
theorem dX4_cutUp_25 : decode cX4_cutUp 25 = .ok (.aload_n 0, 1) := by decide +kernel
theorem dX4_cutUp_26 : decode cX4_cutUp 26 = .ok (.iload_n 1, 1) := by decide +kernel
theorem dX4_cutUp_27 : decode cX4_cutUp 27 = .ok (.iload 4, 2) := by decide +kernel
theorem dX4_cutUp_29 : decode cX4_cutUp 29 = .ok (.invokestatic 54, 3) := by decide +kernel
theorem dX4_cutUp_32 : decode cX4_cutUp 32 = .ok (.iload 4, 2) := by decide +kernel
theorem dX4_cutUp_34 : decode cX4_cutUp 34 = .ok (.invokestatic 57, 3) := by decide +kernel
theorem dX4_cutUp_37 : decode cX4_cutUp 37 = .ok (.iload 4, 2) := by decide +kernel
theorem dX4_cutUp_39 : decode cX4_cutUp 39 = .ok (.invokestatic 60, 3) := by decide +kernel
theorem dX4_cutUp_42 : decode cX4_cutUp 42 = .ok (.invokevirtual 63, 3) := by decide +kernel
theorem dX4_cutUp_45 : decode cX4_cutUp 45 = .ok (.iinc 3 1, 3) := by decide +kernel
theorem dX4_cutUp_48 : decode cX4_cutUp 48 = .ok (.goto (-46), 3) := by decide +kernel
theorem dX4_cutUp_51 : decode cX4_cutUp 51 = .ok (.iload_n 3, 1) := by decide +kernel
theorem dX4_cutUp_52 : decode cX4_cutUp 52 = .ok (.ireturn, 1) := by decide +kernel
theorem dX4_allFits_0 : decode cX4_allFits 0 = .ok (.iconst 0, 1) := by decide +kernel
theorem dX4_allFits_1 : decode cX4_allFits 1 = .ok (.istore_n 2, 1) := by decide +kernel
theorem dX4_allFits_2 : decode cX4_allFits 2 = .ok (.iconst 0, 1) := by decide +kernel
theorem dX4_allFits_3 : decode cX4_allFits 3 = .ok (.istore_n 3, 1) := by decide +kernel
theorem dX4_allFits_4 : decode cX4_allFits 4 = .ok (.iload_n 3, 1) := by decide +kernel
theorem dX4_allFits_5 : decode cX4_allFits 5 = .ok (.bipush 8, 2) := by decide +kernel
theorem dX4_allFits_7 : decode cX4_allFits 7 = .ok (.if_icmp .ge 39, 3) := by decide +kernel
theorem dX4_allFits_10 : decode cX4_allFits 10 = .ok (.iconst 0, 1) := by decide +kernel
theorem dX4_allFits_11 : decode cX4_allFits 11 = .ok (.istore 4, 2) := by decide +kernel
theorem dX4_allFits_13 : decode cX4_allFits 13 = .ok (.iload 4, 2) := by decide +kernel
theorem dX4_allFits_15 : decode cX4_allFits 15 = .ok (.bipush 9, 2) := by decide +kernel
theorem dX4_allFits_17 : decode cX4_allFits 17 = .ok (.if_icmp .ge 23, 3) := by decide +kernel
theorem dX4_allFits_20 : decode cX4_allFits 20 = .ok (.iload_n 2, 1) := by decide +kernel
theorem dX4_allFits_21 : decode cX4_allFits 21 = .ok (.aload_n 0, 1) := by decide +kernel
theorem dX4_allFits_22 : decode cX4_allFits 22 = .ok (.iload_n 1, 1) := by decide +kernel
theorem dX4_allFits_23 : decode cX4_allFits 23 = .ok (.iload_n 3, 1) := by decide +kernel
theorem dX4_allFits_24 : decode cX4_allFits 24 = .ok (.iload 4, 2) := by decide +kernel
theorem dX4_allFits_26 : decode cX4_allFits 26 = .ok (.invokevirtual 27, 3) := by decide +kernel
theorem dX4_allFits_29 : decode cX4_allFits 29 = .ok (.invokestatic 67, 3) := by decide +kernel
theorem dX4_allFits_32 : decode cX4_allFits 32 = .ok (.iadd, 1) := by decide +kernel
theorem dX4_allFits_33 : decode cX4_allFits 33 = .ok (.istore_n 2, 1) := by decide +kernel
theorem dX4_allFits_34 : decode cX4_allFits 34 = .ok (.iinc 4 1, 3) := by decide +kernel
theorem dX4_allFits_37 : decode cX4_allFits 37 = .ok (.goto (-24), 3) := by decide +kernel
theorem dX4_allFits_40 : decode cX4_allFits 40 = .ok (.iinc 3 1, 3) := by decide +kernel
theorem dX4_allFits_43 : decode cX4_allFits 43 = .ok (.goto (-39), 3) := by decide +kernel
theorem dX4_allFits_46 : decode cX4_allFits 46 = .ok (.iload_n 2, 1) := by decide +kernel
theorem dX4_allFits_47 : decode cX4_allFits 47 = .ok (.ireturn, 1) := by decide +kernel
theorem dX4_lettersThatFit_0 : decode cX4_lettersThatFit 0 = .ok (.iconst 0, 1) := by decide +kernel
theorem dX4_lettersThatFit_1 : decode cX4_lettersThatFit 1 = .ok (.istore_n 1, 1) := by decide +kernel
theorem dX4_lettersThatFit_2 : decode cX4_lettersThatFit 2 = .ok (.iconst 0, 1) := by decide +kernel
theorem dX4_lettersThatFit_3 : decode cX4_lettersThatFit 3 = .ok (.istore_n 2, 1) := by decide +kernel
theorem dX4_lettersThatFit_4 : decode cX4_lettersThatFit 4 = .ok (.iload_n 2, 1) := by decide +kernel
theorem dX4_lettersThatFit_5 : decode cX4_lettersThatFit 5 = .ok (.bipush 8, 2) := by decide +kernel
theorem dX4_lettersThatFit_7 : decode cX4_lettersThatFit 7 = .ok (.if_icmp .ge 37, 3) := by decide +kernel
theorem dX4_lettersThatFit_10 : decode cX4_lettersThatFit 10 = .ok (.aload_n 0, 1) := by decide +kernel
theorem dX4_lettersThatFit_11 : decode cX4_lettersThatFit 11 = .ok (.iload_n 2, 1) := by decide +kernel
theorem dX4_lettersThatFit_12 : decode cX4_lettersThatFit 12 = .ok (.iconst 0, 1) := by decide +kernel
theorem dX4_lettersThatFit_13 : decode cX4_lettersThatFit 13 = .ok (.invokevirtual 50, 3) := by decide +kernel
theorem dX4_lettersThatFit_16 : decode cX4_lettersThatFit 16 = .ok (.bipush (-6), 2) := by decide +kernel
theorem dX4_lettersThatFit_18 : decode cX4_lettersThatFit 18 = .ok (.if_icmp .ne 14, 3) := by decide +kernel
theorem dX4_lettersThatFit_21 : decode cX4_lettersThatFit 21 = .ok (.aload_n 0, 1) := by decide +kernel
theorem dX4_lettersThatFit_22 : decode cX4_lettersThatFit 22 = .ok (.iload_n 2, 1) := by decide +kernel
theorem dX4_lettersThatFit_23 : decode cX4_lettersThatFit 23 = .ok (.iconst 1, 1) := by decide +kernel
theorem dX4_lettersThatFit_24 : decode cX4_lettersThatFit 24 = .ok (.invokevirtual 50, 3) := by decide +kernel
theorem dX4_lettersThatFit_27 : decode cX4_lettersThatFit 27 = .ok (.bipush (-6), 2) := by decide +kernel
theorem dX4_lettersThatFit_29 : decode cX4_lettersThatFit 29 = .ok (.if_icmp .eq 9, 3) := by decide +kernel
theorem dX4_lettersThatFit_32 : decode cX4_lettersThatFit 32 = .ok (.iload_n 1, 1) := by decide +kernel
theorem dX4_lettersThatFit_33 : decode cX4_lettersThatFit 33 = .ok (.iconst 1, 1) := by decide +kernel
theorem dX4_lettersThatFit_34 : decode cX4_lettersThatFit 34 = .ok (.iload_n 2, 1) := by decide +kernel
theorem dX4_lettersThatFit_35 : decode cX4_lettersThatFit 35 = .ok (.ishl, 1) := by decide +kernel
theorem dX4_lettersThatFit_36 : decode cX4_lettersThatFit 36 = .ok (.ior, 1) := by decide +kernel
theorem dX4_lettersThatFit_37 : decode cX4_lettersThatFit 37 = .ok (.istore_n 1, 1) := by decide +kernel
theorem dX4_lettersThatFit_38 : decode cX4_lettersThatFit 38 = .ok (.iinc 2 1, 3) := by decide +kernel
theorem dX4_lettersThatFit_41 : decode cX4_lettersThatFit 41 = .ok (.goto (-37), 3) := by decide +kernel
theorem dX4_lettersThatFit_44 : decode cX4_lettersThatFit 44 = .ok (.iload_n 1, 1) := by decide +kernel
theorem dX4_lettersThatFit_45 : decode cX4_lettersThatFit 45 = .ok (.ireturn, 1) := by decide +kernel
theorem dX4_squaresLeft_0 : decode cX4_squaresLeft 0 = .ok (.bipush 126, 2) := by decide +kernel
theorem dX4_squaresLeft_2 : decode cX4_squaresLeft 2 = .ok (.istore_n 1, 1) := by decide +kernel
theorem dX4_squaresLeft_3 : decode cX4_squaresLeft 3 = .ok (.iconst 0, 1) := by decide +kernel
theorem dX4_squaresLeft_4 : decode cX4_squaresLeft 4 = .ok (.istore_n 2, 1) := by decide +kernel
theorem dX4_squaresLeft_5 : decode cX4_squaresLeft 5 = .ok (.iload_n 2, 1) := by decide +kernel
theorem dX4_squaresLeft_6 : decode cX4_squaresLeft 6 = .ok (.bipush 9, 2) := by decide +kernel
theorem dX4_squaresLeft_8 : decode cX4_squaresLeft 8 = .ok (.if_icmp .ge 21, 3) := by decide +kernel
theorem dX4_squaresLeft_11 : decode cX4_squaresLeft 11 = .ok (.iload_n 1, 1) := by decide +kernel
theorem dX4_squaresLeft_12 : decode cX4_squaresLeft 12 = .ok (.aload_n 0, 1) := by decide +kernel
theorem dX4_squaresLeft_13 : decode cX4_squaresLeft 13 = .ok (.getfield 9, 3) := by decide +kernel
theorem dX4_squaresLeft_16 : decode cX4_squaresLeft 16 = .ok (.iload_n 2, 1) := by decide +kernel
theorem dX4_squaresLeft_17 : decode cX4_squaresLeft 17 = .ok (.iaload, 1) := by decide +kernel
theorem dX4_squaresLeft_18 : decode cX4_squaresLeft 18 = .ok (.invokestatic 67, 3) := by decide +kernel
theorem dX4_squaresLeft_21 : decode cX4_squaresLeft 21 = .ok (.isub, 1) := by decide +kernel
theorem dX4_squaresLeft_22 : decode cX4_squaresLeft 22 = .ok (.istore_n 1, 1) := by decide +kernel
theorem dX4_squaresLeft_23 : decode cX4_squaresLeft 23 = .ok (.iinc 2 1, 3) := by decide +kernel
theorem dX4_squaresLeft_26 : decode cX4_squaresLeft 26 = .ok (.goto (-21), 3) := by decide +kernel
theorem dX4_squaresLeft_29 : decode cX4_squaresLeft 29 = .ok (.iload_n 1, 1) := by decide +kernel
theorem dX4_squaresLeft_30 : decode cX4_squaresLeft 30 = .ok (.ireturn, 1) := by decide +kernel
theorem dX5_init_0 : decode cX5_init 0 = .ok (.aload_n 0, 1) := by decide +kernel
theorem dX5_init_1 : decode cX5_init 1 = .ok (.invokespecial 3, 3) := by decide +kernel
theorem dX5_init_4 : decode cX5_init 4 = .ok (.aload_n 0, 1) := by decide +kernel
theorem dX5_init_5 : decode cX5_init 5 = .ok (.bipush 6, 2) := by decide +kernel
theorem dX5_init_7 : decode cX5_init 7 = .ok (.anewarray 9, 3) := by decide +kernel
theorem dX5_init_10 : decode cX5_init 10 = .ok (.putfield 11, 3) := by decide +kernel
theorem dX5_init_13 : decode cX5_init 13 = .ok (.aload_n 0, 1) := by decide +kernel
theorem dX5_init_14 : decode cX5_init 14 = .ok (.bipush 48, 2) := by decide +kernel
theorem dX5_init_16 : decode cX5_init 16 = .ok (.anewarray 17, 3) := by decide +kernel
theorem dX5_init_19 : decode cX5_init 19 = .ok (.putfield 19, 3) := by decide +kernel
theorem dX5_init_22 : decode cX5_init 22 = .ok (.aload_n 0, 1) := by decide +kernel
theorem dX5_init_23 : decode cX5_init 23 = .ok (.bipush 36, 2) := by decide +kernel
theorem dX5_init_25 : decode cX5_init 25 = .ok (.newarray .int, 2) := by decide +kernel
theorem dX5_init_27 : decode cX5_init 27 = .ok (.putfield 23, 3) := by decide +kernel
theorem dX5_init_30 : decode cX5_init 30 = .ok (.aload_n 0, 1) := by decide +kernel
theorem dX5_init_31 : decode cX5_init 31 = .ok (.aload_n 1, 1) := by decide +kernel
theorem dX5_init_32 : decode cX5_init 32 = .ok (.putfield 27, 3) := by decide +kernel
theorem dX5_init_35 : decode cX5_init 35 = .ok (.iconst 0, 1) := by decide +kernel
theorem dX5_init_36 : decode cX5_init 36 = .ok (.istore_n 2, 1) := by decide +kernel
theorem dX5_init_37 : decode cX5_init 37 = .ok (.iload_n 2, 1) := by decide +kernel
theorem dX5_init_38 : decode cX5_init 38 = .ok (.bipush 6, 2) := by decide +kernel
theorem dX5_init_40 : decode cX5_init 40 = .ok (.if_icmp .ge 23, 3) := by decide +kernel
theorem dX5_init_43 : decode cX5_init 43 = .ok (.aload_n 0, 1) := by decide +kernel
theorem dX5_init_44 : decode cX5_init 44 = .ok (.getfield 11, 3) := by decide +kernel
theorem dX5_init_47 : decode cX5_init 47 = .ok (.iload_n 2, 1) := by decide +kernel
theorem dX5_init_48 : decode cX5_init 48 = .ok (.new 9, 3) := by decide +kernel
theorem dX5_init_51 : decode cX5_init 51 = .ok (.dup, 1) := by decide +kernel
theorem dX5_init_52 : decode cX5_init 52 = .ok (.aload_n 1, 1) := by decide +kernel
theorem dX5_init_53 : decode cX5_init 53 = .ok (.invokespecial 31, 3) := by decide +kernel
theorem dX5_init_56 : decode cX5_init 56 = .ok (.aastore, 1) := by decide +kernel
theorem dX5_init_57 : decode cX5_init 57 = .ok (.iinc 2 1, 3) := by decide +kernel
theorem dX5_init_60 : decode cX5_init 60 = .ok (.goto (-23), 3) := by decide +kernel
theorem dX5_init_63 : decode cX5_init 63 = .ok (.iconst 0, 1) := by decide +kernel
theorem dX5_init_64 : decode cX5_init 64 = .ok (.istore_n 2, 1) := by decide +kernel
theorem dX5_init_65 : decode cX5_init 65 = .ok (.iload_n 2, 1) := by decide +kernel
theorem dX5_init_66 : decode cX5_init 66 = .ok (.bipush 48, 2) := by decide +kernel
theorem dX5_init_68 : decode cX5_init 68 = .ok (.if_icmp .ge 22, 3) := by decide +kernel
theorem dX5_init_71 : decode cX5_init 71 = .ok (.aload_n 0, 1) := by decide +kernel
theorem dX5_init_72 : decode cX5_init 72 = .ok (.getfield 19, 3) := by decide +kernel
theorem dX5_init_75 : decode cX5_init 75 = .ok (.iload_n 2, 1) := by decide +kernel
theorem dX5_init_76 : decode cX5_init 76 = .ok (.new 17, 3) := by decide +kernel
theorem dX5_init_79 : decode cX5_init 79 = .ok (.dup, 1) := by decide +kernel
theorem dX5_init_80 : decode cX5_init 80 = .ok (.invokespecial 34, 3) := by decide +kernel
theorem dX5_init_83 : decode cX5_init 83 = .ok (.aastore, 1) := by decide +kernel
theorem dX5_init_84 : decode cX5_init 84 = .ok (.iinc 2 1, 3) := by decide +kernel
theorem dX5_init_87 : decode cX5_init 87 = .ok (.goto (-22), 3) := by decide +kernel
theorem dX5_init_90 : decode cX5_init 90 = .ok (.iconst 0, 1) := by decide +kernel
theorem dX5_init_91 : decode cX5_init 91 = .ok (.istore_n 2, 1) := by decide +kernel
theorem dX5_init_92 : decode cX5_init 92 = .ok (.iload_n 2, 1) := by decide +kernel
theorem dX5_init_93 : decode cX5_init 93 = .ok (.bipush 36, 2) := by decide +kernel
theorem dX5_init_95 : decode cX5_init 95 = .ok (.if_icmp .ge 17, 3) := by decide +kernel
theorem dX5_init_98 : decode cX5_init 98 = .ok (.aload_n 0, 1) := by decide +kernel
theorem dX5_init_99 : decode cX5_init 99 = .ok (.getfield 23, 3) := by decide +kernel
theorem dX5_init_102 : decode cX5_init 102 = .ok (.iload_n 2, 1) := by decide +kernel
theorem dX5_init_103 : decode cX5_init 103 = .ok (.bipush (-6), 2) := by decide +kernel
theorem dX5_init_105 : decode cX5_init 105 = .ok (.iastore, 1) := by decide +kernel
theorem dX5_init_106 : decode cX5_init 106 = .ok (.iinc 2 1, 3) := by decide +kernel
theorem dX5_init_109 : decode cX5_init 109 = .ok (.goto (-17), 3) := by decide +kernel
theorem dX5_init_112 : decode cX5_init 112 = .ok (.return_, 1) := by decide +kernel
theorem dX5_copyFrom_0 : decode cX5_copyFrom 0 = .ok (.aload_n 0, 1) := by decide +kernel
theorem dX5_copyFrom_1 : decode cX5_copyFrom 1 = .ok (.aload_n 1, 1) := by decide +kernel
theorem dX5_copyFrom_2 : decode cX5_copyFrom 2 = .ok (.getfield 35, 3) := by decide +kernel
theorem dX5_copyFrom_5 : decode cX5_copyFrom 5 = .ok (.putfield 35, 3) := by decide +kernel
theorem dX5_copyFrom_8 : decode cX5_copyFrom 8 = .ok (.aload_n 0, 1) := by decide +kernel
theorem dX5_copyFrom_9 : decode cX5_copyFrom 9 = .ok (.aload_n 1, 1) := by decide +kernel
theorem dX5_copyFrom_10 : decode cX5_copyFrom 10 = .ok (.getfield 39, 3) := by decide +kernel
theorem dX5_copyFrom_13 : decode cX5_copyFrom 13 = .ok (.putfield 39, 3) := by decide +kernel
theorem dX5_copyFrom_16 : decode cX5_copyFrom 16 = .ok (.iconst 0, 1) := by decide +kernel
theorem dX5_copyFrom_17 : decode cX5_copyFrom 17 = .ok (.istore_n 2, 1) := by decide +kernel
theorem dX5_copyFrom_18 : decode cX5_copyFrom 18 = .ok (.iload_n 2, 1) := by decide +kernel
theorem dX5_copyFrom_19 : decode cX5_copyFrom 19 = .ok (.bipush 6, 2) := by decide +kernel
theorem dX5_copyFrom_21 : decode cX5_copyFrom 21 = .ok (.if_icmp .ge 24, 3) := by decide +kernel
theorem dX5_copyFrom_24 : decode cX5_copyFrom 24 = .ok (.aload_n 0, 1) := by decide +kernel
theorem dX5_copyFrom_25 : decode cX5_copyFrom 25 = .ok (.getfield 11, 3) := by decide +kernel
theorem dX5_copyFrom_28 : decode cX5_copyFrom 28 = .ok (.iload_n 2, 1) := by decide +kernel
theorem dX5_copyFrom_29 : decode cX5_copyFrom 29 = .ok (.aaload, 1) := by decide +kernel
theorem dX5_copyFrom_30 : decode cX5_copyFrom 30 = .ok (.aload_n 1, 1) := by decide +kernel
theorem dX5_copyFrom_31 : decode cX5_copyFrom 31 = .ok (.getfield 11, 3) := by decide +kernel
theorem dX5_copyFrom_34 : decode cX5_copyFrom 34 = .ok (.iload_n 2, 1) := by decide +kernel
theorem dX5_copyFrom_35 : decode cX5_copyFrom 35 = .ok (.aaload, 1) := by decide +kernel
theorem dX5_copyFrom_36 : decode cX5_copyFrom 36 = .ok (.invokevirtual 42, 3) := by decide +kernel
theorem dX5_copyFrom_39 : decode cX5_copyFrom 39 = .ok (.iinc 2 1, 3) := by decide +kernel
theorem dX5_copyFrom_42 : decode cX5_copyFrom 42 = .ok (.goto (-24), 3) := by decide +kernel
theorem dX5_copyFrom_45 : decode cX5_copyFrom 45 = .ok (.iconst 0, 1) := by decide +kernel
theorem dX5_copyFrom_46 : decode cX5_copyFrom 46 = .ok (.istore_n 2, 1) := by decide +kernel
theorem dX5_copyFrom_47 : decode cX5_copyFrom 47 = .ok (.iload_n 2, 1) := by decide +kernel
theorem dX5_copyFrom_48 : decode cX5_copyFrom 48 = .ok (.bipush 48, 2) := by decide +kernel
theorem dX5_copyFrom_50 : decode cX5_copyFrom 50 = .ok (.if_icmp .ge 24, 3) := by decide +kernel
theorem dX5_copyFrom_53 : decode cX5_copyFrom 53 = .ok (.aload_n 0, 1) := by decide +kernel
theorem dX5_copyFrom_54 : decode cX5_copyFrom 54 = .ok (.getfield 19, 3) := by decide +kernel
theorem dX5_copyFrom_57 : decode cX5_copyFrom 57 = .ok (.iload_n 2, 1) := by decide +kernel
theorem dX5_copyFrom_58 : decode cX5_copyFrom 58 = .ok (.aaload, 1) := by decide +kernel
theorem dX5_copyFrom_59 : decode cX5_copyFrom 59 = .ok (.aload_n 1, 1) := by decide +kernel
theorem dX5_copyFrom_60 : decode cX5_copyFrom 60 = .ok (.getfield 19, 3) := by decide +kernel
theorem dX5_copyFrom_63 : decode cX5_copyFrom 63 = .ok (.iload_n 2, 1) := by decide +kernel
theorem dX5_copyFrom_64 : decode cX5_copyFrom 64 = .ok (.aaload, 1) := by decide +kernel
theorem dX5_copyFrom_65 : decode cX5_copyFrom 65 = .ok (.invokevirtual 46, 3) := by decide +kernel
theorem dX5_copyFrom_68 : decode cX5_copyFrom 68 = .ok (.iinc 2 1, 3) := by decide +kernel
theorem dX5_copyFrom_71 : decode cX5_copyFrom 71 = .ok (.goto (-24), 3) := by decide +kernel
theorem dX5_copyFrom_74 : decode cX5_copyFrom 74 = .ok (.iconst 0, 1) := by decide +kernel
theorem dX5_copyFrom_75 : decode cX5_copyFrom 75 = .ok (.istore_n 2, 1) := by decide +kernel
theorem dX5_copyFrom_76 : decode cX5_copyFrom 76 = .ok (.iload_n 2, 1) := by decide +kernel
theorem dX5_copyFrom_77 : decode cX5_copyFrom 77 = .ok (.bipush 36, 2) := by decide +kernel
theorem dX5_copyFrom_79 : decode cX5_copyFrom 79 = .ok (.if_icmp .ge 21, 3) := by decide +kernel
theorem dX5_copyFrom_82 : decode cX5_copyFrom 82 = .ok (.aload_n 0, 1) := by decide +kernel
theorem dX5_copyFrom_83 : decode cX5_copyFrom 83 = .ok (.getfield 23, 3) := by decide +kernel
theorem dX5_copyFrom_86 : decode cX5_copyFrom 86 = .ok (.iload_n 2, 1) := by decide +kernel
theorem dX5_copyFrom_87 : decode cX5_copyFrom 87 = .ok (.aload_n 1, 1) := by decide +kernel
theorem dX5_copyFrom_88 : decode cX5_copyFrom 88 = .ok (.getfield 23, 3) := by decide +kernel
theorem dX5_copyFrom_91 : decode cX5_copyFrom 91 = .ok (.iload_n 2, 1) := by decide +kernel
theorem dX5_copyFrom_92 : decode cX5_copyFrom 92 = .ok (.iaload, 1) := by decide +kernel
theorem dX5_copyFrom_93 : decode cX5_copyFrom 93 = .ok (.iastore, 1) := by decide +kernel
theorem dX5_copyFrom_94 : decode cX5_copyFrom 94 = .ok (.iinc 2 1, 3) := by decide +kernel
theorem dX5_copyFrom_97 : decode cX5_copyFrom 97 = .ok (.goto (-21), 3) := by decide +kernel
theorem dX5_copyFrom_100 : decode cX5_copyFrom 100 = .ok (.return_, 1) := by decide +kernel
theorem dX5_sheetAt_0 : decode cX5_sheetAt 0 = .ok (.iload_n 1, 1) := by decide +kernel
theorem dX5_sheetAt_1 : decode cX5_sheetAt 1 = .ok (.ifCond .lt 26, 3) := by decide +kernel
theorem dX5_sheetAt_4 : decode cX5_sheetAt 4 = .ok (.iload_n 1, 1) := by decide +kernel
theorem dX5_sheetAt_5 : decode cX5_sheetAt 5 = .ok (.aload_n 0, 1) := by decide +kernel
theorem dX5_sheetAt_6 : decode cX5_sheetAt 6 = .ok (.getfield 35, 3) := by decide +kernel
theorem dX5_sheetAt_9 : decode cX5_sheetAt 9 = .ok (.if_icmp .ge 18, 3) := by decide +kernel
theorem dX5_sheetAt_12 : decode cX5_sheetAt 12 = .ok (.iload_n 1, 1) := by decide +kernel
theorem dX5_sheetAt_13 : decode cX5_sheetAt 13 = .ok (.bipush 6, 2) := by decide +kernel
theorem dX5_sheetAt_15 : decode cX5_sheetAt 15 = .ok (.if_icmp .ge 12, 3) := by decide +kernel
theorem dX5_sheetAt_18 : decode cX5_sheetAt 18 = .ok (.aload_n 0, 1) := by decide +kernel
theorem dX5_sheetAt_19 : decode cX5_sheetAt 19 = .ok (.getfield 11, 3) := by decide +kernel
theorem dX5_sheetAt_22 : decode cX5_sheetAt 22 = .ok (.iload_n 1, 1) := by decide +kernel
theorem dX5_sheetAt_23 : decode cX5_sheetAt 23 = .ok (.aaload, 1) := by decide +kernel
theorem dX5_sheetAt_24 : decode cX5_sheetAt 24 = .ok (.goto 4, 3) := by decide +kernel
theorem dX5_sheetAt_27 : decode cX5_sheetAt 27 = .ok (.aconst_null, 1) := by decide +kernel
theorem dX5_sheetAt_28 : decode cX5_sheetAt 28 = .ok (.areturn, 1) := by decide +kernel
theorem dX5_pieceAt_0 : decode cX5_pieceAt 0 = .ok (.iload_n 1, 1) := by decide +kernel
theorem dX5_pieceAt_1 : decode cX5_pieceAt 1 = .ok (.ifCond .lt 26, 3) := by decide +kernel
theorem dX5_pieceAt_4 : decode cX5_pieceAt 4 = .ok (.iload_n 1, 1) := by decide +kernel
theorem dX5_pieceAt_5 : decode cX5_pieceAt 5 = .ok (.aload_n 0, 1) := by decide +kernel
theorem dX5_pieceAt_6 : decode cX5_pieceAt 6 = .ok (.getfield 39, 3) := by decide +kernel
theorem dX5_pieceAt_9 : decode cX5_pieceAt 9 = .ok (.if_icmp .ge 18, 3) := by decide +kernel
theorem dX5_pieceAt_12 : decode cX5_pieceAt 12 = .ok (.iload_n 1, 1) := by decide +kernel
theorem dX5_pieceAt_13 : decode cX5_pieceAt 13 = .ok (.bipush 48, 2) := by decide +kernel
theorem dX5_pieceAt_15 : decode cX5_pieceAt 15 = .ok (.if_icmp .ge 12, 3) := by decide +kernel
theorem dX5_pieceAt_18 : decode cX5_pieceAt 18 = .ok (.aload_n 0, 1) := by decide +kernel
theorem dX5_pieceAt_19 : decode cX5_pieceAt 19 = .ok (.getfield 19, 3) := by decide +kernel
theorem dX5_pieceAt_22 : decode cX5_pieceAt 22 = .ok (.iload_n 1, 1) := by decide +kernel
theorem dX5_pieceAt_23 : decode cX5_pieceAt 23 = .ok (.aaload, 1) := by decide +kernel
theorem dX5_pieceAt_24 : decode cX5_pieceAt 24 = .ok (.goto 4, 3) := by decide +kernel
theorem dX5_pieceAt_27 : decode cX5_pieceAt 27 = .ok (.aconst_null, 1) := by decide +kernel
theorem dX5_pieceAt_28 : decode cX5_pieceAt 28 = .ok (.areturn, 1) := by decide +kernel
theorem dX5_addSheet_0 : decode cX5_addSheet 0 = .ok (.aload_n 0, 1) := by decide +kernel
theorem dX5_addSheet_1 : decode cX5_addSheet 1 = .ok (.getfield 35, 3) := by decide +kernel
theorem dX5_addSheet_4 : decode cX5_addSheet 4 = .ok (.istore_n 2, 1) := by decide +kernel
theorem dX5_addSheet_5 : decode cX5_addSheet 5 = .ok (.iload_n 2, 1) := by decide +kernel
theorem dX5_addSheet_6 : decode cX5_addSheet 6 = .ok (.ifCond .lt 9, 3) := by decide +kernel
theorem dX5_addSheet_9 : decode cX5_addSheet 9 = .ok (.iload_n 2, 1) := by decide +kernel
theorem dX5_addSheet_10 : decode cX5_addSheet 10 = .ok (.bipush 6, 2) := by decide +kernel
theorem dX5_addSheet_12 : decode cX5_addSheet 12 = .ok (.if_icmp .lt 6, 3) := by decide +kernel
theorem dX5_addSheet_15 : decode cX5_addSheet 15 = .ok (.bipush (-4), 2) := by decide +kernel
theorem dX5_addSheet_17 : decode cX5_addSheet 17 = .ok (.ireturn, 1) := by decide +kernel
theorem dX5_addSheet_18 : decode cX5_addSheet 18 = .ok (.aload_n 0, 1) := by decide +kernel
theorem dX5_addSheet_19 : decode cX5_addSheet 19 = .ok (.getfield 11, 3) := by decide +kernel
theorem dX5_addSheet_22 : decode cX5_addSheet 22 = .ok (.iload_n 2, 1) := by decide +kernel
theorem dX5_addSheet_23 : decode cX5_addSheet 23 = .ok (.aaload, 1) := by decide +kernel
theorem dX5_addSheet_24 : decode cX5_addSheet 24 = .ok (.iload_n 1, 1) := by decide +kernel
theorem dX5_addSheet_25 : decode cX5_addSheet 25 = .ok (.putfield 49, 3) := by decide +kernel
theorem dX5_addSheet_28 : decode cX5_addSheet 28 = .ok (.aload_n 0, 1) := by decide +kernel
theorem dX5_addSheet_29 : decode cX5_addSheet 29 = .ok (.dup, 1) := by decide +kernel
theorem dX5_addSheet_30 : decode cX5_addSheet 30 = .ok (.getfield 35, 3) := by decide +kernel
theorem dX5_addSheet_33 : decode cX5_addSheet 33 = .ok (.iconst 1, 1) := by decide +kernel
theorem dX5_addSheet_34 : decode cX5_addSheet 34 = .ok (.iadd, 1) := by decide +kernel
theorem dX5_addSheet_35 : decode cX5_addSheet 35 = .ok (.putfield 35, 3) := by decide +kernel
theorem dX5_addSheet_38 : decode cX5_addSheet 38 = .ok (.iload_n 2, 1) := by decide +kernel
theorem dX5_addSheet_39 : decode cX5_addSheet 39 = .ok (.ireturn, 1) := by decide +kernel
theorem dX5_cutPiece_0 : decode cX5_cutPiece 0 = .ok (.aload_n 0, 1) := by decide +kernel
theorem dX5_cutPiece_1 : decode cX5_cutPiece 1 = .ok (.iload_n 1, 1) := by decide +kernel
theorem dX5_cutPiece_2 : decode cX5_cutPiece 2 = .ok (.invokevirtual 52, 3) := by decide +kernel
theorem dX5_cutPiece_5 : decode cX5_cutPiece 5 = .ok (.astore 6, 2) := by decide +kernel
theorem dX5_cutPiece_7 : decode cX5_cutPiece 7 = .ok (.aload 6, 2) := by decide +kernel
theorem dX5_cutPiece_9 : decode cX5_cutPiece 9 = .ok (.ifnull 17, 3) := by decide +kernel
theorem dX5_cutPiece_12 : decode cX5_cutPiece 12 = .ok (.aload 6, 2) := by decide +kernel
theorem dX5_cutPiece_14 : decode cX5_cutPiece 14 = .ok (.iload_n 2, 1) := by decide +kernel
theorem dX5_cutPiece_15 : decode cX5_cutPiece 15 = .ok (.iload_n 3, 1) := by decide +kernel
theorem dX5_cutPiece_16 : decode cX5_cutPiece 16 = .ok (.iload 4, 2) := by decide +kernel
theorem dX5_cutPiece_18 : decode cX5_cutPiece 18 = .ok (.iload 5, 2) := by decide +kernel
theorem dX5_cutPiece_20 : decode cX5_cutPiece 20 = .ok (.invokevirtual 56, 3) := by decide +kernel
theorem dX5_cutPiece_23 : decode cX5_cutPiece 23 = .ok (.ifCond .ne 6, 3) := by decide +kernel
theorem dX5_cutPiece_26 : decode cX5_cutPiece 26 = .ok (.bipush (-5), 2) := by decide +kernel
theorem dX5_cutPiece_28 : decode cX5_cutPiece 28 = .ok (.ireturn, 1) := by decide +kernel
theorem dX5_cutPiece_29 : decode cX5_cutPiece 29 = .ok (.aload_n 0, 1) := by decide +kernel
theorem dX5_cutPiece_30 : decode cX5_cutPiece 30 = .ok (.iload_n 1, 1) := by decide +kernel
theorem dX5_cutPiece_31 : decode cX5_cutPiece 31 = .ok (.iload_n 2, 1) := by decide +kernel
theorem dX5_cutPiece_32 : decode cX5_cutPiece 32 = .ok (.iload_n 3, 1) := by decide +kernel
theorem dX5_cutPiece_33 : decode cX5_cutPiece 33 = .ok (.iload 4, 2) := by decide +kernel
theorem dX5_cutPiece_35 : decode cX5_cutPiece 35 = .ok (.iload 5, 2) := by decide +kernel
theorem dX5_cutPiece_37 : decode cX5_cutPiece 37 = .ok (.invokevirtual 60, 3) := by decide +kernel
theorem dX5_cutPiece_40 : decode cX5_cutPiece 40 = .ok (.ireturn, 1) := by decide +kernel
theorem dX5_addPiece_0 : decode cX5_addPiece 0 = .ok (.aload_n 0, 1) := by decide +kernel
theorem dX5_addPiece_1 : decode cX5_addPiece 1 = .ok (.getfield 39, 3) := by decide +kernel
theorem dX5_addPiece_4 : decode cX5_addPiece 4 = .ok (.istore 6, 2) := by decide +kernel
theorem dX5_addPiece_6 : decode cX5_addPiece 6 = .ok (.iload 6, 2) := by decide +kernel
theorem dX5_addPiece_8 : decode cX5_addPiece 8 = .ok (.ifCond .lt 10, 3) := by decide +kernel
theorem dX5_addPiece_11 : decode cX5_addPiece 11 = .ok (.iload 6, 2) := by decide +kernel
theorem dX5_addPiece_13 : decode cX5_addPiece 13 = .ok (.bipush 48, 2) := by decide +kernel
theorem dX5_addPiece_15 : decode cX5_addPiece 15 = .ok (.if_icmp .lt 6, 3) := by decide +kernel
theorem dX5_addPiece_18 : decode cX5_addPiece 18 = .ok (.bipush (-4), 2) := by decide +kernel
theorem dX5_addPiece_20 : decode cX5_addPiece 20 = .ok (.ireturn, 1) := by decide +kernel
theorem dX5_addPiece_21 : decode cX5_addPiece 21 = .ok (.aload_n 0, 1) := by decide +kernel
theorem dX5_addPiece_22 : decode cX5_addPiece 22 = .ok (.iload_n 1, 1) := by decide +kernel
theorem dX5_addPiece_23 : decode cX5_addPiece 23 = .ok (.invokevirtual 52, 3) := by decide +kernel
theorem dX5_addPiece_26 : decode cX5_addPiece 26 = .ok (.astore 7, 2) := by decide +kernel
theorem dX5_addPiece_28 : decode cX5_addPiece 28 = .ok (.aload 7, 2) := by decide +kernel
theorem dX5_addPiece_30 : decode cX5_addPiece 30 = .ok (.ifnonnull 6, 3) := by decide +kernel
theorem dX5_addPiece_33 : decode cX5_addPiece 33 = .ok (.bipush (-5), 2) := by decide +kernel
theorem dX5_addPiece_35 : decode cX5_addPiece 35 = .ok (.ireturn, 1) := by decide +kernel
theorem dX5_addPiece_36 : decode cX5_addPiece 36 = .ok (.aload 7, 2) := by decide +kernel
theorem dX5_addPiece_38 : decode cX5_addPiece 38 = .ok (.iload_n 2, 1) := by decide +kernel
theorem dX5_addPiece_39 : decode cX5_addPiece 39 = .ok (.iload_n 3, 1) := by decide +kernel
theorem dX5_addPiece_40 : decode cX5_addPiece 40 = .ok (.iload 4, 2) := by decide +kernel
theorem dX5_addPiece_42 : decode cX5_addPiece 42 = .ok (.iload 5, 2) := by decide +kernel
theorem dX5_addPiece_44 : decode cX5_addPiece 44 = .ok (.invokevirtual 64, 3) := by decide +kernel
theorem dX5_addPiece_47 : decode cX5_addPiece 47 = .ok (.aload_n 0, 1) := by decide +kernel
theorem dX5_addPiece_48 : decode cX5_addPiece 48 = .ok (.getfield 19, 3) := by decide +kernel
theorem dX5_addPiece_51 : decode cX5_addPiece 51 = .ok (.iload 6, 2) := by decide +kernel
theorem dX5_addPiece_53 : decode cX5_addPiece 53 = .ok (.aaload, 1) := by decide +kernel
theorem dX5_addPiece_54 : decode cX5_addPiece 54 = .ok (.astore 8, 2) := by decide +kernel
theorem dX5_addPiece_56 : decode cX5_addPiece 56 = .ok (.aload 8, 2) := by decide +kernel
theorem dX5_addPiece_58 : decode cX5_addPiece 58 = .ok (.iload_n 2, 1) := by decide +kernel
theorem dX5_addPiece_59 : decode cX5_addPiece 59 = .ok (.putfield 68, 3) := by decide +kernel
theorem dX5_addPiece_62 : decode cX5_addPiece 62 = .ok (.aload 8, 2) := by decide +kernel
theorem dX5_addPiece_64 : decode cX5_addPiece 64 = .ok (.aload 7, 2) := by decide +kernel
theorem dX5_addPiece_66 : decode cX5_addPiece 66 = .ok (.getfield 49, 3) := by decide +kernel
theorem dX5_addPiece_69 : decode cX5_addPiece 69 = .ok (.putfield 71, 3) := by decide +kernel
theorem dX5_addPiece_72 : decode cX5_addPiece 72 = .ok (.aload 8, 2) := by decide +kernel
theorem dX5_addPiece_74 : decode cX5_addPiece 74 = .ok (.iload_n 3, 1) := by decide +kernel
theorem dX5_addPiece_75 : decode cX5_addPiece 75 = .ok (.putfield 72, 3) := by decide +kernel
theorem dX5_addPiece_78 : decode cX5_addPiece 78 = .ok (.aload 8, 2) := by decide +kernel
theorem dX5_addPiece_80 : decode cX5_addPiece 80 = .ok (.iload_n 1, 1) := by decide +kernel
theorem dX5_addPiece_81 : decode cX5_addPiece 81 = .ok (.putfield 75, 3) := by decide +kernel
theorem dX5_addPiece_84 : decode cX5_addPiece 84 = .ok (.aload 8, 2) := by decide +kernel
theorem dX5_addPiece_86 : decode cX5_addPiece 86 = .ok (.iload 4, 2) := by decide +kernel
theorem dX5_addPiece_88 : decode cX5_addPiece 88 = .ok (.bipush 14, 2) := by decide +kernel
theorem dX5_addPiece_90 : decode cX5_addPiece 90 = .ok (.imul, 1) := by decide +kernel
theorem dX5_addPiece_91 : decode cX5_addPiece 91 = .ok (.iload 5, 2) := by decide +kernel
theorem dX5_addPiece_93 : decode cX5_addPiece 93 = .ok (.iadd, 1) := by decide +kernel
theorem dX5_addPiece_94 : decode cX5_addPiece 94 = .ok (.putfield 78, 3) := by decide +kernel
theorem dX5_addPiece_97 : decode cX5_addPiece 97 = .ok (.aload 8, 2) := by decide +kernel
theorem dX5_addPiece_99 : decode cX5_addPiece 99 = .ok (.invokevirtual 81, 3) := by decide +kernel
theorem dX5_addPiece_102 : decode cX5_addPiece 102 = .ok (.aload_n 0, 1) := by decide +kernel
theorem dX5_addPiece_103 : decode cX5_addPiece 103 = .ok (.dup, 1) := by decide +kernel
theorem dX5_addPiece_104 : decode cX5_addPiece 104 = .ok (.getfield 39, 3) := by decide +kernel
theorem dX5_addPiece_107 : decode cX5_addPiece 107 = .ok (.iconst 1, 1) := by decide +kernel
theorem dX5_addPiece_108 : decode cX5_addPiece 108 = .ok (.iadd, 1) := by decide +kernel
theorem dX5_addPiece_109 : decode cX5_addPiece 109 = .ok (.putfield 39, 3) := by decide +kernel
theorem dX5_addPiece_112 : decode cX5_addPiece 112 = .ok (.iload 6, 2) := by decide +kernel
theorem dX5_addPiece_114 : decode cX5_addPiece 114 = .ok (.ireturn, 1) := by decide +kernel
theorem dX5_makePiece_0 : decode cX5_makePiece 0 = .ok (.iconst 0, 1) := by decide +kernel
theorem dX5_makePiece_1 : decode cX5_makePiece 1 = .ok (.istore 4, 2) := by decide +kernel
theorem dX5_makePiece_3 : decode cX5_makePiece 3 = .ok (.iload 4, 2) := by decide +kernel
theorem dX5_makePiece_5 : decode cX5_makePiece 5 = .ok (.aload_n 0, 1) := by decide +kernel
theorem dX5_makePiece_6 : decode cX5_makePiece 6 = .ok (.getfield 35, 3) := by decide +kernel
theorem dX5_makePiece_9 : decode cX5_makePiece 9 = .ok (.if_icmp .ge 73, 3) := by decide +kernel
theorem dX5_makePiece_12 : decode cX5_makePiece 12 = .ok (.aload_n 0, 1) := by decide +kernel
theorem dX5_makePiece_13 : decode cX5_makePiece 13 = .ok (.iload 4, 2) := by decide +kernel
theorem dX5_makePiece_15 : decode cX5_makePiece 15 = .ok (.invokevirtual 52, 3) := by decide +kernel
theorem dX5_makePiece_18 : decode cX5_makePiece 18 = .ok (.astore 5, 2) := by decide +kernel
theorem dX5_makePiece_20 : decode cX5_makePiece 20 = .ok (.aload 5, 2) := by decide +kernel
theorem dX5_makePiece_22 : decode cX5_makePiece 22 = .ok (.ifnull 54, 3) := by decide +kernel
theorem dX5_makePiece_25 : decode cX5_makePiece 25 = .ok (.aload 5, 2) := by decide +kernel
theorem dX5_makePiece_27 : decode cX5_makePiece 27 = .ok (.getfield 49, 3) := by decide +kernel
theorem dX5_makePiece_30 : decode cX5_makePiece 30 = .ok (.iload_n 1, 1) := by decide +kernel
theorem dX5_makePiece_31 : decode cX5_makePiece 31 = .ok (.if_icmp .eq 6, 3) := by decide +kernel
theorem dX5_makePiece_34 : decode cX5_makePiece 34 = .ok (.goto 42, 3) := by decide +kernel
theorem dX5_makePiece_37 : decode cX5_makePiece 37 = .ok (.aload 5, 2) := by decide +kernel
theorem dX5_makePiece_39 : decode cX5_makePiece 39 = .ok (.iload_n 2, 1) := by decide +kernel
theorem dX5_makePiece_40 : decode cX5_makePiece 40 = .ok (.iload_n 3, 1) := by decide +kernel
theorem dX5_makePiece_41 : decode cX5_makePiece 41 = .ok (.invokevirtual 84, 3) := by decide +kernel
theorem dX5_makePiece_44 : decode cX5_makePiece 44 = .ok (.istore 6, 2) := by decide +kernel
theorem dX5_makePiece_46 : decode cX5_makePiece 46 = .ok (.iload 6, 2) := by decide +kernel
theorem dX5_makePiece_48 : decode cX5_makePiece 48 = .ok (.bipush (-6), 2) := by decide +kernel
theorem dX5_makePiece_50 : decode cX5_makePiece 50 = .ok (.if_icmp .eq 26, 3) := by decide +kernel
theorem dX5_makePiece_53 : decode cX5_makePiece 53 = .ok (.aload_n 0, 1) := by decide +kernel
theorem dX5_makePiece_54 : decode cX5_makePiece 54 = .ok (.iload 4, 2) := by decide +kernel
theorem dX5_makePiece_56 : decode cX5_makePiece 56 = .ok (.iload_n 2, 1) := by decide +kernel
theorem dX5_makePiece_57 : decode cX5_makePiece 57 = .ok (.iload 6, 2) := by decide +kernel
theorem dX5_makePiece_59 : decode cX5_makePiece 59 = .ok (.invokestatic 88, 3) := by decide +kernel
theorem dX5_makePiece_62 : decode cX5_makePiece 62 = .ok (.iload 6, 2) := by decide +kernel
theorem dX5_makePiece_64 : decode cX5_makePiece 64 = .ok (.invokestatic 92, 3) := by decide +kernel
theorem dX5_makePiece_67 : decode cX5_makePiece 67 = .ok (.iload 6, 2) := by decide +kernel
theorem dX5_makePiece_69 : decode cX5_makePiece 69 = .ok (.invokestatic 95, 3) := by decide +kernel
theorem dX5_makePiece_72 : decode cX5_makePiece 72 = .ok (.invokevirtual 60, 3) := by decide +kernel
theorem dX5_makePiece_75 : decode cX5_makePiece 75 = .ok (.ireturn, 1) := by decide +kernel
theorem dX5_makePiece_76 : decode cX5_makePiece 76 = .ok (.iinc 4 1, 3) := by decide +kernel
theorem dX5_makePiece_79 : decode cX5_makePiece 79 = .ok (.goto (-76), 3) := by decide +kernel
theorem dX5_makePiece_82 : decode cX5_makePiece 82 = .ok (.bipush (-5), 2) := by decide +kernel
theorem dX5_makePiece_84 : decode cX5_makePiece 84 = .ok (.ireturn, 1) := by decide +kernel
theorem dX5_writeName_0 : decode cX5_writeName 0 = .ok (.iconst 0, 1) := by decide +kernel
theorem dX5_writeName_1 : decode cX5_writeName 1 = .ok (.istore 6, 2) := by decide +kernel
theorem dX5_writeName_3 : decode cX5_writeName 3 = .ok (.iconst 0, 1) := by decide +kernel
theorem dX5_writeName_4 : decode cX5_writeName 4 = .ok (.istore 7, 2) := by decide +kernel
theorem dX5_writeName_6 : decode cX5_writeName 6 = .ok (.iload 7, 2) := by decide +kernel
theorem dX5_writeName_8 : decode cX5_writeName 8 = .ok (.aload_n 1, 1) := by decide +kernel
theorem dX5_writeName_9 : decode cX5_writeName 9 = .ok (.getfield 98, 3) := by decide +kernel
theorem dX5_writeName_12 : decode cX5_writeName 12 = .ok (.if_icmp .ge 86, 3) := by decide +kernel
theorem dX5_writeName_15 : decode cX5_writeName 15 = .ok (.aload_n 1, 1) := by decide +kernel
theorem dX5_writeName_16 : decode cX5_writeName 16 = .ok (.iload 5, 2) := by decide +kernel
theorem dX5_writeName_18 : decode cX5_writeName 18 = .ok (.iconst 1, 1) := by decide +kernel
theorem dX5_writeName_19 : decode cX5_writeName 19 = .ok (.if_icmp .ne 15, 3) := by decide +kernel
theorem dX5_writeName_22 : decode cX5_writeName 22 = .ok (.aload_n 1, 1) := by decide +kernel
theorem dX5_writeName_23 : decode cX5_writeName 23 = .ok (.getfield 98, 3) := by decide +kernel
theorem dX5_writeName_26 : decode cX5_writeName 26 = .ok (.iconst 1, 1) := by decide +kernel
theorem dX5_writeName_27 : decode cX5_writeName 27 = .ok (.isub, 1) := by decide +kernel
theorem dX5_writeName_28 : decode cX5_writeName 28 = .ok (.iload 7, 2) := by decide +kernel
theorem dX5_writeName_30 : decode cX5_writeName 30 = .ok (.isub, 1) := by decide +kernel
theorem dX5_writeName_31 : decode cX5_writeName 31 = .ok (.goto 5, 3) := by decide +kernel
theorem dX5_writeName_34 : decode cX5_writeName 34 = .ok (.iload 7, 2) := by decide +kernel
theorem dX5_writeName_36 : decode cX5_writeName 36 = .ok (.invokevirtual 103, 3) := by decide +kernel
theorem dX5_writeName_39 : decode cX5_writeName 39 = .ok (.istore 8, 2) := by decide +kernel
theorem dX5_writeName_41 : decode cX5_writeName 41 = .ok (.aload_n 0, 1) := by decide +kernel
theorem dX5_writeName_42 : decode cX5_writeName 42 = .ok (.iload 8, 2) := by decide +kernel
theorem dX5_writeName_44 : decode cX5_writeName 44 = .ok (.iload 4, 2) := by decide +kernel
theorem dX5_writeName_46 : decode cX5_writeName 46 = .ok (.iload 5, 2) := by decide +kernel
theorem dX5_writeName_48 : decode cX5_writeName 48 = .ok (.invokevirtual 106, 3) := by decide +kernel
theorem dX5_writeName_51 : decode cX5_writeName 51 = .ok (.istore 9, 2) := by decide +kernel
theorem dX5_writeName_53 : decode cX5_writeName 53 = .ok (.iload 9, 2) := by decide +kernel
theorem dX5_writeName_55 : decode cX5_writeName 55 = .ok (.bipush (-6), 2) := by decide +kernel
theorem dX5_writeName_57 : decode cX5_writeName 57 = .ok (.if_icmp .ne 18, 3) := by decide +kernel
theorem dX5_writeName_60 : decode cX5_writeName 60 = .ok (.aload_n 0, 1) := by decide +kernel
theorem dX5_writeName_61 : decode cX5_writeName 61 = .ok (.iload 4, 2) := by decide +kernel
theorem dX5_writeName_63 : decode cX5_writeName 63 = .ok (.iload 8, 2) := by decide +kernel
theorem dX5_writeName_65 : decode cX5_writeName 65 = .ok (.iload 5, 2) := by decide +kernel
theorem dX5_writeName_67 : decode cX5_writeName 67 = .ok (.invokevirtual 110, 3) := by decide +kernel
theorem dX5_writeName_70 : decode cX5_writeName 70 = .ok (.istore 9, 2) := by decide +kernel
theorem dX5_writeName_72 : decode cX5_writeName 72 = .ok (.iinc 6 1, 3) := by decide +kernel
theorem dX5_writeName_75 : decode cX5_writeName 75 = .ok (.aload_n 0, 1) := by decide +kernel
theorem dX5_writeName_76 : decode cX5_writeName 76 = .ok (.iload 9, 2) := by decide +kernel
theorem dX5_writeName_78 : decode cX5_writeName 78 = .ok (.iload_n 2, 1) := by decide +kernel
theorem dX5_writeName_79 : decode cX5_writeName 79 = .ok (.iload_n 3, 1) := by decide +kernel
theorem dX5_writeName_80 : decode cX5_writeName 80 = .ok (.iload 7, 2) := by decide +kernel
theorem dX5_writeName_82 : decode cX5_writeName 82 = .ok (.iadd, 1) := by decide +kernel
theorem dX5_writeName_83 : decode cX5_writeName 83 = .ok (.invokevirtual 113, 3) := by decide +kernel
theorem dX5_writeName_86 : decode cX5_writeName 86 = .ok (.ifCond .ge 6, 3) := by decide +kernel
theorem dX5_writeName_89 : decode cX5_writeName 89 = .ok (.bipush (-5), 2) := by decide +kernel
theorem dX5_writeName_91 : decode cX5_writeName 91 = .ok (.ireturn, 1) := by decide +kernel
theorem dX5_writeName_92 : decode cX5_writeName 92 = .ok (.iinc 7 1, 3) := by decide +kernel
theorem dX5_writeName_95 : decode cX5_writeName 95 = .ok (.goto (-89), 3) := by decide +kernel
theorem dX5_writeName_98 : decode cX5_writeName 98 = .ok (.iload 6, 2) := by decide +kernel
theorem dX5_writeName_100 : decode cX5_writeName 100 = .ok (.ireturn, 1) := by decide +kernel
theorem dX5_lowestLoose_0 : decode cX5_lowestLoose 0 = .ok (.iconst 0, 1) := by decide +kernel
theorem dX5_lowestLoose_1 : decode cX5_lowestLoose 1 = .ok (.istore 4, 2) := by decide +kernel
theorem dX5_lowestLoose_3 : decode cX5_lowestLoose 3 = .ok (.iload 4, 2) := by decide +kernel
theorem dX5_lowestLoose_5 : decode cX5_lowestLoose 5 = .ok (.aload_n 0, 1) := by decide +kernel
theorem dX5_lowestLoose_6 : decode cX5_lowestLoose 6 = .ok (.getfield 39, 3) := by decide +kernel
theorem dX5_lowestLoose_9 : decode cX5_lowestLoose 9 = .ok (.if_icmp .ge 63, 3) := by decide +kernel
theorem dX5_lowestLoose_12 : decode cX5_lowestLoose 12 = .ok (.aload_n 0, 1) := by decide +kernel
theorem dX5_lowestLoose_13 : decode cX5_lowestLoose 13 = .ok (.iload 4, 2) := by decide +kernel
theorem dX5_lowestLoose_15 : decode cX5_lowestLoose 15 = .ok (.invokevirtual 116, 3) := by decide +kernel
theorem dX5_lowestLoose_18 : decode cX5_lowestLoose 18 = .ok (.astore 5, 2) := by decide +kernel
theorem dX5_lowestLoose_20 : decode cX5_lowestLoose 20 = .ok (.aload 5, 2) := by decide +kernel
theorem dX5_lowestLoose_22 : decode cX5_lowestLoose 22 = .ok (.ifnull 44, 3) := by decide +kernel
theorem dX5_lowestLoose_25 : decode cX5_lowestLoose 25 = .ok (.aload 5, 2) := by decide +kernel
theorem dX5_lowestLoose_27 : decode cX5_lowestLoose 27 = .ok (.getfield 120, 3) := by decide +kernel
theorem dX5_lowestLoose_30 : decode cX5_lowestLoose 30 = .ok (.ifCond .ne 36, 3) := by decide +kernel
theorem dX5_lowestLoose_33 : decode cX5_lowestLoose 33 = .ok (.aload 5, 2) := by decide +kernel
theorem dX5_lowestLoose_35 : decode cX5_lowestLoose 35 = .ok (.getfield 68, 3) := by decide +kernel
theorem dX5_lowestLoose_38 : decode cX5_lowestLoose 38 = .ok (.iload_n 1, 1) := by decide +kernel
theorem dX5_lowestLoose_39 : decode cX5_lowestLoose 39 = .ok (.if_icmp .ne 27, 3) := by decide +kernel
theorem dX5_lowestLoose_42 : decode cX5_lowestLoose 42 = .ok (.aload 5, 2) := by decide +kernel
theorem dX5_lowestLoose_44 : decode cX5_lowestLoose 44 = .ok (.getfield 71, 3) := by decide +kernel
theorem dX5_lowestLoose_47 : decode cX5_lowestLoose 47 = .ok (.iload_n 2, 1) := by decide +kernel
theorem dX5_lowestLoose_48 : decode cX5_lowestLoose 48 = .ok (.if_icmp .ne 18, 3) := by decide +kernel
theorem dX5_lowestLoose_51 : decode cX5_lowestLoose 51 = .ok (.aload 5, 2) := by decide +kernel
theorem dX5_lowestLoose_53 : decode cX5_lowestLoose 53 = .ok (.getfield 72, 3) := by decide +kernel
theorem dX5_lowestLoose_56 : decode cX5_lowestLoose 56 = .ok (.invokestatic 123, 3) := by decide +kernel
theorem dX5_lowestLoose_59 : decode cX5_lowestLoose 59 = .ok (.iload_n 3, 1) := by decide +kernel
theorem dX5_lowestLoose_60 : decode cX5_lowestLoose 60 = .ok (.if_icmp .ne 6, 3) := by decide +kernel
theorem dX5_lowestLoose_63 : decode cX5_lowestLoose 63 = .ok (.iload 4, 2) := by decide +kernel
theorem dX5_lowestLoose_65 : decode cX5_lowestLoose 65 = .ok (.ireturn, 1) := by decide +kernel
theorem dX5_lowestLoose_66 : decode cX5_lowestLoose 66 = .ok (.iinc 4 1, 3) := by decide +kernel
theorem dX5_lowestLoose_69 : decode cX5_lowestLoose 69 = .ok (.goto (-66), 3) := by decide +kernel
theorem dX5_lowestLoose_72 : decode cX5_lowestLoose 72 = .ok (.bipush (-6), 2) := by decide +kernel
theorem dX5_lowestLoose_74 : decode cX5_lowestLoose 74 = .ok (.ireturn, 1) := by decide +kernel
theorem dX5_putIntoPane_0 : decode cX5_putIntoPane 0 = .ok (.aload_n 0, 1) := by decide +kernel
theorem dX5_putIntoPane_1 : decode cX5_putIntoPane 1 = .ok (.iload_n 1, 1) := by decide +kernel
theorem dX5_putIntoPane_2 : decode cX5_putIntoPane 2 = .ok (.invokevirtual 116, 3) := by decide +kernel
theorem dX5_putIntoPane_5 : decode cX5_putIntoPane 5 = .ok (.astore 4, 2) := by decide +kernel
theorem dX5_putIntoPane_7 : decode cX5_putIntoPane 7 = .ok (.aload 4, 2) := by decide +kernel
theorem dX5_putIntoPane_9 : decode cX5_putIntoPane 9 = .ok (.ifnull 25, 3) := by decide +kernel
theorem dX5_putIntoPane_12 : decode cX5_putIntoPane 12 = .ok (.aload 4, 2) := by decide +kernel
theorem dX5_putIntoPane_14 : decode cX5_putIntoPane 14 = .ok (.getfield 120, 3) := by decide +kernel
theorem dX5_putIntoPane_17 : decode cX5_putIntoPane 17 = .ok (.ifCond .ne 17, 3) := by decide +kernel
theorem dX5_putIntoPane_20 : decode cX5_putIntoPane 20 = .ok (.iload_n 2, 1) := by decide +kernel
theorem dX5_putIntoPane_21 : decode cX5_putIntoPane 21 = .ok (.invokestatic 126, 3) := by decide +kernel
theorem dX5_putIntoPane_24 : decode cX5_putIntoPane 24 = .ok (.ifCond .eq 10, 3) := by decide +kernel
theorem dX5_putIntoPane_27 : decode cX5_putIntoPane 27 = .ok (.iload_n 3, 1) := by decide +kernel
theorem dX5_putIntoPane_28 : decode cX5_putIntoPane 28 = .ok (.invokestatic 130, 3) := by decide +kernel
theorem dX5_putIntoPane_31 : decode cX5_putIntoPane 31 = .ok (.ifCond .ne 6, 3) := by decide +kernel
theorem dX5_putIntoPane_34 : decode cX5_putIntoPane 34 = .ok (.bipush (-5), 2) := by decide +kernel
theorem dX5_putIntoPane_36 : decode cX5_putIntoPane 36 = .ok (.ireturn, 1) := by decide +kernel
theorem dX5_putIntoPane_37 : decode cX5_putIntoPane 37 = .ok (.iload_n 2, 1) := by decide +kernel
theorem dX5_putIntoPane_38 : decode cX5_putIntoPane 38 = .ok (.bipush 12, 2) := by decide +kernel
theorem dX5_putIntoPane_40 : decode cX5_putIntoPane 40 = .ok (.imul, 1) := by decide +kernel
theorem dX5_putIntoPane_41 : decode cX5_putIntoPane 41 = .ok (.iload_n 3, 1) := by decide +kernel
theorem dX5_putIntoPane_42 : decode cX5_putIntoPane 42 = .ok (.iadd, 1) := by decide +kernel
theorem dX5_putIntoPane_43 : decode cX5_putIntoPane 43 = .ok (.istore 5, 2) := by decide +kernel
theorem dX5_putIntoPane_45 : decode cX5_putIntoPane 45 = .ok (.aload_n 0, 1) := by decide +kernel
theorem dX5_putIntoPane_46 : decode cX5_putIntoPane 46 = .ok (.getfield 23, 3) := by decide +kernel
theorem dX5_putIntoPane_49 : decode cX5_putIntoPane 49 = .ok (.iload 5, 2) := by decide +kernel
theorem dX5_putIntoPane_51 : decode cX5_putIntoPane 51 = .ok (.iaload, 1) := by decide +kernel
theorem dX5_putIntoPane_52 : decode cX5_putIntoPane 52 = .ok (.bipush (-6), 2) := by decide +kernel
theorem dX5_putIntoPane_54 : decode cX5_putIntoPane 54 = .ok (.if_icmp .eq 6, 3) := by decide +kernel
theorem dX5_putIntoPane_57 : decode cX5_putIntoPane 57 = .ok (.bipush (-5), 2) := by decide +kernel
theorem dX5_putIntoPane_59 : decode cX5_putIntoPane 59 = .ok (.ireturn, 1) := by decide +kernel
theorem dX5_putIntoPane_60 : decode cX5_putIntoPane 60 = .ok (.aload_n 0, 1) := by decide +kernel
theorem dX5_putIntoPane_61 : decode cX5_putIntoPane 61 = .ok (.getfield 23, 3) := by decide +kernel
theorem dX5_putIntoPane_64 : decode cX5_putIntoPane 64 = .ok (.iload 5, 2) := by decide +kernel
theorem dX5_putIntoPane_66 : decode cX5_putIntoPane 66 = .ok (.iload_n 1, 1) := by decide +kernel
theorem dX5_putIntoPane_67 : decode cX5_putIntoPane 67 = .ok (.iastore, 1) := by decide +kernel
theorem dX5_putIntoPane_68 : decode cX5_putIntoPane 68 = .ok (.aload 4, 2) := by decide +kernel
theorem dX5_putIntoPane_70 : decode cX5_putIntoPane 70 = .ok (.iconst 1, 1) := by decide +kernel
theorem dX5_putIntoPane_71 : decode cX5_putIntoPane 71 = .ok (.putfield 120, 3) := by decide +kernel
theorem dX5_putIntoPane_74 : decode cX5_putIntoPane 74 = .ok (.aload 4, 2) := by decide +kernel
theorem dX5_putIntoPane_76 : decode cX5_putIntoPane 76 = .ok (.iload 5, 2) := by decide +kernel
theorem dX5_putIntoPane_78 : decode cX5_putIntoPane 78 = .ok (.putfield 133, 3) := by decide +kernel
theorem dX5_putIntoPane_81 : decode cX5_putIntoPane 81 = .ok (.aload_n 0, 1) := by decide +kernel
theorem dX5_putIntoPane_82 : decode cX5_putIntoPane 82 = .ok (.iload_n 2, 1) := by decide +kernel
theorem dX5_putIntoPane_83 : decode cX5_putIntoPane 83 = .ok (.invokevirtual 136, 3) := by decide +kernel
theorem dX5_putIntoPane_86 : decode cX5_putIntoPane 86 = .ok (.ireturn, 1) := by decide +kernel
theorem dX5_clearPane_0 : decode cX5_clearPane 0 = .ok (.iload_n 1, 1) := by decide +kernel
theorem dX5_clearPane_1 : decode cX5_clearPane 1 = .ok (.invokestatic 126, 3) := by decide +kernel
theorem dX5_clearPane_4 : decode cX5_clearPane 4 = .ok (.ifCond .ne 5, 3) := by decide +kernel
theorem dX5_clearPane_7 : decode cX5_clearPane 7 = .ok (.iconst (-1), 1) := by decide +kernel
theorem dX5_clearPane_8 : decode cX5_clearPane 8 = .ok (.ireturn, 1) := by decide +kernel
theorem dX5_clearPane_9 : decode cX5_clearPane 9 = .ok (.iconst 0, 1) := by decide +kernel
theorem dX5_clearPane_10 : decode cX5_clearPane 10 = .ok (.istore_n 2, 1) := by decide +kernel
theorem dX5_clearPane_11 : decode cX5_clearPane 11 = .ok (.iconst 0, 1) := by decide +kernel
theorem dX5_clearPane_12 : decode cX5_clearPane 12 = .ok (.istore_n 3, 1) := by decide +kernel
theorem dX5_clearPane_13 : decode cX5_clearPane 13 = .ok (.iload_n 3, 1) := by decide +kernel
theorem dX5_clearPane_14 : decode cX5_clearPane 14 = .ok (.bipush 12, 2) := by decide +kernel
theorem dX5_clearPane_16 : decode cX5_clearPane 16 = .ok (.if_icmp .ge 52, 3) := by decide +kernel
theorem dX5_clearPane_19 : decode cX5_clearPane 19 = .ok (.aload_n 0, 1) := by decide +kernel
theorem dX5_clearPane_20 : decode cX5_clearPane 20 = .ok (.aload_n 0, 1) := by decide +kernel
theorem dX5_clearPane_21 : decode cX5_clearPane 21 = .ok (.getfield 23, 3) := by decide +kernel
theorem dX5_clearPane_24 : decode cX5_clearPane 24 = .ok (.iload_n 1, 1) := by decide +kernel
theorem dX5_clearPane_25 : decode cX5_clearPane 25 = .ok (.bipush 12, 2) := by decide +kernel
theorem dX5_clearPane_27 : decode cX5_clearPane 27 = .ok (.imul, 1) := by decide +kernel
theorem dX5_clearPane_28 : decode cX5_clearPane 28 = .ok (.iload_n 3, 1) := by decide +kernel
theorem dX5_clearPane_29 : decode cX5_clearPane 29 = .ok (.iadd, 1) := by decide +kernel
theorem dX5_clearPane_30 : decode cX5_clearPane 30 = .ok (.iaload, 1) := by decide +kernel
theorem dX5_clearPane_31 : decode cX5_clearPane 31 = .ok (.invokevirtual 116, 3) := by decide +kernel
theorem dX5_clearPane_34 : decode cX5_clearPane 34 = .ok (.astore 4, 2) := by decide +kernel
theorem dX5_clearPane_36 : decode cX5_clearPane 36 = .ok (.aload 4, 2) := by decide +kernel
theorem dX5_clearPane_38 : decode cX5_clearPane 38 = .ok (.ifnull 24, 3) := by decide +kernel
theorem dX5_clearPane_41 : decode cX5_clearPane 41 = .ok (.aload 4, 2) := by decide +kernel
theorem dX5_clearPane_43 : decode cX5_clearPane 43 = .ok (.invokevirtual 81, 3) := by decide +kernel
theorem dX5_clearPane_46 : decode cX5_clearPane 46 = .ok (.aload_n 0, 1) := by decide +kernel
theorem dX5_clearPane_47 : decode cX5_clearPane 47 = .ok (.getfield 23, 3) := by decide +kernel
theorem dX5_clearPane_50 : decode cX5_clearPane 50 = .ok (.iload_n 1, 1) := by decide +kernel
theorem dX5_clearPane_51 : decode cX5_clearPane 51 = .ok (.bipush 12, 2) := by decide +kernel
theorem dX5_clearPane_53 : decode cX5_clearPane 53 = .ok (.imul, 1) := by decide +kernel
theorem dX5_clearPane_54 : decode cX5_clearPane 54 = .ok (.iload_n 3, 1) := by decide +kernel
theorem dX5_clearPane_55 : decode cX5_clearPane 55 = .ok (.iadd, 1) := by decide +kernel
theorem dX5_clearPane_56 : decode cX5_clearPane 56 = .ok (.bipush (-6), 2) := by decide +kernel
theorem dX5_clearPane_58 : decode cX5_clearPane 58 = .ok (.iastore, 1) := by decide +kernel
theorem dX5_clearPane_59 : decode cX5_clearPane 59 = .ok (.iinc 2 1, 3) := by decide +kernel
theorem dX5_clearPane_62 : decode cX5_clearPane 62 = .ok (.iinc 3 1, 3) := by decide +kernel
theorem dX5_clearPane_65 : decode cX5_clearPane 65 = .ok (.goto (-52), 3) := by decide +kernel
theorem dX5_clearPane_68 : decode cX5_clearPane 68 = .ok (.iload_n 2, 1) := by decide +kernel
theorem dX5_clearPane_69 : decode cX5_clearPane 69 = .ok (.ireturn, 1) := by decide +kernel
theorem dX5_wastePiece_0 : decode cX5_wastePiece 0 = .ok (.aload_n 0, 1) := by decide +kernel
theorem dX5_wastePiece_1 : decode cX5_wastePiece 1 = .ok (.iload_n 1, 1) := by decide +kernel
theorem dX5_wastePiece_2 : decode cX5_wastePiece 2 = .ok (.invokevirtual 116, 3) := by decide +kernel
theorem dX5_wastePiece_5 : decode cX5_wastePiece 5 = .ok (.astore_n 2, 1) := by decide +kernel
theorem dX5_wastePiece_6 : decode cX5_wastePiece 6 = .ok (.aload_n 2, 1) := by decide +kernel
theorem dX5_wastePiece_7 : decode cX5_wastePiece 7 = .ok (.ifnull 10, 3) := by decide +kernel
theorem dX5_wastePiece_10 : decode cX5_wastePiece 10 = .ok (.aload_n 2, 1) := by decide +kernel
theorem dX5_wastePiece_11 : decode cX5_wastePiece 11 = .ok (.getfield 120, 3) := by decide +kernel
theorem dX5_wastePiece_14 : decode cX5_wastePiece 14 = .ok (.ifCond .eq 6, 3) := by decide +kernel
theorem dX5_wastePiece_17 : decode cX5_wastePiece 17 = .ok (.bipush (-5), 2) := by decide +kernel
theorem dX5_wastePiece_19 : decode cX5_wastePiece 19 = .ok (.ireturn, 1) := by decide +kernel
theorem dX5_wastePiece_20 : decode cX5_wastePiece 20 = .ok (.aload_n 2, 1) := by decide +kernel
theorem dX5_wastePiece_21 : decode cX5_wastePiece 21 = .ok (.iconst 2, 1) := by decide +kernel
theorem dX5_wastePiece_22 : decode cX5_wastePiece 22 = .ok (.putfield 120, 3) := by decide +kernel
theorem dX5_wastePiece_25 : decode cX5_wastePiece 25 = .ok (.aload_n 0, 1) := by decide +kernel
theorem dX5_wastePiece_26 : decode cX5_wastePiece 26 = .ok (.getfield 27, 3) := by decide +kernel
theorem dX5_wastePiece_29 : decode cX5_wastePiece 29 = .ok (.aload_n 2, 1) := by decide +kernel
theorem dX5_wastePiece_30 : decode cX5_wastePiece 30 = .ok (.getfield 68, 3) := by decide +kernel
theorem dX5_wastePiece_33 : decode cX5_wastePiece 33 = .ok (.invokevirtual 139, 3) := by decide +kernel
theorem dX5_wastePiece_36 : decode cX5_wastePiece 36 = .ok (.ireturn, 1) := by decide +kernel
theorem dX5_scrapSheet_0 : decode cX5_scrapSheet 0 = .ok (.aload_n 0, 1) := by decide +kernel
theorem dX5_scrapSheet_1 : decode cX5_scrapSheet 1 = .ok (.iload_n 1, 1) := by decide +kernel
theorem dX5_scrapSheet_2 : decode cX5_scrapSheet 2 = .ok (.invokevirtual 52, 3) := by decide +kernel
theorem dX5_scrapSheet_5 : decode cX5_scrapSheet 5 = .ok (.astore_n 2, 1) := by decide +kernel
theorem dX5_scrapSheet_6 : decode cX5_scrapSheet 6 = .ok (.aload_n 2, 1) := by decide +kernel
theorem dX5_scrapSheet_7 : decode cX5_scrapSheet 7 = .ok (.ifnull 10, 3) := by decide +kernel
theorem dX5_scrapSheet_10 : decode cX5_scrapSheet 10 = .ok (.aload_n 2, 1) := by decide +kernel
theorem dX5_scrapSheet_11 : decode cX5_scrapSheet 11 = .ok (.getfield 144, 3) := by decide +kernel
theorem dX5_scrapSheet_14 : decode cX5_scrapSheet 14 = .ok (.ifCond .eq 6, 3) := by decide +kernel
theorem dX5_scrapSheet_17 : decode cX5_scrapSheet 17 = .ok (.bipush (-5), 2) := by decide +kernel
theorem dX5_scrapSheet_19 : decode cX5_scrapSheet 19 = .ok (.ireturn, 1) := by decide +kernel
theorem dX5_scrapSheet_20 : decode cX5_scrapSheet 20 = .ok (.aload_n 2, 1) := by decide +kernel
theorem dX5_scrapSheet_21 : decode cX5_scrapSheet 21 = .ok (.iconst 1, 1) := by decide +kernel
theorem dX5_scrapSheet_22 : decode cX5_scrapSheet 22 = .ok (.putfield 144, 3) := by decide +kernel
theorem dX5_scrapSheet_25 : decode cX5_scrapSheet 25 = .ok (.aload_n 2, 1) := by decide +kernel
theorem dX5_scrapSheet_26 : decode cX5_scrapSheet 26 = .ok (.invokevirtual 148, 3) := by decide +kernel
theorem dX5_scrapSheet_29 : decode cX5_scrapSheet 29 = .ok (.ireturn, 1) := by decide +kernel
theorem dX5_piecesIn_0 : decode cX5_piecesIn 0 = .ok (.iconst 0, 1) := by decide +kernel
theorem dX5_piecesIn_1 : decode cX5_piecesIn 1 = .ok (.istore_n 2, 1) := by decide +kernel
theorem dX5_piecesIn_2 : decode cX5_piecesIn 2 = .ok (.iconst 0, 1) := by decide +kernel
theorem dX5_piecesIn_3 : decode cX5_piecesIn 3 = .ok (.istore_n 3, 1) := by decide +kernel
theorem dX5_piecesIn_4 : decode cX5_piecesIn 4 = .ok (.iload_n 3, 1) := by decide +kernel
theorem dX5_piecesIn_5 : decode cX5_piecesIn 5 = .ok (.aload_n 0, 1) := by decide +kernel
theorem dX5_piecesIn_6 : decode cX5_piecesIn 6 = .ok (.getfield 39, 3) := by decide +kernel
theorem dX5_piecesIn_9 : decode cX5_piecesIn 9 = .ok (.if_icmp .ge 45, 3) := by decide +kernel
theorem dX5_piecesIn_12 : decode cX5_piecesIn 12 = .ok (.aload_n 0, 1) := by decide +kernel
theorem dX5_piecesIn_13 : decode cX5_piecesIn 13 = .ok (.iload_n 3, 1) := by decide +kernel
theorem dX5_piecesIn_14 : decode cX5_piecesIn 14 = .ok (.invokevirtual 116, 3) := by decide +kernel
theorem dX5_piecesIn_17 : decode cX5_piecesIn 17 = .ok (.astore 4, 2) := by decide +kernel
theorem dX5_piecesIn_19 : decode cX5_piecesIn 19 = .ok (.aload 4, 2) := by decide +kernel
theorem dX5_piecesIn_21 : decode cX5_piecesIn 21 = .ok (.ifnull 27, 3) := by decide +kernel
theorem dX5_piecesIn_24 : decode cX5_piecesIn 24 = .ok (.aload 4, 2) := by decide +kernel
theorem dX5_piecesIn_26 : decode cX5_piecesIn 26 = .ok (.getfield 120, 3) := by decide +kernel
theorem dX5_piecesIn_29 : decode cX5_piecesIn 29 = .ok (.iconst 1, 1) := by decide +kernel
theorem dX5_piecesIn_30 : decode cX5_piecesIn 30 = .ok (.if_icmp .ne 18, 3) := by decide +kernel
theorem dX5_piecesIn_33 : decode cX5_piecesIn 33 = .ok (.aload 4, 2) := by decide +kernel
theorem dX5_piecesIn_35 : decode cX5_piecesIn 35 = .ok (.getfield 133, 3) := by decide +kernel
theorem dX5_piecesIn_38 : decode cX5_piecesIn 38 = .ok (.bipush 12, 2) := by decide +kernel
theorem dX5_piecesIn_40 : decode cX5_piecesIn 40 = .ok (.idiv, 1) := by decide +kernel
theorem dX5_piecesIn_41 : decode cX5_piecesIn 41 = .ok (.iload_n 1, 1) := by decide +kernel
theorem dX5_piecesIn_42 : decode cX5_piecesIn 42 = .ok (.if_icmp .ne 6, 3) := by decide +kernel
theorem dX5_piecesIn_45 : decode cX5_piecesIn 45 = .ok (.iinc 2 1, 3) := by decide +kernel
theorem dX5_piecesIn_48 : decode cX5_piecesIn 48 = .ok (.iinc 3 1, 3) := by decide +kernel
theorem dX5_piecesIn_51 : decode cX5_piecesIn 51 = .ok (.goto (-47), 3) := by decide +kernel
theorem dX5_piecesIn_54 : decode cX5_piecesIn 54 = .ok (.iload_n 2, 1) := by decide +kernel
theorem dX5_piecesIn_55 : decode cX5_piecesIn 55 = .ok (.ireturn, 1) := by decide +kernel
theorem dX5_piecesFrom_0 : decode cX5_piecesFrom 0 = .ok (.iconst 0, 1) := by decide +kernel
theorem dX5_piecesFrom_1 : decode cX5_piecesFrom 1 = .ok (.istore_n 2, 1) := by decide +kernel
theorem dX5_piecesFrom_2 : decode cX5_piecesFrom 2 = .ok (.iconst 0, 1) := by decide +kernel
theorem dX5_piecesFrom_3 : decode cX5_piecesFrom 3 = .ok (.istore_n 3, 1) := by decide +kernel
theorem dX5_piecesFrom_4 : decode cX5_piecesFrom 4 = .ok (.iload_n 3, 1) := by decide +kernel
theorem dX5_piecesFrom_5 : decode cX5_piecesFrom 5 = .ok (.aload_n 0, 1) := by decide +kernel
theorem dX5_piecesFrom_6 : decode cX5_piecesFrom 6 = .ok (.getfield 39, 3) := by decide +kernel
theorem dX5_piecesFrom_9 : decode cX5_piecesFrom 9 = .ok (.if_icmp .ge 33, 3) := by decide +kernel
theorem dX5_piecesFrom_12 : decode cX5_piecesFrom 12 = .ok (.aload_n 0, 1) := by decide +kernel
theorem dX5_piecesFrom_13 : decode cX5_piecesFrom 13 = .ok (.iload_n 3, 1) := by decide +kernel
theorem dX5_piecesFrom_14 : decode cX5_piecesFrom 14 = .ok (.invokevirtual 116, 3) := by decide +kernel
theorem dX5_piecesFrom_17 : decode cX5_piecesFrom 17 = .ok (.astore 4, 2) := by decide +kernel
theorem dX5_piecesFrom_19 : decode cX5_piecesFrom 19 = .ok (.aload 4, 2) := by decide +kernel
theorem dX5_piecesFrom_21 : decode cX5_piecesFrom 21 = .ok (.ifnull 15, 3) := by decide +kernel
theorem dX5_piecesFrom_24 : decode cX5_piecesFrom 24 = .ok (.aload 4, 2) := by decide +kernel
theorem dX5_piecesFrom_26 : decode cX5_piecesFrom 26 = .ok (.getfield 75, 3) := by decide +kernel
theorem dX5_piecesFrom_29 : decode cX5_piecesFrom 29 = .ok (.iload_n 1, 1) := by decide +kernel
theorem dX5_piecesFrom_30 : decode cX5_piecesFrom 30 = .ok (.if_icmp .ne 6, 3) := by decide +kernel
theorem dX5_piecesFrom_33 : decode cX5_piecesFrom 33 = .ok (.iinc 2 1, 3) := by decide +kernel
theorem dX5_piecesFrom_36 : decode cX5_piecesFrom 36 = .ok (.iinc 3 1, 3) := by decide +kernel
theorem dX5_piecesFrom_39 : decode cX5_piecesFrom 39 = .ok (.goto (-35), 3) := by decide +kernel
theorem dX5_piecesFrom_42 : decode cX5_piecesFrom 42 = .ok (.iload_n 2, 1) := by decide +kernel
theorem dX5_piecesFrom_43 : decode cX5_piecesFrom 43 = .ok (.ireturn, 1) := by decide +kernel
theorem dX5_piecesThatAre_0 : decode cX5_piecesThatAre 0 = .ok (.iconst 0, 1) := by decide +kernel
theorem dX5_piecesThatAre_1 : decode cX5_piecesThatAre 1 = .ok (.istore_n 2, 1) := by decide +kernel
theorem dX5_piecesThatAre_2 : decode cX5_piecesThatAre 2 = .ok (.iconst 0, 1) := by decide +kernel
theorem dX5_piecesThatAre_3 : decode cX5_piecesThatAre 3 = .ok (.istore_n 3, 1) := by decide +kernel
theorem dX5_piecesThatAre_4 : decode cX5_piecesThatAre 4 = .ok (.iload_n 3, 1) := by decide +kernel
theorem dX5_piecesThatAre_5 : decode cX5_piecesThatAre 5 = .ok (.aload_n 0, 1) := by decide +kernel
theorem dX5_piecesThatAre_6 : decode cX5_piecesThatAre 6 = .ok (.getfield 39, 3) := by decide +kernel
theorem dX5_piecesThatAre_9 : decode cX5_piecesThatAre 9 = .ok (.if_icmp .ge 33, 3) := by decide +kernel
theorem dX5_piecesThatAre_12 : decode cX5_piecesThatAre 12 = .ok (.aload_n 0, 1) := by decide +kernel
theorem dX5_piecesThatAre_13 : decode cX5_piecesThatAre 13 = .ok (.iload_n 3, 1) := by decide +kernel
theorem dX5_piecesThatAre_14 : decode cX5_piecesThatAre 14 = .ok (.invokevirtual 116, 3) := by decide +kernel
theorem dX5_piecesThatAre_17 : decode cX5_piecesThatAre 17 = .ok (.astore 4, 2) := by decide +kernel
theorem dX5_piecesThatAre_19 : decode cX5_piecesThatAre 19 = .ok (.aload 4, 2) := by decide +kernel
theorem dX5_piecesThatAre_21 : decode cX5_piecesThatAre 21 = .ok (.ifnull 15, 3) := by decide +kernel
theorem dX5_piecesThatAre_24 : decode cX5_piecesThatAre 24 = .ok (.aload 4, 2) := by decide +kernel
theorem dX5_piecesThatAre_26 : decode cX5_piecesThatAre 26 = .ok (.getfield 120, 3) := by decide +kernel
theorem dX5_piecesThatAre_29 : decode cX5_piecesThatAre 29 = .ok (.iload_n 1, 1) := by decide +kernel
theorem dX5_piecesThatAre_30 : decode cX5_piecesThatAre 30 = .ok (.if_icmp .ne 6, 3) := by decide +kernel
theorem dX5_piecesThatAre_33 : decode cX5_piecesThatAre 33 = .ok (.iinc 2 1, 3) := by decide +kernel
theorem dX5_piecesThatAre_36 : decode cX5_piecesThatAre 36 = .ok (.iinc 3 1, 3) := by decide +kernel
theorem dX5_piecesThatAre_39 : decode cX5_piecesThatAre 39 = .ok (.goto (-35), 3) := by decide +kernel
theorem dX5_piecesThatAre_42 : decode cX5_piecesThatAre 42 = .ok (.iload_n 2, 1) := by decide +kernel
theorem dX5_piecesThatAre_43 : decode cX5_piecesThatAre 43 = .ok (.ireturn, 1) := by decide +kernel
theorem dX5_squaresOfPieces_0 : decode cX5_squaresOfPieces 0 = .ok (.iconst 0, 1) := by decide +kernel
theorem dX5_squaresOfPieces_1 : decode cX5_squaresOfPieces 1 = .ok (.istore_n 2, 1) := by decide +kernel
theorem dX5_squaresOfPieces_2 : decode cX5_squaresOfPieces 2 = .ok (.iconst 0, 1) := by decide +kernel
theorem dX5_squaresOfPieces_3 : decode cX5_squaresOfPieces 3 = .ok (.istore_n 3, 1) := by decide +kernel
theorem dX5_squaresOfPieces_4 : decode cX5_squaresOfPieces 4 = .ok (.iload_n 3, 1) := by decide +kernel
theorem dX5_squaresOfPieces_5 : decode cX5_squaresOfPieces 5 = .ok (.aload_n 0, 1) := by decide +kernel
theorem dX5_squaresOfPieces_6 : decode cX5_squaresOfPieces 6 = .ok (.getfield 39, 3) := by decide +kernel
theorem dX5_squaresOfPieces_9 : decode cX5_squaresOfPieces 9 = .ok (.if_icmp .ge 45, 3) := by decide +kernel
theorem dX5_squaresOfPieces_12 : decode cX5_squaresOfPieces 12 = .ok (.aload_n 0, 1) := by decide +kernel
theorem dX5_squaresOfPieces_13 : decode cX5_squaresOfPieces 13 = .ok (.iload_n 3, 1) := by decide +kernel
theorem dX5_squaresOfPieces_14 : decode cX5_squaresOfPieces 14 = .ok (.invokevirtual 116, 3) := by decide +kernel
theorem dX5_squaresOfPieces_17 : decode cX5_squaresOfPieces 17 = .ok (.astore 4, 2) := by decide +kernel
theorem dX5_squaresOfPieces_19 : decode cX5_squaresOfPieces 19 = .ok (.aload 4, 2) := by decide +kernel
theorem dX5_squaresOfPieces_21 : decode cX5_squaresOfPieces 21 = .ok (.ifnull 27, 3) := by decide +kernel
theorem dX5_squaresOfPieces_24 : decode cX5_squaresOfPieces 24 = .ok (.aload 4, 2) := by decide +kernel
theorem dX5_squaresOfPieces_26 : decode cX5_squaresOfPieces 26 = .ok (.getfield 120, 3) := by decide +kernel
theorem dX5_squaresOfPieces_29 : decode cX5_squaresOfPieces 29 = .ok (.iload_n 1, 1) := by decide +kernel
theorem dX5_squaresOfPieces_30 : decode cX5_squaresOfPieces 30 = .ok (.if_icmp .ne 18, 3) := by decide +kernel
theorem dX5_squaresOfPieces_33 : decode cX5_squaresOfPieces 33 = .ok (.iload_n 2, 1) := by decide +kernel
theorem dX5_squaresOfPieces_34 : decode cX5_squaresOfPieces 34 = .ok (.aload_n 0, 1) := by decide +kernel
theorem dX5_squaresOfPieces_35 : decode cX5_squaresOfPieces 35 = .ok (.getfield 27, 3) := by decide +kernel
theorem dX5_squaresOfPieces_38 : decode cX5_squaresOfPieces 38 = .ok (.aload 4, 2) := by decide +kernel
theorem dX5_squaresOfPieces_40 : decode cX5_squaresOfPieces 40 = .ok (.getfield 68, 3) := by decide +kernel
theorem dX5_squaresOfPieces_43 : decode cX5_squaresOfPieces 43 = .ok (.invokevirtual 139, 3) := by decide +kernel
theorem dX5_squaresOfPieces_46 : decode cX5_squaresOfPieces 46 = .ok (.iadd, 1) := by decide +kernel
theorem dX5_squaresOfPieces_47 : decode cX5_squaresOfPieces 47 = .ok (.istore_n 2, 1) := by decide +kernel
theorem dX5_squaresOfPieces_48 : decode cX5_squaresOfPieces 48 = .ok (.iinc 3 1, 3) := by decide +kernel
theorem dX5_squaresOfPieces_51 : decode cX5_squaresOfPieces 51 = .ok (.goto (-47), 3) := by decide +kernel
theorem dX5_squaresOfPieces_54 : decode cX5_squaresOfPieces 54 = .ok (.iload_n 2, 1) := by decide +kernel
theorem dX5_squaresOfPieces_55 : decode cX5_squaresOfPieces 55 = .ok (.ireturn, 1) := by decide +kernel
theorem dX5_squaresOfSheets_0 : decode cX5_squaresOfSheets 0 = .ok (.iconst 0, 1) := by decide +kernel
theorem dX5_squaresOfSheets_1 : decode cX5_squaresOfSheets 1 = .ok (.istore_n 2, 1) := by decide +kernel
theorem dX5_squaresOfSheets_2 : decode cX5_squaresOfSheets 2 = .ok (.iconst 0, 1) := by decide +kernel
theorem dX5_squaresOfSheets_3 : decode cX5_squaresOfSheets 3 = .ok (.istore_n 3, 1) := by decide +kernel
theorem dX5_squaresOfSheets_4 : decode cX5_squaresOfSheets 4 = .ok (.iload_n 3, 1) := by decide +kernel
theorem dX5_squaresOfSheets_5 : decode cX5_squaresOfSheets 5 = .ok (.aload_n 0, 1) := by decide +kernel
theorem dX5_squaresOfSheets_6 : decode cX5_squaresOfSheets 6 = .ok (.getfield 35, 3) := by decide +kernel
theorem dX5_squaresOfSheets_9 : decode cX5_squaresOfSheets 9 = .ok (.if_icmp .ge 38, 3) := by decide +kernel
theorem dX5_squaresOfSheets_12 : decode cX5_squaresOfSheets 12 = .ok (.aload_n 0, 1) := by decide +kernel
theorem dX5_squaresOfSheets_13 : decode cX5_squaresOfSheets 13 = .ok (.iload_n 3, 1) := by decide +kernel
theorem dX5_squaresOfSheets_14 : decode cX5_squaresOfSheets 14 = .ok (.invokevirtual 52, 3) := by decide +kernel
theorem dX5_squaresOfSheets_17 : decode cX5_squaresOfSheets 17 = .ok (.astore 4, 2) := by decide +kernel
theorem dX5_squaresOfSheets_19 : decode cX5_squaresOfSheets 19 = .ok (.aload 4, 2) := by decide +kernel
theorem dX5_squaresOfSheets_21 : decode cX5_squaresOfSheets 21 = .ok (.ifnull 20, 3) := by decide +kernel
theorem dX5_squaresOfSheets_24 : decode cX5_squaresOfSheets 24 = .ok (.aload 4, 2) := by decide +kernel
theorem dX5_squaresOfSheets_26 : decode cX5_squaresOfSheets 26 = .ok (.getfield 144, 3) := by decide +kernel
theorem dX5_squaresOfSheets_29 : decode cX5_squaresOfSheets 29 = .ok (.iload_n 1, 1) := by decide +kernel
theorem dX5_squaresOfSheets_30 : decode cX5_squaresOfSheets 30 = .ok (.if_icmp .ne 11, 3) := by decide +kernel
theorem dX5_squaresOfSheets_33 : decode cX5_squaresOfSheets 33 = .ok (.iload_n 2, 1) := by decide +kernel
theorem dX5_squaresOfSheets_34 : decode cX5_squaresOfSheets 34 = .ok (.aload 4, 2) := by decide +kernel
theorem dX5_squaresOfSheets_36 : decode cX5_squaresOfSheets 36 = .ok (.invokevirtual 148, 3) := by decide +kernel
theorem dX5_squaresOfSheets_39 : decode cX5_squaresOfSheets 39 = .ok (.iadd, 1) := by decide +kernel
theorem dX5_squaresOfSheets_40 : decode cX5_squaresOfSheets 40 = .ok (.istore_n 2, 1) := by decide +kernel
theorem dX5_squaresOfSheets_41 : decode cX5_squaresOfSheets 41 = .ok (.iinc 3 1, 3) := by decide +kernel
theorem dX5_squaresOfSheets_44 : decode cX5_squaresOfSheets 44 = .ok (.goto (-40), 3) := by decide +kernel
theorem dX5_squaresOfSheets_47 : decode cX5_squaresOfSheets 47 = .ok (.iload_n 2, 1) := by decide +kernel
theorem dX5_squaresOfSheets_48 : decode cX5_squaresOfSheets 48 = .ok (.ireturn, 1) := by decide +kernel
theorem dX6_init_0 : decode cX6_init 0 = .ok (.aload_n 0, 1) := by decide +kernel
theorem dX6_init_1 : decode cX6_init 1 = .ok (.invokespecial 1, 3) := by decide +kernel
theorem dX6_init_4 : decode cX6_init 4 = .ok (.aload_n 0, 1) := by decide +kernel
theorem dX6_init_5 : decode cX6_init 5 = .ok (.new 7, 3) := by decide +kernel
theorem dX6_init_8 : decode cX6_init 8 = .ok (.dup, 1) := by decide +kernel
theorem dX6_init_9 : decode cX6_init 9 = .ok (.invokespecial 9, 3) := by decide +kernel
theorem dX6_init_12 : decode cX6_init 12 = .ok (.putfield 10, 3) := by decide +kernel
theorem dX6_init_15 : decode cX6_init 15 = .ok (.aload_n 0, 1) := by decide +kernel
theorem dX6_init_16 : decode cX6_init 16 = .ok (.new 16, 3) := by decide +kernel
theorem dX6_init_19 : decode cX6_init 19 = .ok (.dup, 1) := by decide +kernel
theorem dX6_init_20 : decode cX6_init 20 = .ok (.aload_n 0, 1) := by decide +kernel
theorem dX6_init_21 : decode cX6_init 21 = .ok (.getfield 10, 3) := by decide +kernel
theorem dX6_init_24 : decode cX6_init 24 = .ok (.invokespecial 18, 3) := by decide +kernel
theorem dX6_init_27 : decode cX6_init 27 = .ok (.putfield 21, 3) := by decide +kernel
theorem dX6_init_30 : decode cX6_init 30 = .ok (.aload_n 0, 1) := by decide +kernel
theorem dX6_init_31 : decode cX6_init 31 = .ok (.new 16, 3) := by decide +kernel
theorem dX6_init_34 : decode cX6_init 34 = .ok (.dup, 1) := by decide +kernel
theorem dX6_init_35 : decode cX6_init 35 = .ok (.aload_n 0, 1) := by decide +kernel
theorem dX6_init_36 : decode cX6_init 36 = .ok (.getfield 10, 3) := by decide +kernel
theorem dX6_init_39 : decode cX6_init 39 = .ok (.invokespecial 18, 3) := by decide +kernel
theorem dX6_init_42 : decode cX6_init 42 = .ok (.putfield 25, 3) := by decide +kernel
theorem dX6_init_45 : decode cX6_init 45 = .ok (.aload_n 0, 1) := by decide +kernel
theorem dX6_init_46 : decode cX6_init 46 = .ok (.new 28, 3) := by decide +kernel
theorem dX6_init_49 : decode cX6_init 49 = .ok (.dup, 1) := by decide +kernel
theorem dX6_init_50 : decode cX6_init 50 = .ok (.aload_n 0, 1) := by decide +kernel
theorem dX6_init_51 : decode cX6_init 51 = .ok (.getfield 10, 3) := by decide +kernel
theorem dX6_init_54 : decode cX6_init 54 = .ok (.invokespecial 30, 3) := by decide +kernel
theorem dX6_init_57 : decode cX6_init 57 = .ok (.putfield 31, 3) := by decide +kernel
theorem dX6_init_60 : decode cX6_init 60 = .ok (.aload_n 0, 1) := by decide +kernel
theorem dX6_init_61 : decode cX6_init 61 = .ok (.iconst 2, 1) := by decide +kernel
theorem dX6_init_62 : decode cX6_init 62 = .ok (.anewarray 16, 3) := by decide +kernel
theorem dX6_init_65 : decode cX6_init 65 = .ok (.putfield 35, 3) := by decide +kernel
theorem dX6_init_68 : decode cX6_init 68 = .ok (.aload_n 0, 1) := by decide +kernel
theorem dX6_init_69 : decode cX6_init 69 = .ok (.new 39, 3) := by decide +kernel
theorem dX6_init_72 : decode cX6_init 72 = .ok (.dup, 1) := by decide +kernel
theorem dX6_init_73 : decode cX6_init 73 = .ok (.aload_n 0, 1) := by decide +kernel
theorem dX6_init_74 : decode cX6_init 74 = .ok (.getfield 10, 3) := by decide +kernel
theorem dX6_init_77 : decode cX6_init 77 = .ok (.invokespecial 41, 3) := by decide +kernel
theorem dX6_init_80 : decode cX6_init 80 = .ok (.putfield 42, 3) := by decide +kernel
theorem dX6_init_83 : decode cX6_init 83 = .ok (.aload_n 0, 1) := by decide +kernel
theorem dX6_init_84 : decode cX6_init 84 = .ok (.new 46, 3) := by decide +kernel
theorem dX6_init_87 : decode cX6_init 87 = .ok (.dup, 1) := by decide +kernel
theorem dX6_init_88 : decode cX6_init 88 = .ok (.invokespecial 48, 3) := by decide +kernel
theorem dX6_init_91 : decode cX6_init 91 = .ok (.putfield 49, 3) := by decide +kernel
theorem dX6_init_94 : decode cX6_init 94 = .ok (.return_, 1) := by decide +kernel
theorem dX6_sheet_0 : decode cX6_sheet 0 = .ok (.iload_n 1, 1) := by decide +kernel
theorem dX6_sheet_1 : decode cX6_sheet 1 = .ok (.invokestatic 53, 3) := by decide +kernel
theorem dX6_sheet_4 : decode cX6_sheet 4 = .ok (.ifCond .ne 6, 3) := by decide +kernel
theorem dX6_sheet_7 : decode cX6_sheet 7 = .ok (.bipush (-2), 2) := by decide +kernel
theorem dX6_sheet_9 : decode cX6_sheet 9 = .ok (.ireturn, 1) := by decide +kernel
theorem dX6_sheet_10 : decode cX6_sheet 10 = .ok (.aload_n 0, 1) := by decide +kernel
theorem dX6_sheet_11 : decode cX6_sheet 11 = .ok (.aload_n 0, 1) := by decide +kernel
theorem dX6_sheet_12 : decode cX6_sheet 12 = .ok (.invokevirtual 57, 3) := by decide +kernel
theorem dX6_sheet_15 : decode cX6_sheet 15 = .ok (.iload_n 1, 1) := by decide +kernel
theorem dX6_sheet_16 : decode cX6_sheet 16 = .ok (.invokevirtual 61, 3) := by decide +kernel
theorem dX6_sheet_19 : decode cX6_sheet 19 = .ok (.invokevirtual 65, 3) := by decide +kernel
theorem dX6_sheet_22 : decode cX6_sheet 22 = .ok (.ireturn, 1) := by decide +kernel
theorem dX6_cut_0 : decode cX6_cut 0 = .ok (.aload_n 0, 1) := by decide +kernel
theorem dX6_cut_1 : decode cX6_cut 1 = .ok (.getfield 21, 3) := by decide +kernel
theorem dX6_cut_4 : decode cX6_cut 4 = .ok (.iload_n 1, 1) := by decide +kernel
theorem dX6_cut_5 : decode cX6_cut 5 = .ok (.invokevirtual 68, 3) := by decide +kernel
theorem dX6_cut_8 : decode cX6_cut 8 = .ok (.ifnull 10, 3) := by decide +kernel
theorem dX6_cut_11 : decode cX6_cut 11 = .ok (.iload_n 2, 1) := by decide +kernel
theorem dX6_cut_12 : decode cX6_cut 12 = .ok (.invokestatic 72, 3) := by decide +kernel
theorem dX6_cut_15 : decode cX6_cut 15 = .ok (.ifCond .ne 5, 3) := by decide +kernel
theorem dX6_cut_18 : decode cX6_cut 18 = .ok (.iconst (-1), 1) := by decide +kernel
theorem dX6_cut_19 : decode cX6_cut 19 = .ok (.ireturn, 1) := by decide +kernel
theorem dX6_cut_20 : decode cX6_cut 20 = .ok (.iload_n 3, 1) := by decide +kernel
theorem dX6_cut_21 : decode cX6_cut 21 = .ok (.invokestatic 75, 3) := by decide +kernel
theorem dX6_cut_24 : decode cX6_cut 24 = .ok (.ifCond .ne 6, 3) := by decide +kernel
theorem dX6_cut_27 : decode cX6_cut 27 = .ok (.bipush (-2), 2) := by decide +kernel
theorem dX6_cut_29 : decode cX6_cut 29 = .ok (.ireturn, 1) := by decide +kernel
theorem dX6_cut_30 : decode cX6_cut 30 = .ok (.aload_n 0, 1) := by decide +kernel
theorem dX6_cut_31 : decode cX6_cut 31 = .ok (.aload_n 0, 1) := by decide +kernel
theorem dX6_cut_32 : decode cX6_cut 32 = .ok (.invokevirtual 57, 3) := by decide +kernel
theorem dX6_cut_35 : decode cX6_cut 35 = .ok (.iload_n 1, 1) := by decide +kernel
theorem dX6_cut_36 : decode cX6_cut 36 = .ok (.iload_n 2, 1) := by decide +kernel
theorem dX6_cut_37 : decode cX6_cut 37 = .ok (.iload_n 3, 1) := by decide +kernel
theorem dX6_cut_38 : decode cX6_cut 38 = .ok (.iload 4, 2) := by decide +kernel
theorem dX6_cut_40 : decode cX6_cut 40 = .ok (.iload 5, 2) := by decide +kernel
theorem dX6_cut_42 : decode cX6_cut 42 = .ok (.invokevirtual 78, 3) := by decide +kernel
theorem dX6_cut_45 : decode cX6_cut 45 = .ok (.invokevirtual 65, 3) := by decide +kernel
theorem dX6_cut_48 : decode cX6_cut 48 = .ok (.ireturn, 1) := by decide +kernel
theorem dX6_make_0 : decode cX6_make 0 = .ok (.iload_n 2, 1) := by decide +kernel
theorem dX6_make_1 : decode cX6_make 1 = .ok (.invokestatic 72, 3) := by decide +kernel
theorem dX6_make_4 : decode cX6_make 4 = .ok (.ifCond .ne 5, 3) := by decide +kernel
theorem dX6_make_7 : decode cX6_make 7 = .ok (.iconst (-1), 1) := by decide +kernel
theorem dX6_make_8 : decode cX6_make 8 = .ok (.ireturn, 1) := by decide +kernel
theorem dX6_make_9 : decode cX6_make 9 = .ok (.iload_n 1, 1) := by decide +kernel
theorem dX6_make_10 : decode cX6_make 10 = .ok (.invokestatic 53, 3) := by decide +kernel
theorem dX6_make_13 : decode cX6_make 13 = .ok (.ifCond .eq 10, 3) := by decide +kernel
theorem dX6_make_16 : decode cX6_make 16 = .ok (.iload_n 3, 1) := by decide +kernel
theorem dX6_make_17 : decode cX6_make 17 = .ok (.invokestatic 82, 3) := by decide +kernel
theorem dX6_make_20 : decode cX6_make 20 = .ok (.ifCond .ne 6, 3) := by decide +kernel
theorem dX6_make_23 : decode cX6_make 23 = .ok (.bipush (-2), 2) := by decide +kernel
theorem dX6_make_25 : decode cX6_make 25 = .ok (.ireturn, 1) := by decide +kernel
theorem dX6_make_26 : decode cX6_make 26 = .ok (.aload_n 0, 1) := by decide +kernel
theorem dX6_make_27 : decode cX6_make 27 = .ok (.aload_n 0, 1) := by decide +kernel
theorem dX6_make_28 : decode cX6_make 28 = .ok (.invokevirtual 57, 3) := by decide +kernel
theorem dX6_make_31 : decode cX6_make 31 = .ok (.iload_n 1, 1) := by decide +kernel
theorem dX6_make_32 : decode cX6_make 32 = .ok (.iload_n 2, 1) := by decide +kernel
theorem dX6_make_33 : decode cX6_make 33 = .ok (.iload_n 3, 1) := by decide +kernel
theorem dX6_make_34 : decode cX6_make 34 = .ok (.invokevirtual 85, 3) := by decide +kernel
theorem dX6_make_37 : decode cX6_make 37 = .ok (.invokevirtual 65, 3) := by decide +kernel
theorem dX6_make_40 : decode cX6_make 40 = .ok (.ireturn, 1) := by decide +kernel
theorem dX6_write_0 : decode cX6_write 0 = .ok (.iload_n 1, 1) := by decide +kernel
theorem dX6_write_1 : decode cX6_write 1 = .ok (.invokestatic 89, 3) := by decide +kernel
theorem dX6_write_4 : decode cX6_write 4 = .ok (.ifCond .eq 10, 3) := by decide +kernel
theorem dX6_write_7 : decode cX6_write 7 = .ok (.iload_n 2, 1) := by decide +kernel
theorem dX6_write_8 : decode cX6_write 8 = .ok (.invokestatic 92, 3) := by decide +kernel
theorem dX6_write_11 : decode cX6_write 11 = .ok (.ifCond .ne 5, 3) := by decide +kernel
theorem dX6_write_14 : decode cX6_write 14 = .ok (.iconst (-1), 1) := by decide +kernel
theorem dX6_write_15 : decode cX6_write 15 = .ok (.ireturn, 1) := by decide +kernel
theorem dX6_write_16 : decode cX6_write 16 = .ok (.aload_n 0, 1) := by decide +kernel
theorem dX6_write_17 : decode cX6_write 17 = .ok (.getfield 49, 3) := by decide +kernel
theorem dX6_write_20 : decode cX6_write 20 = .ok (.invokevirtual 95, 3) := by decide +kernel
theorem dX6_write_23 : decode cX6_write 23 = .ok (.bipush (-6), 2) := by decide +kernel
theorem dX6_write_25 : decode cX6_write 25 = .ok (.if_icmp .eq 6, 3) := by decide +kernel
theorem dX6_write_28 : decode cX6_write 28 = .ok (.bipush (-3), 2) := by decide +kernel
theorem dX6_write_30 : decode cX6_write 30 = .ok (.ireturn, 1) := by decide +kernel
theorem dX6_write_31 : decode cX6_write 31 = .ok (.iload_n 3, 1) := by decide +kernel
theorem dX6_write_32 : decode cX6_write 32 = .ok (.invokestatic 53, 3) := by decide +kernel
theorem dX6_write_35 : decode cX6_write 35 = .ok (.ifCond .eq 11, 3) := by decide +kernel
theorem dX6_write_38 : decode cX6_write 38 = .ok (.iload 4, 2) := by decide +kernel
theorem dX6_write_40 : decode cX6_write 40 = .ok (.invokestatic 82, 3) := by decide +kernel
theorem dX6_write_43 : decode cX6_write 43 = .ok (.ifCond .ne 6, 3) := by decide +kernel
theorem dX6_write_46 : decode cX6_write 46 = .ok (.bipush (-2), 2) := by decide +kernel
theorem dX6_write_48 : decode cX6_write 48 = .ok (.ireturn, 1) := by decide +kernel
theorem dX6_write_49 : decode cX6_write 49 = .ok (.aload_n 0, 1) := by decide +kernel
theorem dX6_write_50 : decode cX6_write 50 = .ok (.aload_n 0, 1) := by decide +kernel
theorem dX6_write_51 : decode cX6_write 51 = .ok (.invokevirtual 57, 3) := by decide +kernel
theorem dX6_write_54 : decode cX6_write 54 = .ok (.aload_n 0, 1) := by decide +kernel
theorem dX6_write_55 : decode cX6_write 55 = .ok (.getfield 49, 3) := by decide +kernel
theorem dX6_write_58 : decode cX6_write 58 = .ok (.iload_n 1, 1) := by decide +kernel
theorem dX6_write_59 : decode cX6_write 59 = .ok (.iload_n 2, 1) := by decide +kernel
theorem dX6_write_60 : decode cX6_write 60 = .ok (.iload_n 3, 1) := by decide +kernel
theorem dX6_write_61 : decode cX6_write 61 = .ok (.iload 4, 2) := by decide +kernel
theorem dX6_write_63 : decode cX6_write 63 = .ok (.invokevirtual 99, 3) := by decide +kernel
theorem dX6_write_66 : decode cX6_write 66 = .ok (.invokevirtual 65, 3) := by decide +kernel
theorem dX6_write_69 : decode cX6_write 69 = .ok (.istore 5, 2) := by decide +kernel
theorem dX6_write_71 : decode cX6_write 71 = .ok (.iload 5, 2) := by decide +kernel
theorem dX6_write_73 : decode cX6_write 73 = .ok (.ifCond .lt 10, 3) := by decide +kernel
theorem dX6_write_76 : decode cX6_write 76 = .ok (.aload_n 0, 1) := by decide +kernel
theorem dX6_write_77 : decode cX6_write 77 = .ok (.getfield 49, 3) := by decide +kernel
theorem dX6_write_80 : decode cX6_write 80 = .ok (.invokevirtual 103, 3) := by decide +kernel
theorem dX6_write_83 : decode cX6_write 83 = .ok (.iload 5, 2) := by decide +kernel
theorem dX6_write_85 : decode cX6_write 85 = .ok (.ireturn, 1) := by decide +kernel
theorem dX6_place_0 : decode cX6_place 0 = .ok (.aload_n 0, 1) := by decide +kernel
theorem dX6_place_1 : decode cX6_place 1 = .ok (.getfield 21, 3) := by decide +kernel
theorem dX6_place_4 : decode cX6_place 4 = .ok (.iload_n 1, 1) := by decide +kernel
theorem dX6_place_5 : decode cX6_place 5 = .ok (.invokevirtual 106, 3) := by decide +kernel
theorem dX6_place_8 : decode cX6_place 8 = .ok (.ifnull 17, 3) := by decide +kernel
theorem dX6_place_11 : decode cX6_place 11 = .ok (.iload_n 2, 1) := by decide +kernel
theorem dX6_place_12 : decode cX6_place 12 = .ok (.invokestatic 89, 3) := by decide +kernel
theorem dX6_place_15 : decode cX6_place 15 = .ok (.ifCond .eq 10, 3) := by decide +kernel
theorem dX6_place_18 : decode cX6_place 18 = .ok (.iload_n 3, 1) := by decide +kernel
theorem dX6_place_19 : decode cX6_place 19 = .ok (.invokestatic 92, 3) := by decide +kernel
theorem dX6_place_22 : decode cX6_place 22 = .ok (.ifCond .ne 5, 3) := by decide +kernel
theorem dX6_place_25 : decode cX6_place 25 = .ok (.iconst (-1), 1) := by decide +kernel
theorem dX6_place_26 : decode cX6_place 26 = .ok (.ireturn, 1) := by decide +kernel
theorem dX6_place_27 : decode cX6_place 27 = .ok (.aload_n 0, 1) := by decide +kernel
theorem dX6_place_28 : decode cX6_place 28 = .ok (.aload_n 0, 1) := by decide +kernel
theorem dX6_place_29 : decode cX6_place 29 = .ok (.invokevirtual 57, 3) := by decide +kernel
theorem dX6_place_32 : decode cX6_place 32 = .ok (.iload_n 1, 1) := by decide +kernel
theorem dX6_place_33 : decode cX6_place 33 = .ok (.iload_n 2, 1) := by decide +kernel
theorem dX6_place_34 : decode cX6_place 34 = .ok (.iload_n 3, 1) := by decide +kernel
theorem dX6_place_35 : decode cX6_place 35 = .ok (.invokevirtual 110, 3) := by decide +kernel
theorem dX6_place_38 : decode cX6_place 38 = .ok (.invokevirtual 65, 3) := by decide +kernel
theorem dX6_place_41 : decode cX6_place 41 = .ok (.ireturn, 1) := by decide +kernel
theorem dX6_clear_0 : decode cX6_clear 0 = .ok (.iload_n 1, 1) := by decide +kernel
theorem dX6_clear_1 : decode cX6_clear 1 = .ok (.invokestatic 89, 3) := by decide +kernel
theorem dX6_clear_4 : decode cX6_clear 4 = .ok (.ifCond .ne 5, 3) := by decide +kernel
theorem dX6_clear_7 : decode cX6_clear 7 = .ok (.iconst (-1), 1) := by decide +kernel
theorem dX6_clear_8 : decode cX6_clear 8 = .ok (.ireturn, 1) := by decide +kernel
theorem dX6_clear_9 : decode cX6_clear 9 = .ok (.aload_n 0, 1) := by decide +kernel
theorem dX6_clear_10 : decode cX6_clear 10 = .ok (.aload_n 0, 1) := by decide +kernel
theorem dX6_clear_11 : decode cX6_clear 11 = .ok (.invokevirtual 57, 3) := by decide +kernel
theorem dX6_clear_14 : decode cX6_clear 14 = .ok (.iload_n 1, 1) := by decide +kernel
theorem dX6_clear_15 : decode cX6_clear 15 = .ok (.invokevirtual 113, 3) := by decide +kernel
theorem dX6_clear_18 : decode cX6_clear 18 = .ok (.invokevirtual 65, 3) := by decide +kernel
theorem dX6_clear_21 : decode cX6_clear 21 = .ok (.ireturn, 1) := by decide +kernel
theorem dX6_throwAway_0 : decode cX6_throwAway 0 = .ok (.aload_n 0, 1) := by decide +kernel
theorem dX6_throwAway_1 : decode cX6_throwAway 1 = .ok (.getfield 21, 3) := by decide +kernel
theorem dX6_throwAway_4 : decode cX6_throwAway 4 = .ok (.iload_n 1, 1) := by decide +kernel
theorem dX6_throwAway_5 : decode cX6_throwAway 5 = .ok (.invokevirtual 106, 3) := by decide +kernel
theorem dX6_throwAway_8 : decode cX6_throwAway 8 = .ok (.ifnonnull 5, 3) := by decide +kernel
theorem dX6_throwAway_11 : decode cX6_throwAway 11 = .ok (.iconst (-1), 1) := by decide +kernel
theorem dX6_throwAway_12 : decode cX6_throwAway 12 = .ok (.ireturn, 1) := by decide +kernel
theorem dX6_throwAway_13 : decode cX6_throwAway 13 = .ok (.aload_n 0, 1) := by decide +kernel
theorem dX6_throwAway_14 : decode cX6_throwAway 14 = .ok (.aload_n 0, 1) := by decide +kernel
theorem dX6_throwAway_15 : decode cX6_throwAway 15 = .ok (.invokevirtual 57, 3) := by decide +kernel
theorem dX6_throwAway_18 : decode cX6_throwAway 18 = .ok (.iload_n 1, 1) := by decide +kernel
theorem dX6_throwAway_19 : decode cX6_throwAway 19 = .ok (.invokevirtual 116, 3) := by decide +kernel
theorem dX6_throwAway_22 : decode cX6_throwAway 22 = .ok (.invokevirtual 65, 3) := by decide +kernel
theorem dX6_throwAway_25 : decode cX6_throwAway 25 = .ok (.ireturn, 1) := by decide +kernel
theorem dX6_scrap_0 : decode cX6_scrap 0 = .ok (.aload_n 0, 1) := by decide +kernel
theorem dX6_scrap_1 : decode cX6_scrap 1 = .ok (.getfield 21, 3) := by decide +kernel
theorem dX6_scrap_4 : decode cX6_scrap 4 = .ok (.iload_n 1, 1) := by decide +kernel
theorem dX6_scrap_5 : decode cX6_scrap 5 = .ok (.invokevirtual 68, 3) := by decide +kernel
theorem dX6_scrap_8 : decode cX6_scrap 8 = .ok (.ifnonnull 5, 3) := by decide +kernel
theorem dX6_scrap_11 : decode cX6_scrap 11 = .ok (.iconst (-1), 1) := by decide +kernel
theorem dX6_scrap_12 : decode cX6_scrap 12 = .ok (.ireturn, 1) := by decide +kernel
theorem dX6_scrap_13 : decode cX6_scrap 13 = .ok (.aload_n 0, 1) := by decide +kernel
theorem dX6_scrap_14 : decode cX6_scrap 14 = .ok (.aload_n 0, 1) := by decide +kernel
theorem dX6_scrap_15 : decode cX6_scrap 15 = .ok (.invokevirtual 57, 3) := by decide +kernel
theorem dX6_scrap_18 : decode cX6_scrap 18 = .ok (.iload_n 1, 1) := by decide +kernel
theorem dX6_scrap_19 : decode cX6_scrap 19 = .ok (.invokevirtual 119, 3) := by decide +kernel
theorem dX6_scrap_22 : decode cX6_scrap 22 = .ok (.invokevirtual 65, 3) := by decide +kernel
theorem dX6_scrap_25 : decode cX6_scrap 25 = .ok (.ireturn, 1) := by decide +kernel
theorem dX6_of_0 : decode cX6_of 0 = .ok (.aload_n 0, 1) := by decide +kernel
theorem dX6_of_1 : decode cX6_of 1 = .ok (.getfield 21, 3) := by decide +kernel
theorem dX6_of_4 : decode cX6_of 4 = .ok (.iload_n 1, 1) := by decide +kernel
theorem dX6_of_5 : decode cX6_of 5 = .ok (.invokevirtual 106, 3) := by decide +kernel
theorem dX6_of_8 : decode cX6_of 8 = .ok (.astore_n 3, 1) := by decide +kernel
theorem dX6_of_9 : decode cX6_of 9 = .ok (.aload_n 3, 1) := by decide +kernel
theorem dX6_of_10 : decode cX6_of 10 = .ok (.ifnonnull 5, 3) := by decide +kernel
theorem dX6_of_13 : decode cX6_of 13 = .ok (.iconst (-1), 1) := by decide +kernel
theorem dX6_of_14 : decode cX6_of 14 = .ok (.ireturn, 1) := by decide +kernel
theorem dX6_of_15 : decode cX6_of 15 = .ok (.iload_n 2, 1) := by decide +kernel
theorem dX6_of_16 : decode cX6_of 16 = .ok (.tableswitch 91 0 7 #[48, 53, 58, 66, 71, 76, 81, 86], 48) := by decide +kernel
theorem dX6_of_64 : decode cX6_of 64 = .ok (.aload_n 3, 1) := by decide +kernel
theorem dX6_of_65 : decode cX6_of 65 = .ok (.getfield 122, 3) := by decide +kernel
theorem dX6_of_68 : decode cX6_of 68 = .ok (.ireturn, 1) := by decide +kernel
theorem dX6_of_69 : decode cX6_of 69 = .ok (.aload_n 3, 1) := by decide +kernel
theorem dX6_of_70 : decode cX6_of 70 = .ok (.getfield 128, 3) := by decide +kernel
theorem dX6_of_73 : decode cX6_of 73 = .ok (.ireturn, 1) := by decide +kernel
theorem dX6_of_74 : decode cX6_of 74 = .ok (.aload_n 3, 1) := by decide +kernel
theorem dX6_of_75 : decode cX6_of 75 = .ok (.getfield 131, 3) := by decide +kernel
theorem dX6_of_78 : decode cX6_of 78 = .ok (.invokestatic 134, 3) := by decide +kernel
theorem dX6_of_81 : decode cX6_of 81 = .ok (.ireturn, 1) := by decide +kernel
theorem dX6_of_82 : decode cX6_of 82 = .ok (.aload_n 3, 1) := by decide +kernel
theorem dX6_of_83 : decode cX6_of 83 = .ok (.getfield 137, 3) := by decide +kernel
theorem dX6_of_86 : decode cX6_of 86 = .ok (.ireturn, 1) := by decide +kernel
theorem dX6_of_87 : decode cX6_of 87 = .ok (.aload_n 3, 1) := by decide +kernel
theorem dX6_of_88 : decode cX6_of 88 = .ok (.getfield 140, 3) := by decide +kernel
theorem dX6_of_91 : decode cX6_of 91 = .ok (.ireturn, 1) := by decide +kernel
theorem dX6_of_92 : decode cX6_of 92 = .ok (.aload_n 3, 1) := by decide +kernel
theorem dX6_of_93 : decode cX6_of 93 = .ok (.getfield 143, 3) := by decide +kernel
theorem dX6_of_96 : decode cX6_of 96 = .ok (.ireturn, 1) := by decide +kernel
theorem dX6_of_97 : decode cX6_of 97 = .ok (.aload_n 3, 1) := by decide +kernel
theorem dX6_of_98 : decode cX6_of 98 = .ok (.getfield 146, 3) := by decide +kernel
theorem dX6_of_101 : decode cX6_of 101 = .ok (.ireturn, 1) := by decide +kernel
theorem dX6_of_102 : decode cX6_of 102 = .ok (.aload_n 3, 1) := by decide +kernel
theorem dX6_of_103 : decode cX6_of 103 = .ok (.getfield 131, 3) := by decide +kernel
theorem dX6_of_106 : decode cX6_of 106 = .ok (.ireturn, 1) := by decide +kernel
theorem dX6_of_107 : decode cX6_of 107 = .ok (.bipush (-2), 2) := by decide +kernel
theorem dX6_of_109 : decode cX6_of 109 = .ok (.ireturn, 1) := by decide +kernel
theorem dX6_ofSheet_0 : decode cX6_ofSheet 0 = .ok (.aload_n 0, 1) := by decide +kernel
theorem dX6_ofSheet_1 : decode cX6_ofSheet 1 = .ok (.getfield 21, 3) := by decide +kernel
theorem dX6_ofSheet_4 : decode cX6_ofSheet 4 = .ok (.iload_n 1, 1) := by decide +kernel
theorem dX6_ofSheet_5 : decode cX6_ofSheet 5 = .ok (.invokevirtual 68, 3) := by decide +kernel
theorem dX6_ofSheet_8 : decode cX6_ofSheet 8 = .ok (.astore_n 3, 1) := by decide +kernel
theorem dX6_ofSheet_9 : decode cX6_ofSheet 9 = .ok (.aload_n 3, 1) := by decide +kernel
theorem dX6_ofSheet_10 : decode cX6_ofSheet 10 = .ok (.ifnonnull 5, 3) := by decide +kernel
theorem dX6_ofSheet_13 : decode cX6_ofSheet 13 = .ok (.iconst (-1), 1) := by decide +kernel
theorem dX6_ofSheet_14 : decode cX6_ofSheet 14 = .ok (.ireturn, 1) := by decide +kernel
theorem dX6_ofSheet_15 : decode cX6_ofSheet 15 = .ok (.iload_n 2, 1) := by decide +kernel
theorem dX6_ofSheet_16 : decode cX6_ofSheet 16 = .ok (.tableswitch 73 0 4 #[36, 41, 46, 55, 68], 36) := by decide +kernel
theorem dX6_ofSheet_52 : decode cX6_ofSheet 52 = .ok (.aload_n 3, 1) := by decide +kernel
theorem dX6_ofSheet_53 : decode cX6_ofSheet 53 = .ok (.getfield 149, 3) := by decide +kernel
theorem dX6_ofSheet_56 : decode cX6_ofSheet 56 = .ok (.ireturn, 1) := by decide +kernel
theorem dX6_ofSheet_57 : decode cX6_ofSheet 57 = .ok (.aload_n 3, 1) := by decide +kernel
theorem dX6_ofSheet_58 : decode cX6_ofSheet 58 = .ok (.invokevirtual 150, 3) := by decide +kernel
theorem dX6_ofSheet_61 : decode cX6_ofSheet 61 = .ok (.ireturn, 1) := by decide +kernel
theorem dX6_ofSheet_62 : decode cX6_ofSheet 62 = .ok (.aload_n 0, 1) := by decide +kernel
theorem dX6_ofSheet_63 : decode cX6_ofSheet 63 = .ok (.getfield 21, 3) := by decide +kernel
theorem dX6_ofSheet_66 : decode cX6_ofSheet 66 = .ok (.iload_n 1, 1) := by decide +kernel
theorem dX6_ofSheet_67 : decode cX6_ofSheet 67 = .ok (.invokevirtual 153, 3) := by decide +kernel
theorem dX6_ofSheet_70 : decode cX6_ofSheet 70 = .ok (.ireturn, 1) := by decide +kernel
theorem dX6_ofSheet_71 : decode cX6_ofSheet 71 = .ok (.aload_n 3, 1) := by decide +kernel
theorem dX6_ofSheet_72 : decode cX6_ofSheet 72 = .ok (.getfield 156, 3) := by decide +kernel
theorem dX6_ofSheet_75 : decode cX6_ofSheet 75 = .ok (.ifCond .eq 7, 3) := by decide +kernel
theorem dX6_ofSheet_78 : decode cX6_ofSheet 78 = .ok (.iconst 1, 1) := by decide +kernel
theorem dX6_ofSheet_79 : decode cX6_ofSheet 79 = .ok (.goto 4, 3) := by decide +kernel
theorem dX6_ofSheet_82 : decode cX6_ofSheet 82 = .ok (.iconst 0, 1) := by decide +kernel
theorem dX6_ofSheet_83 : decode cX6_ofSheet 83 = .ok (.ireturn, 1) := by decide +kernel
theorem dX6_ofSheet_84 : decode cX6_ofSheet 84 = .ok (.aload_n 3, 1) := by decide +kernel
theorem dX6_ofSheet_85 : decode cX6_ofSheet 85 = .ok (.invokevirtual 160, 3) := by decide +kernel
theorem dX6_ofSheet_88 : decode cX6_ofSheet 88 = .ok (.ireturn, 1) := by decide +kernel
theorem dX6_ofSheet_89 : decode cX6_ofSheet 89 = .ok (.bipush (-2), 2) := by decide +kernel
theorem dX6_ofSheet_91 : decode cX6_ofSheet 91 = .ok (.ireturn, 1) := by decide +kernel
theorem dX6_row_0 : decode cX6_row 0 = .ok (.aload_n 0, 1) := by decide +kernel
theorem dX6_row_1 : decode cX6_row 1 = .ok (.getfield 21, 3) := by decide +kernel
theorem dX6_row_4 : decode cX6_row 4 = .ok (.iload_n 1, 1) := by decide +kernel
theorem dX6_row_5 : decode cX6_row 5 = .ok (.invokevirtual 68, 3) := by decide +kernel
theorem dX6_row_8 : decode cX6_row 8 = .ok (.astore_n 3, 1) := by decide +kernel
theorem dX6_row_9 : decode cX6_row 9 = .ok (.aload_n 3, 1) := by decide +kernel
theorem dX6_row_10 : decode cX6_row 10 = .ok (.ifnull 13, 3) := by decide +kernel
theorem dX6_row_13 : decode cX6_row 13 = .ok (.iload_n 2, 1) := by decide +kernel
theorem dX6_row_14 : decode cX6_row 14 = .ok (.ifCond .lt 9, 3) := by decide +kernel
theorem dX6_row_17 : decode cX6_row 17 = .ok (.iload_n 2, 1) := by decide +kernel
theorem dX6_row_18 : decode cX6_row 18 = .ok (.bipush 9, 2) := by decide +kernel
theorem dX6_row_20 : decode cX6_row 20 = .ok (.if_icmp .lt 5, 3) := by decide +kernel
theorem dX6_row_23 : decode cX6_row 23 = .ok (.iconst (-1), 1) := by decide +kernel
theorem dX6_row_24 : decode cX6_row 24 = .ok (.ireturn, 1) := by decide +kernel
theorem dX6_row_25 : decode cX6_row 25 = .ok (.aload_n 3, 1) := by decide +kernel
theorem dX6_row_26 : decode cX6_row 26 = .ok (.getfield 163, 3) := by decide +kernel
theorem dX6_row_29 : decode cX6_row 29 = .ok (.iload_n 2, 1) := by decide +kernel
theorem dX6_row_30 : decode cX6_row 30 = .ok (.iaload, 1) := by decide +kernel
theorem dX6_row_31 : decode cX6_row 31 = .ok (.ireturn, 1) := by decide +kernel
theorem dX6_pane_0 : decode cX6_pane 0 = .ok (.iload_n 1, 1) := by decide +kernel
theorem dX6_pane_1 : decode cX6_pane 1 = .ok (.invokestatic 89, 3) := by decide +kernel
theorem dX6_pane_4 : decode cX6_pane 4 = .ok (.ifCond .eq 10, 3) := by decide +kernel
theorem dX6_pane_7 : decode cX6_pane 7 = .ok (.iload_n 2, 1) := by decide +kernel
theorem dX6_pane_8 : decode cX6_pane 8 = .ok (.invokestatic 92, 3) := by decide +kernel
theorem dX6_pane_11 : decode cX6_pane 11 = .ok (.ifCond .ne 5, 3) := by decide +kernel
theorem dX6_pane_14 : decode cX6_pane 14 = .ok (.iconst (-1), 1) := by decide +kernel
theorem dX6_pane_15 : decode cX6_pane 15 = .ok (.ireturn, 1) := by decide +kernel
theorem dX6_pane_16 : decode cX6_pane 16 = .ok (.aload_n 0, 1) := by decide +kernel
theorem dX6_pane_17 : decode cX6_pane 17 = .ok (.getfield 21, 3) := by decide +kernel
theorem dX6_pane_20 : decode cX6_pane 20 = .ok (.getfield 167, 3) := by decide +kernel
theorem dX6_pane_23 : decode cX6_pane 23 = .ok (.iload_n 1, 1) := by decide +kernel
theorem dX6_pane_24 : decode cX6_pane 24 = .ok (.bipush 12, 2) := by decide +kernel
theorem dX6_pane_26 : decode cX6_pane 26 = .ok (.imul, 1) := by decide +kernel
theorem dX6_pane_27 : decode cX6_pane 27 = .ok (.iload_n 2, 1) := by decide +kernel
theorem dX6_pane_28 : decode cX6_pane 28 = .ok (.iadd, 1) := by decide +kernel
theorem dX6_pane_29 : decode cX6_pane 29 = .ok (.iaload, 1) := by decide +kernel
theorem dX6_pane_30 : decode cX6_pane 30 = .ok (.ireturn, 1) := by decide +kernel
theorem dX6_shape_0 : decode cX6_shape 0 = .ok (.iload_n 1, 1) := by decide +kernel
theorem dX6_shape_1 : decode cX6_shape 1 = .ok (.invokestatic 72, 3) := by decide +kernel
theorem dX6_shape_4 : decode cX6_shape 4 = .ok (.ifCond .ne 5, 3) := by decide +kernel
theorem dX6_shape_7 : decode cX6_shape 7 = .ok (.iconst (-1), 1) := by decide +kernel
theorem dX6_shape_8 : decode cX6_shape 8 = .ok (.ireturn, 1) := by decide +kernel
theorem dX6_shape_9 : decode cX6_shape 9 = .ok (.iload_n 2, 1) := by decide +kernel
theorem dX6_shape_10 : decode cX6_shape 10 = .ok (.invokestatic 75, 3) := by decide +kernel
theorem dX6_shape_13 : decode cX6_shape 13 = .ok (.ifCond .eq 12, 3) := by decide +kernel
theorem dX6_shape_16 : decode cX6_shape 16 = .ok (.iload_n 3, 1) := by decide +kernel
theorem dX6_shape_17 : decode cX6_shape 17 = .ok (.ifCond .lt 8, 3) := by decide +kernel
theorem dX6_shape_20 : decode cX6_shape 20 = .ok (.iload_n 3, 1) := by decide +kernel
theorem dX6_shape_21 : decode cX6_shape 21 = .ok (.iconst 5, 1) := by decide +kernel
theorem dX6_shape_22 : decode cX6_shape 22 = .ok (.if_icmp .lt 6, 3) := by decide +kernel
theorem dX6_shape_25 : decode cX6_shape 25 = .ok (.bipush (-2), 2) := by decide +kernel
theorem dX6_shape_27 : decode cX6_shape 27 = .ok (.ireturn, 1) := by decide +kernel
theorem dX6_shape_28 : decode cX6_shape 28 = .ok (.aload_n 0, 1) := by decide +kernel
theorem dX6_shape_29 : decode cX6_shape 29 = .ok (.getfield 10, 3) := by decide +kernel
theorem dX6_shape_32 : decode cX6_shape 32 = .ok (.iload_n 1, 1) := by decide +kernel
theorem dX6_shape_33 : decode cX6_shape 33 = .ok (.iload_n 2, 1) := by decide +kernel
theorem dX6_shape_34 : decode cX6_shape 34 = .ok (.iload_n 3, 1) := by decide +kernel
theorem dX6_shape_35 : decode cX6_shape 35 = .ok (.invokevirtual 170, 3) := by decide +kernel
theorem dX6_shape_38 : decode cX6_shape 38 = .ok (.ireturn, 1) := by decide +kernel
theorem dX6_count_0 : decode cX6_count 0 = .ok (.iload_n 1, 1) := by decide +kernel
theorem dX6_count_1 : decode cX6_count 1 = .ok (.tableswitch 159 0 9 #[55, 63, 71, 80, 89, 98, 116, 125, 143, 151], 55) := by decide +kernel
theorem dX6_count_56 : decode cX6_count 56 = .ok (.aload_n 0, 1) := by decide +kernel
theorem dX6_count_57 : decode cX6_count 57 = .ok (.getfield 21, 3) := by decide +kernel
theorem dX6_count_60 : decode cX6_count 60 = .ok (.getfield 173, 3) := by decide +kernel
theorem dX6_count_63 : decode cX6_count 63 = .ok (.ireturn, 1) := by decide +kernel
theorem dX6_count_64 : decode cX6_count 64 = .ok (.aload_n 0, 1) := by decide +kernel
theorem dX6_count_65 : decode cX6_count 65 = .ok (.getfield 21, 3) := by decide +kernel
theorem dX6_count_68 : decode cX6_count 68 = .ok (.getfield 176, 3) := by decide +kernel
theorem dX6_count_71 : decode cX6_count 71 = .ok (.ireturn, 1) := by decide +kernel
theorem dX6_count_72 : decode cX6_count 72 = .ok (.aload_n 0, 1) := by decide +kernel
theorem dX6_count_73 : decode cX6_count 73 = .ok (.getfield 21, 3) := by decide +kernel
theorem dX6_count_76 : decode cX6_count 76 = .ok (.iconst 0, 1) := by decide +kernel
theorem dX6_count_77 : decode cX6_count 77 = .ok (.invokevirtual 179, 3) := by decide +kernel
theorem dX6_count_80 : decode cX6_count 80 = .ok (.ireturn, 1) := by decide +kernel
theorem dX6_count_81 : decode cX6_count 81 = .ok (.aload_n 0, 1) := by decide +kernel
theorem dX6_count_82 : decode cX6_count 82 = .ok (.getfield 21, 3) := by decide +kernel
theorem dX6_count_85 : decode cX6_count 85 = .ok (.iconst 1, 1) := by decide +kernel
theorem dX6_count_86 : decode cX6_count 86 = .ok (.invokevirtual 179, 3) := by decide +kernel
theorem dX6_count_89 : decode cX6_count 89 = .ok (.ireturn, 1) := by decide +kernel
theorem dX6_count_90 : decode cX6_count 90 = .ok (.aload_n 0, 1) := by decide +kernel
theorem dX6_count_91 : decode cX6_count 91 = .ok (.getfield 21, 3) := by decide +kernel
theorem dX6_count_94 : decode cX6_count 94 = .ok (.iconst 2, 1) := by decide +kernel
theorem dX6_count_95 : decode cX6_count 95 = .ok (.invokevirtual 179, 3) := by decide +kernel
theorem dX6_count_98 : decode cX6_count 98 = .ok (.ireturn, 1) := by decide +kernel
theorem dX6_count_99 : decode cX6_count 99 = .ok (.aload_n 0, 1) := by decide +kernel
theorem dX6_count_100 : decode cX6_count 100 = .ok (.getfield 21, 3) := by decide +kernel
theorem dX6_count_103 : decode cX6_count 103 = .ok (.iconst 2, 1) := by decide +kernel
theorem dX6_count_104 : decode cX6_count 104 = .ok (.invokevirtual 182, 3) := by decide +kernel
theorem dX6_count_107 : decode cX6_count 107 = .ok (.aload_n 0, 1) := by decide +kernel
theorem dX6_count_108 : decode cX6_count 108 = .ok (.getfield 21, 3) := by decide +kernel
theorem dX6_count_111 : decode cX6_count 111 = .ok (.iconst 1, 1) := by decide +kernel
theorem dX6_count_112 : decode cX6_count 112 = .ok (.invokevirtual 185, 3) := by decide +kernel
theorem dX6_count_115 : decode cX6_count 115 = .ok (.iadd, 1) := by decide +kernel
theorem dX6_count_116 : decode cX6_count 116 = .ok (.ireturn, 1) := by decide +kernel
theorem dX6_count_117 : decode cX6_count 117 = .ok (.aload_n 0, 1) := by decide +kernel
theorem dX6_count_118 : decode cX6_count 118 = .ok (.getfield 21, 3) := by decide +kernel
theorem dX6_count_121 : decode cX6_count 121 = .ok (.iconst 0, 1) := by decide +kernel
theorem dX6_count_122 : decode cX6_count 122 = .ok (.invokevirtual 185, 3) := by decide +kernel
theorem dX6_count_125 : decode cX6_count 125 = .ok (.ireturn, 1) := by decide +kernel
theorem dX6_count_126 : decode cX6_count 126 = .ok (.aload_n 0, 1) := by decide +kernel
theorem dX6_count_127 : decode cX6_count 127 = .ok (.getfield 21, 3) := by decide +kernel
theorem dX6_count_130 : decode cX6_count 130 = .ok (.iconst 0, 1) := by decide +kernel
theorem dX6_count_131 : decode cX6_count 131 = .ok (.invokevirtual 182, 3) := by decide +kernel
theorem dX6_count_134 : decode cX6_count 134 = .ok (.aload_n 0, 1) := by decide +kernel
theorem dX6_count_135 : decode cX6_count 135 = .ok (.getfield 21, 3) := by decide +kernel
theorem dX6_count_138 : decode cX6_count 138 = .ok (.iconst 1, 1) := by decide +kernel
theorem dX6_count_139 : decode cX6_count 139 = .ok (.invokevirtual 182, 3) := by decide +kernel
theorem dX6_count_142 : decode cX6_count 142 = .ok (.iadd, 1) := by decide +kernel
theorem dX6_count_143 : decode cX6_count 143 = .ok (.ireturn, 1) := by decide +kernel
theorem dX6_count_144 : decode cX6_count 144 = .ok (.aload_n 0, 1) := by decide +kernel
theorem dX6_count_145 : decode cX6_count 145 = .ok (.getfield 49, 3) := by decide +kernel
theorem dX6_count_148 : decode cX6_count 148 = .ok (.getfield 189, 3) := by decide +kernel
theorem dX6_count_151 : decode cX6_count 151 = .ok (.ireturn, 1) := by decide +kernel
theorem dX6_count_152 : decode cX6_count 152 = .ok (.aload_n 0, 1) := by decide +kernel
theorem dX6_count_153 : decode cX6_count 153 = .ok (.getfield 42, 3) := by decide +kernel
theorem dX6_count_156 : decode cX6_count 156 = .ok (.getfield 192, 3) := by decide +kernel
theorem dX6_count_159 : decode cX6_count 159 = .ok (.ireturn, 1) := by decide +kernel
theorem dX6_count_160 : decode cX6_count 160 = .ok (.bipush (-2), 2) := by decide +kernel
theorem dX6_count_162 : decode cX6_count 162 = .ok (.ireturn, 1) := by decide +kernel
theorem dX6_fit_0 : decode cX6_fit 0 = .ok (.aload_n 0, 1) := by decide +kernel
theorem dX6_fit_1 : decode cX6_fit 1 = .ok (.getfield 21, 3) := by decide +kernel
theorem dX6_fit_4 : decode cX6_fit 4 = .ok (.iload_n 1, 1) := by decide +kernel
theorem dX6_fit_5 : decode cX6_fit 5 = .ok (.invokevirtual 68, 3) := by decide +kernel
theorem dX6_fit_8 : decode cX6_fit 8 = .ok (.astore 5, 2) := by decide +kernel
theorem dX6_fit_10 : decode cX6_fit 10 = .ok (.aload 5, 2) := by decide +kernel
theorem dX6_fit_12 : decode cX6_fit 12 = .ok (.ifnull 10, 3) := by decide +kernel
theorem dX6_fit_15 : decode cX6_fit 15 = .ok (.iload_n 2, 1) := by decide +kernel
theorem dX6_fit_16 : decode cX6_fit 16 = .ok (.invokestatic 72, 3) := by decide +kernel
theorem dX6_fit_19 : decode cX6_fit 19 = .ok (.ifCond .ne 5, 3) := by decide +kernel
theorem dX6_fit_22 : decode cX6_fit 22 = .ok (.iconst (-1), 1) := by decide +kernel
theorem dX6_fit_23 : decode cX6_fit 23 = .ok (.ireturn, 1) := by decide +kernel
theorem dX6_fit_24 : decode cX6_fit 24 = .ok (.iload_n 3, 1) := by decide +kernel
theorem dX6_fit_25 : decode cX6_fit 25 = .ok (.invokestatic 82, 3) := by decide +kernel
theorem dX6_fit_28 : decode cX6_fit 28 = .ok (.ifCond .eq 14, 3) := by decide +kernel
theorem dX6_fit_31 : decode cX6_fit 31 = .ok (.iload 4, 2) := by decide +kernel
theorem dX6_fit_33 : decode cX6_fit 33 = .ok (.ifCond .lt 9, 3) := by decide +kernel
theorem dX6_fit_36 : decode cX6_fit 36 = .ok (.iload 4, 2) := by decide +kernel
theorem dX6_fit_38 : decode cX6_fit 38 = .ok (.iconst 2, 1) := by decide +kernel
theorem dX6_fit_39 : decode cX6_fit 39 = .ok (.if_icmp .le 6, 3) := by decide +kernel
theorem dX6_fit_42 : decode cX6_fit 42 = .ok (.bipush (-2), 2) := by decide +kernel
theorem dX6_fit_44 : decode cX6_fit 44 = .ok (.ireturn, 1) := by decide +kernel
theorem dX6_fit_45 : decode cX6_fit 45 = .ok (.aload 5, 2) := by decide +kernel
theorem dX6_fit_47 : decode cX6_fit 47 = .ok (.iload_n 2, 1) := by decide +kernel
theorem dX6_fit_48 : decode cX6_fit 48 = .ok (.iload_n 3, 1) := by decide +kernel
theorem dX6_fit_49 : decode cX6_fit 49 = .ok (.invokevirtual 193, 3) := by decide +kernel
theorem dX6_fit_52 : decode cX6_fit 52 = .ok (.istore 6, 2) := by decide +kernel
theorem dX6_fit_54 : decode cX6_fit 54 = .ok (.iload 6, 2) := by decide +kernel
theorem dX6_fit_56 : decode cX6_fit 56 = .ok (.bipush (-6), 2) := by decide +kernel
theorem dX6_fit_58 : decode cX6_fit 58 = .ok (.if_icmp .ne 6, 3) := by decide +kernel
theorem dX6_fit_61 : decode cX6_fit 61 = .ok (.bipush (-6), 2) := by decide +kernel
theorem dX6_fit_63 : decode cX6_fit 63 = .ok (.ireturn, 1) := by decide +kernel
theorem dX6_fit_64 : decode cX6_fit 64 = .ok (.iload 4, 2) := by decide +kernel
theorem dX6_fit_66 : decode cX6_fit 66 = .ok (.lookupswitch 38 #[(0, 26), (1, 32)], 26) := by decide +kernel
theorem dX6_fit_92 : decode cX6_fit 92 = .ok (.iload 6, 2) := by decide +kernel
theorem dX6_fit_94 : decode cX6_fit 94 = .ok (.invokestatic 197, 3) := by decide +kernel
theorem dX6_fit_97 : decode cX6_fit 97 = .ok (.ireturn, 1) := by decide +kernel
theorem dX6_fit_98 : decode cX6_fit 98 = .ok (.iload 6, 2) := by decide +kernel
theorem dX6_fit_100 : decode cX6_fit 100 = .ok (.invokestatic 200, 3) := by decide +kernel
theorem dX6_fit_103 : decode cX6_fit 103 = .ok (.ireturn, 1) := by decide +kernel
theorem dX6_fit_104 : decode cX6_fit 104 = .ok (.iload 6, 2) := by decide +kernel
theorem dX6_fit_106 : decode cX6_fit 106 = .ok (.invokestatic 203, 3) := by decide +kernel
theorem dX6_fit_109 : decode cX6_fit 109 = .ok (.ireturn, 1) := by decide +kernel
theorem dX6_manyOf_0 : decode cX6_manyOf 0 = .ok (.aload_n 0, 1) := by decide +kernel
theorem dX6_manyOf_1 : decode cX6_manyOf 1 = .ok (.getfield 21, 3) := by decide +kernel
theorem dX6_manyOf_4 : decode cX6_manyOf 4 = .ok (.iload_n 1, 1) := by decide +kernel
theorem dX6_manyOf_5 : decode cX6_manyOf 5 = .ok (.invokevirtual 68, 3) := by decide +kernel
theorem dX6_manyOf_8 : decode cX6_manyOf 8 = .ok (.astore 4, 2) := by decide +kernel
theorem dX6_manyOf_10 : decode cX6_manyOf 10 = .ok (.aload 4, 2) := by decide +kernel
theorem dX6_manyOf_12 : decode cX6_manyOf 12 = .ok (.ifnull 10, 3) := by decide +kernel
theorem dX6_manyOf_15 : decode cX6_manyOf 15 = .ok (.iload_n 2, 1) := by decide +kernel
theorem dX6_manyOf_16 : decode cX6_manyOf 16 = .ok (.invokestatic 72, 3) := by decide +kernel
theorem dX6_manyOf_19 : decode cX6_manyOf 19 = .ok (.ifCond .ne 5, 3) := by decide +kernel
theorem dX6_manyOf_22 : decode cX6_manyOf 22 = .ok (.iconst (-1), 1) := by decide +kernel
theorem dX6_manyOf_23 : decode cX6_manyOf 23 = .ok (.ireturn, 1) := by decide +kernel
theorem dX6_manyOf_24 : decode cX6_manyOf 24 = .ok (.iload_n 3, 1) := by decide +kernel
theorem dX6_manyOf_25 : decode cX6_manyOf 25 = .ok (.invokestatic 82, 3) := by decide +kernel
theorem dX6_manyOf_28 : decode cX6_manyOf 28 = .ok (.ifCond .ne 6, 3) := by decide +kernel
theorem dX6_manyOf_31 : decode cX6_manyOf 31 = .ok (.bipush (-2), 2) := by decide +kernel
theorem dX6_manyOf_33 : decode cX6_manyOf 33 = .ok (.ireturn, 1) := by decide +kernel
theorem dX6_manyOf_34 : decode cX6_manyOf 34 = .ok (.aload_n 0, 1) := by decide +kernel
theorem dX6_manyOf_35 : decode cX6_manyOf 35 = .ok (.getfield 31, 3) := by decide +kernel
theorem dX6_manyOf_38 : decode cX6_manyOf 38 = .ok (.aload 4, 2) := by decide +kernel
theorem dX6_manyOf_40 : decode cX6_manyOf 40 = .ok (.invokevirtual 206, 3) := by decide +kernel
theorem dX6_manyOf_43 : decode cX6_manyOf 43 = .ok (.aload_n 0, 1) := by decide +kernel
theorem dX6_manyOf_44 : decode cX6_manyOf 44 = .ok (.getfield 31, 3) := by decide +kernel
theorem dX6_manyOf_47 : decode cX6_manyOf 47 = .ok (.iload_n 2, 1) := by decide +kernel
theorem dX6_manyOf_48 : decode cX6_manyOf 48 = .ok (.iload_n 3, 1) := by decide +kernel
theorem dX6_manyOf_49 : decode cX6_manyOf 49 = .ok (.invokevirtual 210, 3) := by decide +kernel
theorem dX6_manyOf_52 : decode cX6_manyOf 52 = .ok (.ireturn, 1) := by decide +kernel
theorem dX6_fits_0 : decode cX6_fits 0 = .ok (.aload_n 0, 1) := by decide +kernel
theorem dX6_fits_1 : decode cX6_fits 1 = .ok (.getfield 21, 3) := by decide +kernel
theorem dX6_fits_4 : decode cX6_fits 4 = .ok (.iload_n 1, 1) := by decide +kernel
theorem dX6_fits_5 : decode cX6_fits 5 = .ok (.invokevirtual 68, 3) := by decide +kernel
theorem dX6_fits_8 : decode cX6_fits 8 = .ok (.astore_n 3, 1) := by decide +kernel
theorem dX6_fits_9 : decode cX6_fits 9 = .ok (.aload_n 3, 1) := by decide +kernel
theorem dX6_fits_10 : decode cX6_fits 10 = .ok (.ifnull 10, 3) := by decide +kernel
theorem dX6_fits_13 : decode cX6_fits 13 = .ok (.iload_n 2, 1) := by decide +kernel
theorem dX6_fits_14 : decode cX6_fits 14 = .ok (.invokestatic 72, 3) := by decide +kernel
theorem dX6_fits_17 : decode cX6_fits 17 = .ok (.ifCond .ne 5, 3) := by decide +kernel
theorem dX6_fits_20 : decode cX6_fits 20 = .ok (.iconst (-1), 1) := by decide +kernel
theorem dX6_fits_21 : decode cX6_fits 21 = .ok (.ireturn, 1) := by decide +kernel
theorem dX6_fits_22 : decode cX6_fits 22 = .ok (.aload_n 3, 1) := by decide +kernel
theorem dX6_fits_23 : decode cX6_fits 23 = .ok (.iload_n 2, 1) := by decide +kernel
theorem dX6_fits_24 : decode cX6_fits 24 = .ok (.invokevirtual 213, 3) := by decide +kernel
theorem dX6_fits_27 : decode cX6_fits 27 = .ok (.ireturn, 1) := by decide +kernel
theorem dX6_colours_0 : decode cX6_colours 0 = .ok (.iload_n 1, 1) := by decide +kernel
theorem dX6_colours_1 : decode cX6_colours 1 = .ok (.invokestatic 89, 3) := by decide +kernel
theorem dX6_colours_4 : decode cX6_colours 4 = .ok (.ifCond .eq 10, 3) := by decide +kernel
theorem dX6_colours_7 : decode cX6_colours 7 = .ok (.iload_n 2, 1) := by decide +kernel
theorem dX6_colours_8 : decode cX6_colours 8 = .ok (.invokestatic 92, 3) := by decide +kernel
theorem dX6_colours_11 : decode cX6_colours 11 = .ok (.ifCond .ne 5, 3) := by decide +kernel
theorem dX6_colours_14 : decode cX6_colours 14 = .ok (.iconst (-1), 1) := by decide +kernel
theorem dX6_colours_15 : decode cX6_colours 15 = .ok (.ireturn, 1) := by decide +kernel
theorem dX6_colours_16 : decode cX6_colours 16 = .ok (.aload_n 0, 1) := by decide +kernel
theorem dX6_colours_17 : decode cX6_colours 17 = .ok (.getfield 49, 3) := by decide +kernel
theorem dX6_colours_20 : decode cX6_colours 20 = .ok (.invokevirtual 95, 3) := by decide +kernel
theorem dX6_colours_23 : decode cX6_colours 23 = .ok (.bipush (-6), 2) := by decide +kernel
theorem dX6_colours_25 : decode cX6_colours 25 = .ok (.if_icmp .eq 6, 3) := by decide +kernel
theorem dX6_colours_28 : decode cX6_colours 28 = .ok (.bipush (-3), 2) := by decide +kernel
theorem dX6_colours_30 : decode cX6_colours 30 = .ok (.ireturn, 1) := by decide +kernel
theorem dX6_colours_31 : decode cX6_colours 31 = .ok (.iload_n 3, 1) := by decide +kernel
theorem dX6_colours_32 : decode cX6_colours 32 = .ok (.invokestatic 82, 3) := by decide +kernel
theorem dX6_colours_35 : decode cX6_colours 35 = .ok (.ifCond .ne 6, 3) := by decide +kernel
theorem dX6_colours_38 : decode cX6_colours 38 = .ok (.bipush (-2), 2) := by decide +kernel
theorem dX6_colours_40 : decode cX6_colours 40 = .ok (.ireturn, 1) := by decide +kernel
theorem dX6_colours_41 : decode cX6_colours 41 = .ok (.iconst 0, 1) := by decide +kernel
theorem dX6_colours_42 : decode cX6_colours 42 = .ok (.istore 4, 2) := by decide +kernel
theorem dX6_colours_44 : decode cX6_colours 44 = .ok (.iconst 1, 1) := by decide +kernel
theorem dX6_colours_45 : decode cX6_colours 45 = .ok (.istore 5, 2) := by decide +kernel
theorem dX6_colours_47 : decode cX6_colours 47 = .ok (.iload 5, 2) := by decide +kernel
theorem dX6_colours_49 : decode cX6_colours 49 = .ok (.iconst 4, 1) := by decide +kernel
theorem dX6_colours_50 : decode cX6_colours 50 = .ok (.if_icmp .gt 37, 3) := by decide +kernel
theorem dX6_colours_53 : decode cX6_colours 53 = .ok (.aload_n 0, 1) := by decide +kernel
theorem dX6_colours_54 : decode cX6_colours 54 = .ok (.invokevirtual 57, 3) := by decide +kernel
theorem dX6_colours_57 : decode cX6_colours 57 = .ok (.aload_n 0, 1) := by decide +kernel
theorem dX6_colours_58 : decode cX6_colours 58 = .ok (.getfield 49, 3) := by decide +kernel
theorem dX6_colours_61 : decode cX6_colours 61 = .ok (.iload_n 1, 1) := by decide +kernel
theorem dX6_colours_62 : decode cX6_colours 62 = .ok (.iload_n 2, 1) := by decide +kernel
theorem dX6_colours_63 : decode cX6_colours 63 = .ok (.iload 5, 2) := by decide +kernel
theorem dX6_colours_65 : decode cX6_colours 65 = .ok (.iload_n 3, 1) := by decide +kernel
theorem dX6_colours_66 : decode cX6_colours 66 = .ok (.invokevirtual 99, 3) := by decide +kernel
theorem dX6_colours_69 : decode cX6_colours 69 = .ok (.ifCond .lt 12, 3) := by decide +kernel
theorem dX6_colours_72 : decode cX6_colours 72 = .ok (.iload 4, 2) := by decide +kernel
theorem dX6_colours_74 : decode cX6_colours 74 = .ok (.iconst 1, 1) := by decide +kernel
theorem dX6_colours_75 : decode cX6_colours 75 = .ok (.iload 5, 2) := by decide +kernel
theorem dX6_colours_77 : decode cX6_colours 77 = .ok (.ishl, 1) := by decide +kernel
theorem dX6_colours_78 : decode cX6_colours 78 = .ok (.ior, 1) := by decide +kernel
theorem dX6_colours_79 : decode cX6_colours 79 = .ok (.istore 4, 2) := by decide +kernel
theorem dX6_colours_81 : decode cX6_colours 81 = .ok (.iinc 5 1, 3) := by decide +kernel
theorem dX6_colours_84 : decode cX6_colours 84 = .ok (.goto (-37), 3) := by decide +kernel
theorem dX6_colours_87 : decode cX6_colours 87 = .ok (.iload 4, 2) := by decide +kernel
theorem dX6_colours_89 : decode cX6_colours 89 = .ok (.ireturn, 1) := by decide +kernel
theorem dX6_put_0 : decode cX6_put 0 = .ok (.aload_n 0, 1) := by decide +kernel
theorem dX6_put_1 : decode cX6_put 1 = .ok (.getfield 49, 3) := by decide +kernel
theorem dX6_put_4 : decode cX6_put 4 = .ok (.lload_n 1, 1) := by decide +kernel
theorem dX6_put_5 : decode cX6_put 5 = .ok (.invokevirtual 216, 3) := by decide +kernel
theorem dX6_put_8 : decode cX6_put 8 = .ok (.ireturn, 1) := by decide +kernel
theorem dX6_wipe_0 : decode cX6_wipe 0 = .ok (.aload_n 0, 1) := by decide +kernel
theorem dX6_wipe_1 : decode cX6_wipe 1 = .ok (.getfield 49, 3) := by decide +kernel
theorem dX6_wipe_4 : decode cX6_wipe 4 = .ok (.getfield 189, 3) := by decide +kernel
theorem dX6_wipe_7 : decode cX6_wipe 7 = .ok (.istore_n 1, 1) := by decide +kernel
theorem dX6_wipe_8 : decode cX6_wipe 8 = .ok (.aload_n 0, 1) := by decide +kernel
theorem dX6_wipe_9 : decode cX6_wipe 9 = .ok (.getfield 49, 3) := by decide +kernel
theorem dX6_wipe_12 : decode cX6_wipe 12 = .ok (.invokevirtual 103, 3) := by decide +kernel
theorem dX6_wipe_15 : decode cX6_wipe 15 = .ok (.iload_n 1, 1) := by decide +kernel
theorem dX6_wipe_16 : decode cX6_wipe 16 = .ok (.ireturn, 1) := by decide +kernel
theorem dX6_undo_0 : decode cX6_undo 0 = .ok (.aload_n 0, 1) := by decide +kernel
theorem dX6_undo_1 : decode cX6_undo 1 = .ok (.getfield 42, 3) := by decide +kernel
theorem dX6_undo_4 : decode cX6_undo 4 = .ok (.aload_n 0, 1) := by decide +kernel
theorem dX6_undo_5 : decode cX6_undo 5 = .ok (.getfield 21, 3) := by decide +kernel
theorem dX6_undo_8 : decode cX6_undo 8 = .ok (.invokevirtual 220, 3) := by decide +kernel
theorem dX6_undo_11 : decode cX6_undo 11 = .ok (.ifCond .eq 13, 3) := by decide +kernel
theorem dX6_undo_14 : decode cX6_undo 14 = .ok (.aload_n 0, 1) := by decide +kernel
theorem dX6_undo_15 : decode cX6_undo 15 = .ok (.getfield 42, 3) := by decide +kernel
theorem dX6_undo_18 : decode cX6_undo 18 = .ok (.getfield 192, 3) := by decide +kernel
theorem dX6_undo_21 : decode cX6_undo 21 = .ok (.goto 5, 3) := by decide +kernel
theorem dX6_undo_24 : decode cX6_undo 24 = .ok (.bipush (-5), 2) := by decide +kernel
theorem dX6_undo_26 : decode cX6_undo 26 = .ok (.ireturn, 1) := by decide +kernel
theorem dX6_newDraft_0 : decode cX6_newDraft 0 = .ok (.aload_n 0, 1) := by decide +kernel
theorem dX6_newDraft_1 : decode cX6_newDraft 1 = .ok (.getfield 25, 3) := by decide +kernel
theorem dX6_newDraft_4 : decode cX6_newDraft 4 = .ok (.aload_n 0, 1) := by decide +kernel
theorem dX6_newDraft_5 : decode cX6_newDraft 5 = .ok (.getfield 21, 3) := by decide +kernel
theorem dX6_newDraft_8 : decode cX6_newDraft 8 = .ok (.invokevirtual 227, 3) := by decide +kernel
theorem dX6_newDraft_11 : decode cX6_newDraft 11 = .ok (.aload_n 0, 1) := by decide +kernel
theorem dX6_newDraft_12 : decode cX6_newDraft 12 = .ok (.getfield 25, 3) := by decide +kernel
theorem dX6_newDraft_15 : decode cX6_newDraft 15 = .ok (.areturn, 1) := by decide +kernel
theorem dX6_settle_0 : decode cX6_settle 0 = .ok (.iload_n 1, 1) := by decide +kernel
theorem dX6_settle_1 : decode cX6_settle 1 = .ok (.ifCond .lt 25, 3) := by decide +kernel
theorem dX6_settle_4 : decode cX6_settle 4 = .ok (.aload_n 0, 1) := by decide +kernel
theorem dX6_settle_5 : decode cX6_settle 5 = .ok (.getfield 42, 3) := by decide +kernel
theorem dX6_settle_8 : decode cX6_settle 8 = .ok (.aload_n 0, 1) := by decide +kernel
theorem dX6_settle_9 : decode cX6_settle 9 = .ok (.getfield 21, 3) := by decide +kernel
theorem dX6_settle_12 : decode cX6_settle 12 = .ok (.invokevirtual 230, 3) := by decide +kernel
theorem dX6_settle_15 : decode cX6_settle 15 = .ok (.aload_n 0, 1) := by decide +kernel
theorem dX6_settle_16 : decode cX6_settle 16 = .ok (.getfield 21, 3) := by decide +kernel
theorem dX6_settle_19 : decode cX6_settle 19 = .ok (.aload_n 0, 1) := by decide +kernel
theorem dX6_settle_20 : decode cX6_settle 20 = .ok (.getfield 25, 3) := by decide +kernel
theorem dX6_settle_23 : decode cX6_settle 23 = .ok (.invokevirtual 227, 3) := by decide +kernel
theorem dX6_settle_26 : decode cX6_settle 26 = .ok (.iload_n 1, 1) := by decide +kernel
theorem dX6_settle_27 : decode cX6_settle 27 = .ok (.ireturn, 1) := by decide +kernel
theorem dX6_isColour_0 : decode cX6_isColour 0 = .ok (.iload_n 0, 1) := by decide +kernel
theorem dX6_isColour_1 : decode cX6_isColour 1 = .ok (.iconst 1, 1) := by decide +kernel
theorem dX6_isColour_2 : decode cX6_isColour 2 = .ok (.if_icmp .lt 12, 3) := by decide +kernel
theorem dX6_isColour_5 : decode cX6_isColour 5 = .ok (.iload_n 0, 1) := by decide +kernel
theorem dX6_isColour_6 : decode cX6_isColour 6 = .ok (.iconst 4, 1) := by decide +kernel
theorem dX6_isColour_7 : decode cX6_isColour 7 = .ok (.if_icmp .gt 7, 3) := by decide +kernel
theorem dX6_isColour_10 : decode cX6_isColour 10 = .ok (.iconst 1, 1) := by decide +kernel
theorem dX6_isColour_11 : decode cX6_isColour 11 = .ok (.goto 4, 3) := by decide +kernel
theorem dX6_isColour_14 : decode cX6_isColour 14 = .ok (.iconst 0, 1) := by decide +kernel
theorem dX6_isColour_15 : decode cX6_isColour 15 = .ok (.ireturn, 1) := by decide +kernel
theorem dX6_isLetter_0 : decode cX6_isLetter 0 = .ok (.iload_n 0, 1) := by decide +kernel
theorem dX6_isLetter_1 : decode cX6_isLetter 1 = .ok (.ifCond .lt 13, 3) := by decide +kernel
theorem dX6_isLetter_4 : decode cX6_isLetter 4 = .ok (.iload_n 0, 1) := by decide +kernel
theorem dX6_isLetter_5 : decode cX6_isLetter 5 = .ok (.bipush 8, 2) := by decide +kernel
theorem dX6_isLetter_7 : decode cX6_isLetter 7 = .ok (.if_icmp .ge 7, 3) := by decide +kernel
theorem dX6_isLetter_10 : decode cX6_isLetter 10 = .ok (.iconst 1, 1) := by decide +kernel
theorem dX6_isLetter_11 : decode cX6_isLetter 11 = .ok (.goto 4, 3) := by decide +kernel
theorem dX6_isLetter_14 : decode cX6_isLetter 14 = .ok (.iconst 0, 1) := by decide +kernel
theorem dX6_isLetter_15 : decode cX6_isLetter 15 = .ok (.ireturn, 1) := by decide +kernel
theorem dX6_isWay_0 : decode cX6_isWay 0 = .ok (.iload_n 0, 1) := by decide +kernel
theorem dX6_isWay_1 : decode cX6_isWay 1 = .ok (.ifCond .lt 13, 3) := by decide +kernel
theorem dX6_isWay_4 : decode cX6_isWay 4 = .ok (.iload_n 0, 1) := by decide +kernel
theorem dX6_isWay_5 : decode cX6_isWay 5 = .ok (.bipush 8, 2) := by decide +kernel
theorem dX6_isWay_7 : decode cX6_isWay 7 = .ok (.if_icmp .ge 7, 3) := by decide +kernel
theorem dX6_isWay_10 : decode cX6_isWay 10 = .ok (.iconst 1, 1) := by decide +kernel
theorem dX6_isWay_11 : decode cX6_isWay 11 = .ok (.goto 4, 3) := by decide +kernel
theorem dX6_isWay_14 : decode cX6_isWay 14 = .ok (.iconst 0, 1) := by decide +kernel
theorem dX6_isWay_15 : decode cX6_isWay 15 = .ok (.ireturn, 1) := by decide +kernel
theorem dX6_isMirroring_0 : decode cX6_isMirroring 0 = .ok (.iload_n 0, 1) := by decide +kernel
theorem dX6_isMirroring_1 : decode cX6_isMirroring 1 = .ok (.ifCond .eq 8, 3) := by decide +kernel
theorem dX6_isMirroring_4 : decode cX6_isMirroring 4 = .ok (.iload_n 0, 1) := by decide +kernel
theorem dX6_isMirroring_5 : decode cX6_isMirroring 5 = .ok (.iconst 1, 1) := by decide +kernel
theorem dX6_isMirroring_6 : decode cX6_isMirroring 6 = .ok (.if_icmp .ne 7, 3) := by decide +kernel
theorem dX6_isMirroring_9 : decode cX6_isMirroring 9 = .ok (.iconst 1, 1) := by decide +kernel
theorem dX6_isMirroring_10 : decode cX6_isMirroring 10 = .ok (.goto 4, 3) := by decide +kernel
theorem dX6_isMirroring_13 : decode cX6_isMirroring 13 = .ok (.iconst 0, 1) := by decide +kernel
theorem dX6_isMirroring_14 : decode cX6_isMirroring 14 = .ok (.ireturn, 1) := by decide +kernel
theorem dX6_isPane_0 : decode cX6_isPane 0 = .ok (.iload_n 0, 1) := by decide +kernel
theorem dX6_isPane_1 : decode cX6_isPane 1 = .ok (.ifCond .lt 12, 3) := by decide +kernel
theorem dX6_isPane_4 : decode cX6_isPane 4 = .ok (.iload_n 0, 1) := by decide +kernel
theorem dX6_isPane_5 : decode cX6_isPane 5 = .ok (.iconst 3, 1) := by decide +kernel
theorem dX6_isPane_6 : decode cX6_isPane 6 = .ok (.if_icmp .ge 7, 3) := by decide +kernel
theorem dX6_isPane_9 : decode cX6_isPane 9 = .ok (.iconst 1, 1) := by decide +kernel
theorem dX6_isPane_10 : decode cX6_isPane 10 = .ok (.goto 4, 3) := by decide +kernel
theorem dX6_isPane_13 : decode cX6_isPane 13 = .ok (.iconst 0, 1) := by decide +kernel
theorem dX6_isPane_14 : decode cX6_isPane 14 = .ok (.ireturn, 1) := by decide +kernel
theorem dX6_isPlace_0 : decode cX6_isPlace 0 = .ok (.iload_n 0, 1) := by decide +kernel
theorem dX6_isPlace_1 : decode cX6_isPlace 1 = .ok (.ifCond .lt 13, 3) := by decide +kernel
theorem dX6_isPlace_4 : decode cX6_isPlace 4 = .ok (.iload_n 0, 1) := by decide +kernel
theorem dX6_isPlace_5 : decode cX6_isPlace 5 = .ok (.bipush 12, 2) := by decide +kernel
theorem dX6_isPlace_7 : decode cX6_isPlace 7 = .ok (.if_icmp .ge 7, 3) := by decide +kernel
theorem dX6_isPlace_10 : decode cX6_isPlace 10 = .ok (.iconst 1, 1) := by decide +kernel
theorem dX6_isPlace_11 : decode cX6_isPlace 11 = .ok (.goto 4, 3) := by decide +kernel
theorem dX6_isPlace_14 : decode cX6_isPlace 14 = .ok (.iconst 0, 1) := by decide +kernel
theorem dX6_isPlace_15 : decode cX6_isPlace 15 = .ok (.ireturn, 1) := by decide +kernel
theorem dX6_heightOf_0 : decode cX6_heightOf 0 = .ok (.iload_n 0, 1) := by decide +kernel
theorem dX6_heightOf_1 : decode cX6_heightOf 1 = .ok (.iconst 2, 1) := by decide +kernel
theorem dX6_heightOf_2 : decode cX6_heightOf 2 = .ok (.irem, 1) := by decide +kernel
theorem dX6_heightOf_3 : decode cX6_heightOf 3 = .ok (.ifCond .ne 7, 3) := by decide +kernel
theorem dX6_heightOf_6 : decode cX6_heightOf 6 = .ok (.iconst 5, 1) := by decide +kernel
theorem dX6_heightOf_7 : decode cX6_heightOf 7 = .ok (.goto 4, 3) := by decide +kernel
theorem dX6_heightOf_10 : decode cX6_heightOf 10 = .ok (.iconst 3, 1) := by decide +kernel
theorem dX6_heightOf_11 : decode cX6_heightOf 11 = .ok (.ireturn, 1) := by decide +kernel
theorem dX6_widthOf_0 : decode cX6_widthOf 0 = .ok (.iload_n 0, 1) := by decide +kernel
theorem dX6_widthOf_1 : decode cX6_widthOf 1 = .ok (.iconst 2, 1) := by decide +kernel
theorem dX6_widthOf_2 : decode cX6_widthOf 2 = .ok (.irem, 1) := by decide +kernel
theorem dX6_widthOf_3 : decode cX6_widthOf 3 = .ok (.ifCond .ne 7, 3) := by decide +kernel
theorem dX6_widthOf_6 : decode cX6_widthOf 6 = .ok (.iconst 3, 1) := by decide +kernel
theorem dX6_widthOf_7 : decode cX6_widthOf 7 = .ok (.goto 4, 3) := by decide +kernel
theorem dX6_widthOf_10 : decode cX6_widthOf 10 = .ok (.iconst 5, 1) := by decide +kernel
theorem dX6_widthOf_11 : decode cX6_widthOf 11 = .ok (.ireturn, 1) := by decide +kernel
theorem dX6_mirroringOf_0 : decode cX6_mirroringOf 0 = .ok (.iload_n 0, 1) := by decide +kernel
theorem dX6_mirroringOf_1 : decode cX6_mirroringOf 1 = .ok (.iconst 4, 1) := by decide +kernel
theorem dX6_mirroringOf_2 : decode cX6_mirroringOf 2 = .ok (.if_icmp .ge 7, 3) := by decide +kernel
theorem dX6_mirroringOf_5 : decode cX6_mirroringOf 5 = .ok (.iconst 0, 1) := by decide +kernel
theorem dX6_mirroringOf_6 : decode cX6_mirroringOf 6 = .ok (.goto 4, 3) := by decide +kernel
theorem dX6_mirroringOf_9 : decode cX6_mirroringOf 9 = .ok (.iconst 1, 1) := by decide +kernel
theorem dX6_mirroringOf_10 : decode cX6_mirroringOf 10 = .ok (.ireturn, 1) := by decide +kernel
theorem dX6_rowIn_0 : decode cX6_rowIn 0 = .ok (.iload_n 0, 1) := by decide +kernel
theorem dX6_rowIn_1 : decode cX6_rowIn 1 = .ok (.bipush 8, 2) := by decide +kernel
theorem dX6_rowIn_3 : decode cX6_rowIn 3 = .ok (.idiv, 1) := by decide +kernel
theorem dX6_rowIn_4 : decode cX6_rowIn 4 = .ok (.bipush 14, 2) := by decide +kernel
theorem dX6_rowIn_6 : decode cX6_rowIn 6 = .ok (.idiv, 1) := by decide +kernel
theorem dX6_rowIn_7 : decode cX6_rowIn 7 = .ok (.ireturn, 1) := by decide +kernel
theorem dX6_columnIn_0 : decode cX6_columnIn 0 = .ok (.iload_n 0, 1) := by decide +kernel
theorem dX6_columnIn_1 : decode cX6_columnIn 1 = .ok (.bipush 8, 2) := by decide +kernel
theorem dX6_columnIn_3 : decode cX6_columnIn 3 = .ok (.idiv, 1) := by decide +kernel
theorem dX6_columnIn_4 : decode cX6_columnIn 4 = .ok (.bipush 14, 2) := by decide +kernel
theorem dX6_columnIn_6 : decode cX6_columnIn 6 = .ok (.irem, 1) := by decide +kernel
theorem dX6_columnIn_7 : decode cX6_columnIn 7 = .ok (.ireturn, 1) := by decide +kernel
theorem dX6_wayIn_0 : decode cX6_wayIn 0 = .ok (.iload_n 0, 1) := by decide +kernel
theorem dX6_wayIn_1 : decode cX6_wayIn 1 = .ok (.bipush 8, 2) := by decide +kernel
theorem dX6_wayIn_3 : decode cX6_wayIn 3 = .ok (.irem, 1) := by decide +kernel
theorem dX6_wayIn_4 : decode cX6_wayIn 4 = .ok (.ireturn, 1) := by decide +kernel
theorem dX6_lowestIn_0 : decode cX6_lowestIn 0 = .ok (.iload_n 0, 1) := by decide +kernel
theorem dX6_lowestIn_1 : decode cX6_lowestIn 1 = .ok (.iconst (-1), 1) := by decide +kernel
theorem dX6_lowestIn_2 : decode cX6_lowestIn 2 = .ok (.ixor, 1) := by decide +kernel
theorem dX6_lowestIn_3 : decode cX6_lowestIn 3 = .ok (.iload_n 0, 1) := by decide +kernel
theorem dX6_lowestIn_4 : decode cX6_lowestIn 4 = .ok (.iconst 1, 1) := by decide +kernel
theorem dX6_lowestIn_5 : decode cX6_lowestIn 5 = .ok (.isub, 1) := by decide +kernel
theorem dX6_lowestIn_6 : decode cX6_lowestIn 6 = .ok (.iand, 1) := by decide +kernel
theorem dX6_lowestIn_7 : decode cX6_lowestIn 7 = .ok (.invokestatic 233, 3) := by decide +kernel
theorem dX6_lowestIn_10 : decode cX6_lowestIn 10 = .ok (.ireturn, 1) := by decide +kernel
theorem dJ11_isValidCodePoint_9a6ad_0 : decode cJ11_isValidCodePoint_9a6ad 0 = .ok (.iload_n 0, 1) := by decide +kernel
theorem dJ11_isValidCodePoint_9a6ad_1 : decode cJ11_isValidCodePoint_9a6ad 1 = .ok (.bipush 16, 2) := by decide +kernel
theorem dJ11_isValidCodePoint_9a6ad_3 : decode cJ11_isValidCodePoint_9a6ad 3 = .ok (.iushr, 1) := by decide +kernel
theorem dJ11_isValidCodePoint_9a6ad_4 : decode cJ11_isValidCodePoint_9a6ad 4 = .ok (.istore_n 1, 1) := by decide +kernel
theorem dJ11_isValidCodePoint_9a6ad_5 : decode cJ11_isValidCodePoint_9a6ad 5 = .ok (.iload_n 1, 1) := by decide +kernel
theorem dJ11_isValidCodePoint_9a6ad_6 : decode cJ11_isValidCodePoint_9a6ad 6 = .ok (.bipush 17, 2) := by decide +kernel
theorem dJ11_isValidCodePoint_9a6ad_8 : decode cJ11_isValidCodePoint_9a6ad 8 = .ok (.if_icmp .ge 7, 3) := by decide +kernel
theorem dJ11_isValidCodePoint_9a6ad_11 : decode cJ11_isValidCodePoint_9a6ad 11 = .ok (.iconst 1, 1) := by decide +kernel
theorem dJ11_isValidCodePoint_9a6ad_12 : decode cJ11_isValidCodePoint_9a6ad 12 = .ok (.goto 4, 3) := by decide +kernel
theorem dJ11_isValidCodePoint_9a6ad_15 : decode cJ11_isValidCodePoint_9a6ad 15 = .ok (.iconst 0, 1) := by decide +kernel
theorem dJ11_isValidCodePoint_9a6ad_16 : decode cJ11_isValidCodePoint_9a6ad 16 = .ok (.ireturn, 1) := by decide +kernel
theorem dJ11_highSurrogate_5068e_0 : decode cJ11_highSurrogate_5068e 0 = .ok (.iload_n 0, 1) := by decide +kernel
theorem dJ11_highSurrogate_5068e_1 : decode cJ11_highSurrogate_5068e 1 = .ok (.bipush 10, 2) := by decide +kernel
theorem dJ11_highSurrogate_5068e_3 : decode cJ11_highSurrogate_5068e 3 = .ok (.iushr, 1) := by decide +kernel
theorem dJ11_highSurrogate_5068e_4 : decode cJ11_highSurrogate_5068e 4 = .ok (.ldc 110, 2) := by decide +kernel
theorem dJ11_highSurrogate_5068e_6 : decode cJ11_highSurrogate_5068e 6 = .ok (.iadd, 1) := by decide +kernel
theorem dJ11_highSurrogate_5068e_7 : decode cJ11_highSurrogate_5068e 7 = .ok (.i2c, 1) := by decide +kernel
theorem dJ11_highSurrogate_5068e_8 : decode cJ11_highSurrogate_5068e 8 = .ok (.ireturn, 1) := by decide +kernel
theorem dJ11_lowSurrogate_5068e_0 : decode cJ11_lowSurrogate_5068e 0 = .ok (.iload_n 0, 1) := by decide +kernel
theorem dJ11_lowSurrogate_5068e_1 : decode cJ11_lowSurrogate_5068e 1 = .ok (.sipush 1023, 3) := by decide +kernel
theorem dJ11_lowSurrogate_5068e_4 : decode cJ11_lowSurrogate_5068e 4 = .ok (.iand, 1) := by decide +kernel
theorem dJ11_lowSurrogate_5068e_5 : decode cJ11_lowSurrogate_5068e 5 = .ok (.ldc 76, 2) := by decide +kernel
theorem dJ11_lowSurrogate_5068e_7 : decode cJ11_lowSurrogate_5068e 7 = .ok (.iadd, 1) := by decide +kernel
theorem dJ11_lowSurrogate_5068e_8 : decode cJ11_lowSurrogate_5068e 8 = .ok (.i2c, 1) := by decide +kernel
theorem dJ11_lowSurrogate_5068e_9 : decode cJ11_lowSurrogate_5068e 9 = .ok (.ireturn, 1) := by decide +kernel
theorem dJ6_bitCount_0f7a4_0 : decode cJ6_bitCount_0f7a4 0 = .ok (.iload_n 0, 1) := by decide +kernel
theorem dJ6_bitCount_0f7a4_1 : decode cJ6_bitCount_0f7a4 1 = .ok (.iload_n 0, 1) := by decide +kernel
theorem dJ6_bitCount_0f7a4_2 : decode cJ6_bitCount_0f7a4 2 = .ok (.iconst 1, 1) := by decide +kernel
theorem dJ6_bitCount_0f7a4_3 : decode cJ6_bitCount_0f7a4 3 = .ok (.iushr, 1) := by decide +kernel
theorem dJ6_bitCount_0f7a4_4 : decode cJ6_bitCount_0f7a4 4 = .ok (.ldc_w 265, 3) := by decide +kernel
theorem dJ6_bitCount_0f7a4_7 : decode cJ6_bitCount_0f7a4 7 = .ok (.iand, 1) := by decide +kernel
theorem dJ6_bitCount_0f7a4_8 : decode cJ6_bitCount_0f7a4 8 = .ok (.isub, 1) := by decide +kernel
theorem dJ6_bitCount_0f7a4_9 : decode cJ6_bitCount_0f7a4 9 = .ok (.istore_n 0, 1) := by decide +kernel
theorem dJ6_bitCount_0f7a4_10 : decode cJ6_bitCount_0f7a4 10 = .ok (.iload_n 0, 1) := by decide +kernel
theorem dJ6_bitCount_0f7a4_11 : decode cJ6_bitCount_0f7a4 11 = .ok (.ldc_w 266, 3) := by decide +kernel
theorem dJ6_bitCount_0f7a4_14 : decode cJ6_bitCount_0f7a4 14 = .ok (.iand, 1) := by decide +kernel
theorem dJ6_bitCount_0f7a4_15 : decode cJ6_bitCount_0f7a4 15 = .ok (.iload_n 0, 1) := by decide +kernel
theorem dJ6_bitCount_0f7a4_16 : decode cJ6_bitCount_0f7a4 16 = .ok (.iconst 2, 1) := by decide +kernel
theorem dJ6_bitCount_0f7a4_17 : decode cJ6_bitCount_0f7a4 17 = .ok (.iushr, 1) := by decide +kernel
theorem dJ6_bitCount_0f7a4_18 : decode cJ6_bitCount_0f7a4 18 = .ok (.ldc_w 266, 3) := by decide +kernel
theorem dJ6_bitCount_0f7a4_21 : decode cJ6_bitCount_0f7a4 21 = .ok (.iand, 1) := by decide +kernel
theorem dJ6_bitCount_0f7a4_22 : decode cJ6_bitCount_0f7a4 22 = .ok (.iadd, 1) := by decide +kernel
theorem dJ6_bitCount_0f7a4_23 : decode cJ6_bitCount_0f7a4 23 = .ok (.istore_n 0, 1) := by decide +kernel
theorem dJ6_bitCount_0f7a4_24 : decode cJ6_bitCount_0f7a4 24 = .ok (.iload_n 0, 1) := by decide +kernel
theorem dJ6_bitCount_0f7a4_25 : decode cJ6_bitCount_0f7a4 25 = .ok (.iload_n 0, 1) := by decide +kernel
theorem dJ6_bitCount_0f7a4_26 : decode cJ6_bitCount_0f7a4 26 = .ok (.iconst 4, 1) := by decide +kernel
theorem dJ6_bitCount_0f7a4_27 : decode cJ6_bitCount_0f7a4 27 = .ok (.iushr, 1) := by decide +kernel
theorem dJ6_bitCount_0f7a4_28 : decode cJ6_bitCount_0f7a4 28 = .ok (.iadd, 1) := by decide +kernel
theorem dJ6_bitCount_0f7a4_29 : decode cJ6_bitCount_0f7a4 29 = .ok (.ldc_w 267, 3) := by decide +kernel
theorem dJ6_bitCount_0f7a4_32 : decode cJ6_bitCount_0f7a4 32 = .ok (.iand, 1) := by decide +kernel
theorem dJ6_bitCount_0f7a4_33 : decode cJ6_bitCount_0f7a4 33 = .ok (.istore_n 0, 1) := by decide +kernel
theorem dJ6_bitCount_0f7a4_34 : decode cJ6_bitCount_0f7a4 34 = .ok (.iload_n 0, 1) := by decide +kernel
theorem dJ6_bitCount_0f7a4_35 : decode cJ6_bitCount_0f7a4 35 = .ok (.iload_n 0, 1) := by decide +kernel
theorem dJ6_bitCount_0f7a4_36 : decode cJ6_bitCount_0f7a4 36 = .ok (.bipush 8, 2) := by decide +kernel
theorem dJ6_bitCount_0f7a4_38 : decode cJ6_bitCount_0f7a4 38 = .ok (.iushr, 1) := by decide +kernel
theorem dJ6_bitCount_0f7a4_39 : decode cJ6_bitCount_0f7a4 39 = .ok (.iadd, 1) := by decide +kernel
theorem dJ6_bitCount_0f7a4_40 : decode cJ6_bitCount_0f7a4 40 = .ok (.istore_n 0, 1) := by decide +kernel
theorem dJ6_bitCount_0f7a4_41 : decode cJ6_bitCount_0f7a4 41 = .ok (.iload_n 0, 1) := by decide +kernel
theorem dJ6_bitCount_0f7a4_42 : decode cJ6_bitCount_0f7a4 42 = .ok (.iload_n 0, 1) := by decide +kernel
theorem dJ6_bitCount_0f7a4_43 : decode cJ6_bitCount_0f7a4 43 = .ok (.bipush 16, 2) := by decide +kernel
theorem dJ6_bitCount_0f7a4_45 : decode cJ6_bitCount_0f7a4 45 = .ok (.iushr, 1) := by decide +kernel
theorem dJ6_bitCount_0f7a4_46 : decode cJ6_bitCount_0f7a4 46 = .ok (.iadd, 1) := by decide +kernel
theorem dJ6_bitCount_0f7a4_47 : decode cJ6_bitCount_0f7a4 47 = .ok (.istore_n 0, 1) := by decide +kernel
theorem dJ6_bitCount_0f7a4_48 : decode cJ6_bitCount_0f7a4 48 = .ok (.iload_n 0, 1) := by decide +kernel
theorem dJ6_bitCount_0f7a4_49 : decode cJ6_bitCount_0f7a4 49 = .ok (.bipush 63, 2) := by decide +kernel
theorem dJ6_bitCount_0f7a4_51 : decode cJ6_bitCount_0f7a4 51 = .ok (.iand, 1) := by decide +kernel
theorem dJ6_bitCount_0f7a4_52 : decode cJ6_bitCount_0f7a4 52 = .ok (.ireturn, 1) := by decide +kernel
theorem dJ9_floorMod_7cf53_0 : decode cJ9_floorMod_7cf53 0 = .ok (.iload_n 0, 1) := by decide +kernel
theorem dJ9_floorMod_7cf53_1 : decode cJ9_floorMod_7cf53 1 = .ok (.iload_n 1, 1) := by decide +kernel
theorem dJ9_floorMod_7cf53_2 : decode cJ9_floorMod_7cf53 2 = .ok (.irem, 1) := by decide +kernel
theorem dJ9_floorMod_7cf53_3 : decode cJ9_floorMod_7cf53 3 = .ok (.istore_n 2, 1) := by decide +kernel
theorem dJ9_floorMod_7cf53_4 : decode cJ9_floorMod_7cf53 4 = .ok (.iload_n 0, 1) := by decide +kernel
theorem dJ9_floorMod_7cf53_5 : decode cJ9_floorMod_7cf53 5 = .ok (.iload_n 1, 1) := by decide +kernel
theorem dJ9_floorMod_7cf53_6 : decode cJ9_floorMod_7cf53 6 = .ok (.ixor, 1) := by decide +kernel
theorem dJ9_floorMod_7cf53_7 : decode cJ9_floorMod_7cf53 7 = .ok (.ifCond .ge 11, 3) := by decide +kernel
theorem dJ9_floorMod_7cf53_10 : decode cJ9_floorMod_7cf53 10 = .ok (.iload_n 2, 1) := by decide +kernel
theorem dJ9_floorMod_7cf53_11 : decode cJ9_floorMod_7cf53 11 = .ok (.ifCond .eq 7, 3) := by decide +kernel
theorem dJ9_floorMod_7cf53_14 : decode cJ9_floorMod_7cf53 14 = .ok (.iload_n 2, 1) := by decide +kernel
theorem dJ9_floorMod_7cf53_15 : decode cJ9_floorMod_7cf53 15 = .ok (.iload_n 1, 1) := by decide +kernel
theorem dJ9_floorMod_7cf53_16 : decode cJ9_floorMod_7cf53 16 = .ok (.iadd, 1) := by decide +kernel
theorem dJ9_floorMod_7cf53_17 : decode cJ9_floorMod_7cf53 17 = .ok (.ireturn, 1) := by decide +kernel
theorem dJ9_floorMod_7cf53_18 : decode cJ9_floorMod_7cf53 18 = .ok (.iload_n 2, 1) := by decide +kernel
theorem dJ9_floorMod_7cf53_19 : decode cJ9_floorMod_7cf53 19 = .ok (.ireturn, 1) := by decide +kernel
theorem dJ9_max_7cf53_0 : decode cJ9_max_7cf53 0 = .ok (.iload_n 0, 1) := by decide +kernel
theorem dJ9_max_7cf53_1 : decode cJ9_max_7cf53 1 = .ok (.iload_n 1, 1) := by decide +kernel
theorem dJ9_max_7cf53_2 : decode cJ9_max_7cf53 2 = .ok (.if_icmp .lt 7, 3) := by decide +kernel
theorem dJ9_max_7cf53_5 : decode cJ9_max_7cf53 5 = .ok (.iload_n 0, 1) := by decide +kernel
theorem dJ9_max_7cf53_6 : decode cJ9_max_7cf53 6 = .ok (.goto 4, 3) := by decide +kernel
theorem dJ9_max_7cf53_9 : decode cJ9_max_7cf53 9 = .ok (.iload_n 1, 1) := by decide +kernel
theorem dJ9_max_7cf53_10 : decode cJ9_max_7cf53 10 = .ok (.ireturn, 1) := by decide +kernel
theorem dJ9_min_7cf53_0 : decode cJ9_min_7cf53 0 = .ok (.iload_n 0, 1) := by decide +kernel
theorem dJ9_min_7cf53_1 : decode cJ9_min_7cf53 1 = .ok (.iload_n 1, 1) := by decide +kernel
theorem dJ9_min_7cf53_2 : decode cJ9_min_7cf53 2 = .ok (.if_icmp .gt 7, 3) := by decide +kernel
theorem dJ9_min_7cf53_5 : decode cJ9_min_7cf53 5 = .ok (.iload_n 0, 1) := by decide +kernel
theorem dJ9_min_7cf53_6 : decode cJ9_min_7cf53 6 = .ok (.goto 4, 3) := by decide +kernel
theorem dJ9_min_7cf53_9 : decode cJ9_min_7cf53 9 = .ok (.iload_n 1, 1) := by decide +kernel
theorem dJ9_min_7cf53_10 : decode cJ9_min_7cf53 10 = .ok (.ireturn, 1) := by decide +kernel
theorem dJ0_length_8abf5_0 : decode cJ0_length_8abf5 0 = .ok (.aload_n 0, 1) := by decide +kernel
theorem dJ0_length_8abf5_1 : decode cJ0_length_8abf5 1 = .ok (.getfield 9, 3) := by decide +kernel
theorem dJ0_length_8abf5_4 : decode cJ0_length_8abf5 4 = .ok (.arraylength, 1) := by decide +kernel
theorem dJ0_length_8abf5_5 : decode cJ0_length_8abf5 5 = .ok (.aload_n 0, 1) := by decide +kernel
theorem dJ0_length_8abf5_6 : decode cJ0_length_8abf5 6 = .ok (.invokevirtual 335, 3) := by decide +kernel
theorem dJ0_length_8abf5_9 : decode cJ0_length_8abf5 9 = .ok (.ishr, 1) := by decide +kernel
theorem dJ0_length_8abf5_10 : decode cJ0_length_8abf5 10 = .ok (.ireturn, 1) := by decide +kernel
theorem dJ0_indexOf_0f7a4_0 : decode cJ0_indexOf_0f7a4 0 = .ok (.aload_n 0, 1) := by decide +kernel
theorem dJ0_indexOf_0f7a4_1 : decode cJ0_indexOf_0f7a4 1 = .ok (.iload_n 1, 1) := by decide +kernel
theorem dJ0_indexOf_0f7a4_2 : decode cJ0_indexOf_0f7a4 2 = .ok (.iconst 0, 1) := by decide +kernel
theorem dJ0_indexOf_0f7a4_3 : decode cJ0_indexOf_0f7a4 3 = .ok (.invokevirtual 633, 3) := by decide +kernel
theorem dJ0_indexOf_0f7a4_6 : decode cJ0_indexOf_0f7a4 6 = .ok (.ireturn, 1) := by decide +kernel
theorem dJ0_indexOf_7cf53_0 : decode cJ0_indexOf_7cf53 0 = .ok (.aload_n 0, 1) := by decide +kernel
theorem dJ0_indexOf_7cf53_1 : decode cJ0_indexOf_7cf53 1 = .ok (.invokevirtual 492, 3) := by decide +kernel
theorem dJ0_indexOf_7cf53_4 : decode cJ0_indexOf_7cf53 4 = .ok (.ifCond .eq 19, 3) := by decide +kernel
theorem dJ0_indexOf_7cf53_7 : decode cJ0_indexOf_7cf53 7 = .ok (.aload_n 0, 1) := by decide +kernel
theorem dJ0_indexOf_7cf53_8 : decode cJ0_indexOf_7cf53 8 = .ok (.getfield 9, 3) := by decide +kernel
theorem dJ0_indexOf_7cf53_11 : decode cJ0_indexOf_7cf53 11 = .ok (.iload_n 1, 1) := by decide +kernel
theorem dJ0_indexOf_7cf53_12 : decode cJ0_indexOf_7cf53 12 = .ok (.iload_n 2, 1) := by decide +kernel
theorem dJ0_indexOf_7cf53_13 : decode cJ0_indexOf_7cf53 13 = .ok (.aload_n 0, 1) := by decide +kernel
theorem dJ0_indexOf_7cf53_14 : decode cJ0_indexOf_7cf53 14 = .ok (.invokevirtual 505, 3) := by decide +kernel
theorem dJ0_indexOf_7cf53_17 : decode cJ0_indexOf_7cf53 17 = .ok (.invokestatic 637, 3) := by decide +kernel
theorem dJ0_indexOf_7cf53_20 : decode cJ0_indexOf_7cf53 20 = .ok (.goto 16, 3) := by decide +kernel
theorem dJ0_indexOf_7cf53_23 : decode cJ0_indexOf_7cf53 23 = .ok (.aload_n 0, 1) := by decide +kernel
theorem dJ0_indexOf_7cf53_24 : decode cJ0_indexOf_7cf53 24 = .ok (.getfield 9, 3) := by decide +kernel
theorem dJ0_indexOf_7cf53_27 : decode cJ0_indexOf_7cf53 27 = .ok (.iload_n 1, 1) := by decide +kernel
theorem dJ0_indexOf_7cf53_28 : decode cJ0_indexOf_7cf53 28 = .ok (.iload_n 2, 1) := by decide +kernel
theorem dJ0_indexOf_7cf53_29 : decode cJ0_indexOf_7cf53 29 = .ok (.aload_n 0, 1) := by decide +kernel
theorem dJ0_indexOf_7cf53_30 : decode cJ0_indexOf_7cf53 30 = .ok (.invokevirtual 505, 3) := by decide +kernel
theorem dJ0_indexOf_7cf53_33 : decode cJ0_indexOf_7cf53 33 = .ok (.invokestatic 640, 3) := by decide +kernel
theorem dJ0_indexOf_7cf53_36 : decode cJ0_indexOf_7cf53 36 = .ok (.ireturn, 1) := by decide +kernel
theorem dJ0_coder_7d493_0 : decode cJ0_coder_7d493 0 = .ok (.getstatic 38, 3) := by decide +kernel
theorem dJ0_coder_7d493_3 : decode cJ0_coder_7d493 3 = .ok (.ifCond .eq 10, 3) := by decide +kernel
theorem dJ0_coder_7d493_6 : decode cJ0_coder_7d493 6 = .ok (.aload_n 0, 1) := by decide +kernel
theorem dJ0_coder_7d493_7 : decode cJ0_coder_7d493 7 = .ok (.getfield 15, 3) := by decide +kernel
theorem dJ0_coder_7d493_10 : decode cJ0_coder_7d493 10 = .ok (.goto 4, 3) := by decide +kernel
theorem dJ0_coder_7d493_13 : decode cJ0_coder_7d493 13 = .ok (.iconst 1, 1) := by decide +kernel
theorem dJ0_coder_7d493_14 : decode cJ0_coder_7d493 14 = .ok (.ireturn, 1) := by decide +kernel
theorem dJ0_isLatin1_aae02_0 : decode cJ0_isLatin1_aae02 0 = .ok (.getstatic 38, 3) := by decide +kernel
theorem dJ0_isLatin1_aae02_3 : decode cJ0_isLatin1_aae02 3 = .ok (.ifCond .eq 14, 3) := by decide +kernel
theorem dJ0_isLatin1_aae02_6 : decode cJ0_isLatin1_aae02 6 = .ok (.aload_n 0, 1) := by decide +kernel
theorem dJ0_isLatin1_aae02_7 : decode cJ0_isLatin1_aae02 7 = .ok (.getfield 15, 3) := by decide +kernel
theorem dJ0_isLatin1_aae02_10 : decode cJ0_isLatin1_aae02 10 = .ok (.ifCond .ne 7, 3) := by decide +kernel
theorem dJ0_isLatin1_aae02_13 : decode cJ0_isLatin1_aae02 13 = .ok (.iconst 1, 1) := by decide +kernel
theorem dJ0_isLatin1_aae02_14 : decode cJ0_isLatin1_aae02 14 = .ok (.goto 4, 3) := by decide +kernel
theorem dJ0_isLatin1_aae02_17 : decode cJ0_isLatin1_aae02 17 = .ok (.iconst 0, 1) := by decide +kernel
theorem dJ0_isLatin1_aae02_18 : decode cJ0_isLatin1_aae02 18 = .ok (.ireturn, 1) := by decide +kernel
theorem dJ0_checkBoundsBeginEnd_23922_0 : decode cJ0_checkBoundsBeginEnd_23922 0 = .ok (.iload_n 0, 1) := by decide +kernel
theorem dJ0_checkBoundsBeginEnd_23922_1 : decode cJ0_checkBoundsBeginEnd_23922 1 = .ok (.iload_n 1, 1) := by decide +kernel
theorem dJ0_checkBoundsBeginEnd_23922_2 : decode cJ0_checkBoundsBeginEnd_23922 2 = .ok (.iload_n 2, 1) := by decide +kernel
theorem dJ0_checkBoundsBeginEnd_23922_3 : decode cJ0_checkBoundsBeginEnd_23922 3 = .ok (.getstatic 1053, 3) := by decide +kernel
theorem dJ0_checkBoundsBeginEnd_23922_6 : decode cJ0_checkBoundsBeginEnd_23922 6 = .ok (.invokestatic 1062, 3) := by decide +kernel
theorem dJ0_checkBoundsBeginEnd_23922_9 : decode cJ0_checkBoundsBeginEnd_23922 9 = .ok (.pop, 1) := by decide +kernel
theorem dJ0_checkBoundsBeginEnd_23922_10 : decode cJ0_checkBoundsBeginEnd_23922 10 = .ok (.return_, 1) := by decide +kernel
theorem dJ1_canEncode_9a6ad_0 : decode cJ1_canEncode_9a6ad 0 = .ok (.iload_n 0, 1) := by decide +kernel
theorem dJ1_canEncode_9a6ad_1 : decode cJ1_canEncode_9a6ad 1 = .ok (.ifCond .lt 14, 3) := by decide +kernel
theorem dJ1_canEncode_9a6ad_4 : decode cJ1_canEncode_9a6ad 4 = .ok (.iload_n 0, 1) := by decide +kernel
theorem dJ1_canEncode_9a6ad_5 : decode cJ1_canEncode_9a6ad 5 = .ok (.sipush 255, 3) := by decide +kernel
theorem dJ1_canEncode_9a6ad_8 : decode cJ1_canEncode_9a6ad 8 = .ok (.if_icmp .gt 7, 3) := by decide +kernel
theorem dJ1_canEncode_9a6ad_11 : decode cJ1_canEncode_9a6ad 11 = .ok (.iconst 1, 1) := by decide +kernel
theorem dJ1_canEncode_9a6ad_12 : decode cJ1_canEncode_9a6ad 12 = .ok (.goto 4, 3) := by decide +kernel
theorem dJ1_canEncode_9a6ad_15 : decode cJ1_canEncode_9a6ad 15 = .ok (.iconst 0, 1) := by decide +kernel
theorem dJ1_canEncode_9a6ad_16 : decode cJ1_canEncode_9a6ad 16 = .ok (.ireturn, 1) := by decide +kernel
theorem dJ1_indexOf_4cfef_0 : decode cJ1_indexOf_4cfef 0 = .ok (.iload_n 1, 1) := by decide +kernel
theorem dJ1_indexOf_4cfef_1 : decode cJ1_indexOf_4cfef 1 = .ok (.invokestatic 88, 3) := by decide +kernel
theorem dJ1_indexOf_4cfef_4 : decode cJ1_indexOf_4cfef 4 = .ok (.ifCond .ne 5, 3) := by decide +kernel
theorem dJ1_indexOf_4cfef_7 : decode cJ1_indexOf_4cfef 7 = .ok (.iconst (-1), 1) := by decide +kernel
theorem dJ1_indexOf_4cfef_8 : decode cJ1_indexOf_4cfef 8 = .ok (.ireturn, 1) := by decide +kernel
theorem dJ1_indexOf_4cfef_9 : decode cJ1_indexOf_4cfef 9 = .ok (.iload_n 2, 1) := by decide +kernel
theorem dJ1_indexOf_4cfef_10 : decode cJ1_indexOf_4cfef 10 = .ok (.iconst 0, 1) := by decide +kernel
theorem dJ1_indexOf_4cfef_11 : decode cJ1_indexOf_4cfef 11 = .ok (.invokestatic 92, 3) := by decide +kernel
theorem dJ1_indexOf_4cfef_14 : decode cJ1_indexOf_4cfef 14 = .ok (.istore_n 2, 1) := by decide +kernel
theorem dJ1_indexOf_4cfef_15 : decode cJ1_indexOf_4cfef 15 = .ok (.iload_n 3, 1) := by decide +kernel
theorem dJ1_indexOf_4cfef_16 : decode cJ1_indexOf_4cfef 16 = .ok (.aload_n 0, 1) := by decide +kernel
theorem dJ1_indexOf_4cfef_17 : decode cJ1_indexOf_4cfef 17 = .ok (.arraylength, 1) := by decide +kernel
theorem dJ1_indexOf_4cfef_18 : decode cJ1_indexOf_4cfef 18 = .ok (.invokestatic 38, 3) := by decide +kernel
theorem dJ1_indexOf_4cfef_21 : decode cJ1_indexOf_4cfef 21 = .ok (.istore_n 3, 1) := by decide +kernel
theorem dJ1_indexOf_4cfef_22 : decode cJ1_indexOf_4cfef 22 = .ok (.iload_n 2, 1) := by decide +kernel
theorem dJ1_indexOf_4cfef_23 : decode cJ1_indexOf_4cfef 23 = .ok (.iload_n 3, 1) := by decide +kernel
theorem dJ1_indexOf_4cfef_24 : decode cJ1_indexOf_4cfef 24 = .ok (.if_icmp .lt 5, 3) := by decide +kernel
theorem dJ1_indexOf_4cfef_27 : decode cJ1_indexOf_4cfef 27 = .ok (.iconst (-1), 1) := by decide +kernel
theorem dJ1_indexOf_4cfef_28 : decode cJ1_indexOf_4cfef 28 = .ok (.ireturn, 1) := by decide +kernel
theorem dJ1_indexOf_4cfef_29 : decode cJ1_indexOf_4cfef 29 = .ok (.aload_n 0, 1) := by decide +kernel
theorem dJ1_indexOf_4cfef_30 : decode cJ1_indexOf_4cfef 30 = .ok (.iload_n 1, 1) := by decide +kernel
theorem dJ1_indexOf_4cfef_31 : decode cJ1_indexOf_4cfef 31 = .ok (.iload_n 2, 1) := by decide +kernel
theorem dJ1_indexOf_4cfef_32 : decode cJ1_indexOf_4cfef 32 = .ok (.iload_n 3, 1) := by decide +kernel
theorem dJ1_indexOf_4cfef_33 : decode cJ1_indexOf_4cfef 33 = .ok (.invokestatic 95, 3) := by decide +kernel
theorem dJ1_indexOf_4cfef_36 : decode cJ1_indexOf_4cfef 36 = .ok (.ireturn, 1) := by decide +kernel
theorem dJ1_indexOfChar_4cfef_0 : decode cJ1_indexOfChar_4cfef 0 = .ok (.iload_n 1, 1) := by decide +kernel
theorem dJ1_indexOfChar_4cfef_1 : decode cJ1_indexOfChar_4cfef 1 = .ok (.i2b, 1) := by decide +kernel
theorem dJ1_indexOfChar_4cfef_2 : decode cJ1_indexOfChar_4cfef 2 = .ok (.istore 4, 2) := by decide +kernel
theorem dJ1_indexOfChar_4cfef_4 : decode cJ1_indexOfChar_4cfef 4 = .ok (.iload_n 2, 1) := by decide +kernel
theorem dJ1_indexOfChar_4cfef_5 : decode cJ1_indexOfChar_4cfef 5 = .ok (.istore 5, 2) := by decide +kernel
theorem dJ1_indexOfChar_4cfef_7 : decode cJ1_indexOfChar_4cfef 7 = .ok (.iload 5, 2) := by decide +kernel
theorem dJ1_indexOfChar_4cfef_9 : decode cJ1_indexOfChar_4cfef 9 = .ok (.iload_n 3, 1) := by decide +kernel
theorem dJ1_indexOfChar_4cfef_10 : decode cJ1_indexOfChar_4cfef 10 = .ok (.if_icmp .ge 21, 3) := by decide +kernel
theorem dJ1_indexOfChar_4cfef_13 : decode cJ1_indexOfChar_4cfef 13 = .ok (.aload_n 0, 1) := by decide +kernel
theorem dJ1_indexOfChar_4cfef_14 : decode cJ1_indexOfChar_4cfef 14 = .ok (.iload 5, 2) := by decide +kernel
theorem dJ1_indexOfChar_4cfef_16 : decode cJ1_indexOfChar_4cfef 16 = .ok (.baload, 1) := by decide +kernel
theorem dJ1_indexOfChar_4cfef_17 : decode cJ1_indexOfChar_4cfef 17 = .ok (.iload 4, 2) := by decide +kernel
theorem dJ1_indexOfChar_4cfef_19 : decode cJ1_indexOfChar_4cfef 19 = .ok (.if_icmp .ne 6, 3) := by decide +kernel
theorem dJ1_indexOfChar_4cfef_22 : decode cJ1_indexOfChar_4cfef 22 = .ok (.iload 5, 2) := by decide +kernel
theorem dJ1_indexOfChar_4cfef_24 : decode cJ1_indexOfChar_4cfef 24 = .ok (.ireturn, 1) := by decide +kernel
theorem dJ1_indexOfChar_4cfef_25 : decode cJ1_indexOfChar_4cfef 25 = .ok (.iinc 5 1, 3) := by decide +kernel
theorem dJ1_indexOfChar_4cfef_28 : decode cJ1_indexOfChar_4cfef 28 = .ok (.goto (-21), 3) := by decide +kernel
theorem dJ1_indexOfChar_4cfef_31 : decode cJ1_indexOfChar_4cfef 31 = .ok (.iconst (-1), 1) := by decide +kernel
theorem dJ1_indexOfChar_4cfef_32 : decode cJ1_indexOfChar_4cfef 32 = .ok (.ireturn, 1) := by decide +kernel
theorem dJ2_getChar_3b067_0 : decode cJ2_getChar_3b067 0 = .ok (.getstatic 44, 3) := by decide +kernel
theorem dJ2_getChar_3b067_3 : decode cJ2_getChar_3b067 3 = .ok (.ifCond .ne 25, 3) := by decide +kernel
theorem dJ2_getChar_3b067_6 : decode cJ2_getChar_3b067 6 = .ok (.iload_n 1, 1) := by decide +kernel
theorem dJ2_getChar_3b067_7 : decode cJ2_getChar_3b067 7 = .ok (.ifCond .lt 11, 3) := by decide +kernel
theorem dJ2_getChar_3b067_10 : decode cJ2_getChar_3b067 10 = .ok (.iload_n 1, 1) := by decide +kernel
theorem dJ2_getChar_3b067_11 : decode cJ2_getChar_3b067 11 = .ok (.aload_n 0, 1) := by decide +kernel
theorem dJ2_getChar_3b067_12 : decode cJ2_getChar_3b067 12 = .ok (.invokestatic 48, 3) := by decide +kernel
theorem dJ2_getChar_3b067_15 : decode cJ2_getChar_3b067 15 = .ok (.if_icmp .lt 13, 3) := by decide +kernel
theorem dJ2_getChar_3b067_18 : decode cJ2_getChar_3b067 18 = .ok (.new 52, 3) := by decide +kernel
theorem dJ2_getChar_3b067_21 : decode cJ2_getChar_3b067 21 = .ok (.dup, 1) := by decide +kernel
theorem dJ2_getChar_3b067_22 : decode cJ2_getChar_3b067 22 = .ok (.ldc 54, 2) := by decide +kernel
theorem dJ2_getChar_3b067_24 : decode cJ2_getChar_3b067 24 = .ok (.invokespecial 56, 3) := by decide +kernel
theorem dJ2_getChar_3b067_27 : decode cJ2_getChar_3b067 27 = .ok (.athrow, 1) := by decide +kernel
theorem dJ2_getChar_3b067_28 : decode cJ2_getChar_3b067 28 = .ok (.iload_n 1, 1) := by decide +kernel
theorem dJ2_getChar_3b067_29 : decode cJ2_getChar_3b067 29 = .ok (.iconst 1, 1) := by decide +kernel
theorem dJ2_getChar_3b067_30 : decode cJ2_getChar_3b067 30 = .ok (.ishl, 1) := by decide +kernel
theorem dJ2_getChar_3b067_31 : decode cJ2_getChar_3b067 31 = .ok (.istore_n 1, 1) := by decide +kernel
theorem dJ2_getChar_3b067_32 : decode cJ2_getChar_3b067 32 = .ok (.aload_n 0, 1) := by decide +kernel
theorem dJ2_getChar_3b067_33 : decode cJ2_getChar_3b067 33 = .ok (.iload_n 1, 1) := by decide +kernel
theorem dJ2_getChar_3b067_34 : decode cJ2_getChar_3b067 34 = .ok (.iinc 1 1, 3) := by decide +kernel
theorem dJ2_getChar_3b067_37 : decode cJ2_getChar_3b067 37 = .ok (.baload, 1) := by decide +kernel
theorem dJ2_getChar_3b067_38 : decode cJ2_getChar_3b067 38 = .ok (.sipush 255, 3) := by decide +kernel
theorem dJ2_getChar_3b067_41 : decode cJ2_getChar_3b067 41 = .ok (.iand, 1) := by decide +kernel
theorem dJ2_getChar_3b067_42 : decode cJ2_getChar_3b067 42 = .ok (.getstatic 59, 3) := by decide +kernel
theorem dJ2_getChar_3b067_45 : decode cJ2_getChar_3b067 45 = .ok (.ishl, 1) := by decide +kernel
theorem dJ2_getChar_3b067_46 : decode cJ2_getChar_3b067 46 = .ok (.aload_n 0, 1) := by decide +kernel
theorem dJ2_getChar_3b067_47 : decode cJ2_getChar_3b067 47 = .ok (.iload_n 1, 1) := by decide +kernel
theorem dJ2_getChar_3b067_48 : decode cJ2_getChar_3b067 48 = .ok (.baload, 1) := by decide +kernel
theorem dJ2_getChar_3b067_49 : decode cJ2_getChar_3b067 49 = .ok (.sipush 255, 3) := by decide +kernel
theorem dJ2_getChar_3b067_52 : decode cJ2_getChar_3b067 52 = .ok (.iand, 1) := by decide +kernel
theorem dJ2_getChar_3b067_53 : decode cJ2_getChar_3b067 53 = .ok (.getstatic 63, 3) := by decide +kernel
theorem dJ2_getChar_3b067_56 : decode cJ2_getChar_3b067 56 = .ok (.ishl, 1) := by decide +kernel
theorem dJ2_getChar_3b067_57 : decode cJ2_getChar_3b067 57 = .ok (.ior, 1) := by decide +kernel
theorem dJ2_getChar_3b067_58 : decode cJ2_getChar_3b067 58 = .ok (.i2c, 1) := by decide +kernel
theorem dJ2_getChar_3b067_59 : decode cJ2_getChar_3b067 59 = .ok (.ireturn, 1) := by decide +kernel
theorem dJ2_length_9d52b_0 : decode cJ2_length_9d52b 0 = .ok (.aload_n 0, 1) := by decide +kernel
theorem dJ2_length_9d52b_1 : decode cJ2_length_9d52b 1 = .ok (.arraylength, 1) := by decide +kernel
theorem dJ2_length_9d52b_2 : decode cJ2_length_9d52b 2 = .ok (.iconst 1, 1) := by decide +kernel
theorem dJ2_length_9d52b_3 : decode cJ2_length_9d52b 3 = .ok (.ishr, 1) := by decide +kernel
theorem dJ2_length_9d52b_4 : decode cJ2_length_9d52b 4 = .ok (.ireturn, 1) := by decide +kernel
theorem dJ2_indexOf_4cfef_0 : decode cJ2_indexOf_4cfef 0 = .ok (.iload_n 2, 1) := by decide +kernel
theorem dJ2_indexOf_4cfef_1 : decode cJ2_indexOf_4cfef 1 = .ok (.iconst 0, 1) := by decide +kernel
theorem dJ2_indexOf_4cfef_2 : decode cJ2_indexOf_4cfef 2 = .ok (.invokestatic 224, 3) := by decide +kernel
theorem dJ2_indexOf_4cfef_5 : decode cJ2_indexOf_4cfef 5 = .ok (.istore_n 2, 1) := by decide +kernel
theorem dJ2_indexOf_4cfef_6 : decode cJ2_indexOf_4cfef 6 = .ok (.iload_n 3, 1) := by decide +kernel
theorem dJ2_indexOf_4cfef_7 : decode cJ2_indexOf_4cfef 7 = .ok (.aload_n 0, 1) := by decide +kernel
theorem dJ2_indexOf_4cfef_8 : decode cJ2_indexOf_4cfef 8 = .ok (.arraylength, 1) := by decide +kernel
theorem dJ2_indexOf_4cfef_9 : decode cJ2_indexOf_4cfef 9 = .ok (.iconst 1, 1) := by decide +kernel
theorem dJ2_indexOf_4cfef_10 : decode cJ2_indexOf_4cfef 10 = .ok (.ishr, 1) := by decide +kernel
theorem dJ2_indexOf_4cfef_11 : decode cJ2_indexOf_4cfef 11 = .ok (.invokestatic 183, 3) := by decide +kernel
theorem dJ2_indexOf_4cfef_14 : decode cJ2_indexOf_4cfef 14 = .ok (.istore_n 3, 1) := by decide +kernel
theorem dJ2_indexOf_4cfef_15 : decode cJ2_indexOf_4cfef 15 = .ok (.iload_n 2, 1) := by decide +kernel
theorem dJ2_indexOf_4cfef_16 : decode cJ2_indexOf_4cfef 16 = .ok (.iload_n 3, 1) := by decide +kernel
theorem dJ2_indexOf_4cfef_17 : decode cJ2_indexOf_4cfef 17 = .ok (.if_icmp .lt 5, 3) := by decide +kernel
theorem dJ2_indexOf_4cfef_20 : decode cJ2_indexOf_4cfef 20 = .ok (.iconst (-1), 1) := by decide +kernel
theorem dJ2_indexOf_4cfef_21 : decode cJ2_indexOf_4cfef 21 = .ok (.ireturn, 1) := by decide +kernel
theorem dJ2_indexOf_4cfef_22 : decode cJ2_indexOf_4cfef 22 = .ok (.iload_n 1, 1) := by decide +kernel
theorem dJ2_indexOf_4cfef_23 : decode cJ2_indexOf_4cfef 23 = .ok (.ldc 227, 2) := by decide +kernel
theorem dJ2_indexOf_4cfef_25 : decode cJ2_indexOf_4cfef 25 = .ok (.if_icmp .ge 11, 3) := by decide +kernel
theorem dJ2_indexOf_4cfef_28 : decode cJ2_indexOf_4cfef 28 = .ok (.aload_n 0, 1) := by decide +kernel
theorem dJ2_indexOf_4cfef_29 : decode cJ2_indexOf_4cfef 29 = .ok (.iload_n 1, 1) := by decide +kernel
theorem dJ2_indexOf_4cfef_30 : decode cJ2_indexOf_4cfef 30 = .ok (.iload_n 2, 1) := by decide +kernel
theorem dJ2_indexOf_4cfef_31 : decode cJ2_indexOf_4cfef 31 = .ok (.iload_n 3, 1) := by decide +kernel
theorem dJ2_indexOf_4cfef_32 : decode cJ2_indexOf_4cfef 32 = .ok (.invokestatic 228, 3) := by decide +kernel
theorem dJ2_indexOf_4cfef_35 : decode cJ2_indexOf_4cfef 35 = .ok (.ireturn, 1) := by decide +kernel
theorem dJ2_indexOf_4cfef_36 : decode cJ2_indexOf_4cfef 36 = .ok (.aload_n 0, 1) := by decide +kernel
theorem dJ2_indexOf_4cfef_37 : decode cJ2_indexOf_4cfef 37 = .ok (.iload_n 1, 1) := by decide +kernel
theorem dJ2_indexOf_4cfef_38 : decode cJ2_indexOf_4cfef 38 = .ok (.iload_n 2, 1) := by decide +kernel
theorem dJ2_indexOf_4cfef_39 : decode cJ2_indexOf_4cfef 39 = .ok (.iload_n 3, 1) := by decide +kernel
theorem dJ2_indexOf_4cfef_40 : decode cJ2_indexOf_4cfef 40 = .ok (.invokestatic 232, 3) := by decide +kernel
theorem dJ2_indexOf_4cfef_43 : decode cJ2_indexOf_4cfef 43 = .ok (.ireturn, 1) := by decide +kernel
theorem dJ2_indexOfChar_4cfef_0 : decode cJ2_indexOfChar_4cfef 0 = .ok (.iload_n 2, 1) := by decide +kernel
theorem dJ2_indexOfChar_4cfef_1 : decode cJ2_indexOfChar_4cfef 1 = .ok (.iload_n 3, 1) := by decide +kernel
theorem dJ2_indexOfChar_4cfef_2 : decode cJ2_indexOfChar_4cfef 2 = .ok (.aload_n 0, 1) := by decide +kernel
theorem dJ2_indexOfChar_4cfef_3 : decode cJ2_indexOfChar_4cfef 3 = .ok (.invokestatic 96, 3) := by decide +kernel
theorem dJ2_indexOfChar_4cfef_6 : decode cJ2_indexOfChar_4cfef 6 = .ok (.aload_n 0, 1) := by decide +kernel
theorem dJ2_indexOfChar_4cfef_7 : decode cJ2_indexOfChar_4cfef 7 = .ok (.iload_n 1, 1) := by decide +kernel
theorem dJ2_indexOfChar_4cfef_8 : decode cJ2_indexOfChar_4cfef 8 = .ok (.iload_n 2, 1) := by decide +kernel
theorem dJ2_indexOfChar_4cfef_9 : decode cJ2_indexOfChar_4cfef 9 = .ok (.iload_n 3, 1) := by decide +kernel
theorem dJ2_indexOfChar_4cfef_10 : decode cJ2_indexOfChar_4cfef 10 = .ok (.invokestatic 244, 3) := by decide +kernel
theorem dJ2_indexOfChar_4cfef_13 : decode cJ2_indexOfChar_4cfef 13 = .ok (.ireturn, 1) := by decide +kernel
theorem dJ2_indexOfCharUnsafe_4cfef_0 : decode cJ2_indexOfCharUnsafe_4cfef 0 = .ok (.iload_n 2, 1) := by decide +kernel
theorem dJ2_indexOfCharUnsafe_4cfef_1 : decode cJ2_indexOfCharUnsafe_4cfef 1 = .ok (.istore 4, 2) := by decide +kernel
theorem dJ2_indexOfCharUnsafe_4cfef_3 : decode cJ2_indexOfCharUnsafe_4cfef 3 = .ok (.iload 4, 2) := by decide +kernel
theorem dJ2_indexOfCharUnsafe_4cfef_5 : decode cJ2_indexOfCharUnsafe_4cfef 5 = .ok (.iload_n 3, 1) := by decide +kernel
theorem dJ2_indexOfCharUnsafe_4cfef_6 : decode cJ2_indexOfCharUnsafe_4cfef 6 = .ok (.if_icmp .ge 22, 3) := by decide +kernel
theorem dJ2_indexOfCharUnsafe_4cfef_9 : decode cJ2_indexOfCharUnsafe_4cfef 9 = .ok (.aload_n 0, 1) := by decide +kernel
theorem dJ2_indexOfCharUnsafe_4cfef_10 : decode cJ2_indexOfCharUnsafe_4cfef 10 = .ok (.iload 4, 2) := by decide +kernel
theorem dJ2_indexOfCharUnsafe_4cfef_12 : decode cJ2_indexOfCharUnsafe_4cfef 12 = .ok (.invokestatic 71, 3) := by decide +kernel
theorem dJ2_indexOfCharUnsafe_4cfef_15 : decode cJ2_indexOfCharUnsafe_4cfef 15 = .ok (.iload_n 1, 1) := by decide +kernel
theorem dJ2_indexOfCharUnsafe_4cfef_16 : decode cJ2_indexOfCharUnsafe_4cfef 16 = .ok (.if_icmp .ne 6, 3) := by decide +kernel
theorem dJ2_indexOfCharUnsafe_4cfef_19 : decode cJ2_indexOfCharUnsafe_4cfef 19 = .ok (.iload 4, 2) := by decide +kernel
theorem dJ2_indexOfCharUnsafe_4cfef_21 : decode cJ2_indexOfCharUnsafe_4cfef 21 = .ok (.ireturn, 1) := by decide +kernel
theorem dJ2_indexOfCharUnsafe_4cfef_22 : decode cJ2_indexOfCharUnsafe_4cfef 22 = .ok (.iinc 4 1, 3) := by decide +kernel
theorem dJ2_indexOfCharUnsafe_4cfef_25 : decode cJ2_indexOfCharUnsafe_4cfef 25 = .ok (.goto (-22), 3) := by decide +kernel
theorem dJ2_indexOfCharUnsafe_4cfef_28 : decode cJ2_indexOfCharUnsafe_4cfef 28 = .ok (.iconst (-1), 1) := by decide +kernel
theorem dJ2_indexOfCharUnsafe_4cfef_29 : decode cJ2_indexOfCharUnsafe_4cfef 29 = .ok (.ireturn, 1) := by decide +kernel
theorem dJ2_indexOfSupplementary_4cfef_0 : decode cJ2_indexOfSupplementary_4cfef 0 = .ok (.iload_n 1, 1) := by decide +kernel
theorem dJ2_indexOfSupplementary_4cfef_1 : decode cJ2_indexOfSupplementary_4cfef 1 = .ok (.invokestatic 164, 3) := by decide +kernel
theorem dJ2_indexOfSupplementary_4cfef_4 : decode cJ2_indexOfSupplementary_4cfef 4 = .ok (.ifCond .eq 65, 3) := by decide +kernel
theorem dJ2_indexOfSupplementary_4cfef_7 : decode cJ2_indexOfSupplementary_4cfef 7 = .ok (.iload_n 1, 1) := by decide +kernel
theorem dJ2_indexOfSupplementary_4cfef_8 : decode cJ2_indexOfSupplementary_4cfef 8 = .ok (.invokestatic 157, 3) := by decide +kernel
theorem dJ2_indexOfSupplementary_4cfef_11 : decode cJ2_indexOfSupplementary_4cfef 11 = .ok (.istore 4, 2) := by decide +kernel
theorem dJ2_indexOfSupplementary_4cfef_13 : decode cJ2_indexOfSupplementary_4cfef 13 = .ok (.iload_n 1, 1) := by decide +kernel
theorem dJ2_indexOfSupplementary_4cfef_14 : decode cJ2_indexOfSupplementary_4cfef 14 = .ok (.invokestatic 161, 3) := by decide +kernel
theorem dJ2_indexOfSupplementary_4cfef_17 : decode cJ2_indexOfSupplementary_4cfef 17 = .ok (.istore 5, 2) := by decide +kernel
theorem dJ2_indexOfSupplementary_4cfef_19 : decode cJ2_indexOfSupplementary_4cfef 19 = .ok (.iload_n 2, 1) := by decide +kernel
theorem dJ2_indexOfSupplementary_4cfef_20 : decode cJ2_indexOfSupplementary_4cfef 20 = .ok (.iload_n 3, 1) := by decide +kernel
theorem dJ2_indexOfSupplementary_4cfef_21 : decode cJ2_indexOfSupplementary_4cfef 21 = .ok (.aload_n 0, 1) := by decide +kernel
theorem dJ2_indexOfSupplementary_4cfef_22 : decode cJ2_indexOfSupplementary_4cfef 22 = .ok (.invokestatic 96, 3) := by decide +kernel
theorem dJ2_indexOfSupplementary_4cfef_25 : decode cJ2_indexOfSupplementary_4cfef 25 = .ok (.iload_n 2, 1) := by decide +kernel
theorem dJ2_indexOfSupplementary_4cfef_26 : decode cJ2_indexOfSupplementary_4cfef 26 = .ok (.istore 6, 2) := by decide +kernel
theorem dJ2_indexOfSupplementary_4cfef_28 : decode cJ2_indexOfSupplementary_4cfef 28 = .ok (.iload 6, 2) := by decide +kernel
theorem dJ2_indexOfSupplementary_4cfef_30 : decode cJ2_indexOfSupplementary_4cfef 30 = .ok (.iload_n 3, 1) := by decide +kernel
theorem dJ2_indexOfSupplementary_4cfef_31 : decode cJ2_indexOfSupplementary_4cfef 31 = .ok (.iconst 1, 1) := by decide +kernel
theorem dJ2_indexOfSupplementary_4cfef_32 : decode cJ2_indexOfSupplementary_4cfef 32 = .ok (.isub, 1) := by decide +kernel
theorem dJ2_indexOfSupplementary_4cfef_33 : decode cJ2_indexOfSupplementary_4cfef 33 = .ok (.if_icmp .ge 36, 3) := by decide +kernel
theorem dJ2_indexOfSupplementary_4cfef_36 : decode cJ2_indexOfSupplementary_4cfef 36 = .ok (.aload_n 0, 1) := by decide +kernel
theorem dJ2_indexOfSupplementary_4cfef_37 : decode cJ2_indexOfSupplementary_4cfef 37 = .ok (.iload 6, 2) := by decide +kernel
theorem dJ2_indexOfSupplementary_4cfef_39 : decode cJ2_indexOfSupplementary_4cfef 39 = .ok (.invokestatic 71, 3) := by decide +kernel
theorem dJ2_indexOfSupplementary_4cfef_42 : decode cJ2_indexOfSupplementary_4cfef 42 = .ok (.iload 4, 2) := by decide +kernel
theorem dJ2_indexOfSupplementary_4cfef_44 : decode cJ2_indexOfSupplementary_4cfef 44 = .ok (.if_icmp .ne 19, 3) := by decide +kernel
theorem dJ2_indexOfSupplementary_4cfef_47 : decode cJ2_indexOfSupplementary_4cfef 47 = .ok (.aload_n 0, 1) := by decide +kernel
theorem dJ2_indexOfSupplementary_4cfef_48 : decode cJ2_indexOfSupplementary_4cfef 48 = .ok (.iload 6, 2) := by decide +kernel
theorem dJ2_indexOfSupplementary_4cfef_50 : decode cJ2_indexOfSupplementary_4cfef 50 = .ok (.iconst 1, 1) := by decide +kernel
theorem dJ2_indexOfSupplementary_4cfef_51 : decode cJ2_indexOfSupplementary_4cfef 51 = .ok (.iadd, 1) := by decide +kernel
theorem dJ2_indexOfSupplementary_4cfef_52 : decode cJ2_indexOfSupplementary_4cfef 52 = .ok (.invokestatic 71, 3) := by decide +kernel
theorem dJ2_indexOfSupplementary_4cfef_55 : decode cJ2_indexOfSupplementary_4cfef 55 = .ok (.iload 5, 2) := by decide +kernel
theorem dJ2_indexOfSupplementary_4cfef_57 : decode cJ2_indexOfSupplementary_4cfef 57 = .ok (.if_icmp .ne 6, 3) := by decide +kernel
theorem dJ2_indexOfSupplementary_4cfef_60 : decode cJ2_indexOfSupplementary_4cfef 60 = .ok (.iload 6, 2) := by decide +kernel
theorem dJ2_indexOfSupplementary_4cfef_62 : decode cJ2_indexOfSupplementary_4cfef 62 = .ok (.ireturn, 1) := by decide +kernel
theorem dJ2_indexOfSupplementary_4cfef_63 : decode cJ2_indexOfSupplementary_4cfef 63 = .ok (.iinc 6 1, 3) := by decide +kernel
theorem dJ2_indexOfSupplementary_4cfef_66 : decode cJ2_indexOfSupplementary_4cfef 66 = .ok (.goto (-38), 3) := by decide +kernel
theorem dJ2_indexOfSupplementary_4cfef_69 : decode cJ2_indexOfSupplementary_4cfef 69 = .ok (.iconst (-1), 1) := by decide +kernel
theorem dJ2_indexOfSupplementary_4cfef_70 : decode cJ2_indexOfSupplementary_4cfef 70 = .ok (.ireturn, 1) := by decide +kernel
theorem dJ2_checkBoundsBeginEnd_d044e_0 : decode cJ2_checkBoundsBeginEnd_d044e 0 = .ok (.iload_n 0, 1) := by decide +kernel
theorem dJ2_checkBoundsBeginEnd_d044e_1 : decode cJ2_checkBoundsBeginEnd_d044e 1 = .ok (.iload_n 1, 1) := by decide +kernel
theorem dJ2_checkBoundsBeginEnd_d044e_2 : decode cJ2_checkBoundsBeginEnd_d044e 2 = .ok (.aload_n 2, 1) := by decide +kernel
theorem dJ2_checkBoundsBeginEnd_d044e_3 : decode cJ2_checkBoundsBeginEnd_d044e 3 = .ok (.invokestatic 48, 3) := by decide +kernel
theorem dJ2_checkBoundsBeginEnd_d044e_6 : decode cJ2_checkBoundsBeginEnd_d044e 6 = .ok (.invokestatic 241, 3) := by decide +kernel
theorem dJ2_checkBoundsBeginEnd_d044e_9 : decode cJ2_checkBoundsBeginEnd_d044e 9 = .ok (.return_, 1) := by decide +kernel
theorem dJ3_checkFromToIndex_8c36e_0 : decode cJ3_checkFromToIndex_8c36e 0 = .ok (.iload_n 0, 1) := by decide +kernel
theorem dJ3_checkFromToIndex_8c36e_1 : decode cJ3_checkFromToIndex_8c36e 1 = .ok (.ifCond .lt 13, 3) := by decide +kernel
theorem dJ3_checkFromToIndex_8c36e_4 : decode cJ3_checkFromToIndex_8c36e 4 = .ok (.iload_n 0, 1) := by decide +kernel
theorem dJ3_checkFromToIndex_8c36e_5 : decode cJ3_checkFromToIndex_8c36e 5 = .ok (.iload_n 1, 1) := by decide +kernel
theorem dJ3_checkFromToIndex_8c36e_6 : decode cJ3_checkFromToIndex_8c36e 6 = .ok (.if_icmp .gt 8, 3) := by decide +kernel
theorem dJ3_checkFromToIndex_8c36e_9 : decode cJ3_checkFromToIndex_8c36e 9 = .ok (.iload_n 1, 1) := by decide +kernel
theorem dJ3_checkFromToIndex_8c36e_10 : decode cJ3_checkFromToIndex_8c36e 10 = .ok (.iload_n 2, 1) := by decide +kernel
theorem dJ3_checkFromToIndex_8c36e_11 : decode cJ3_checkFromToIndex_8c36e 11 = .ok (.if_icmp .le 11, 3) := by decide +kernel
theorem dJ3_checkFromToIndex_8c36e_14 : decode cJ3_checkFromToIndex_8c36e 14 = .ok (.aload_n 3, 1) := by decide +kernel
theorem dJ3_checkFromToIndex_8c36e_15 : decode cJ3_checkFromToIndex_8c36e 15 = .ok (.iload_n 0, 1) := by decide +kernel
theorem dJ3_checkFromToIndex_8c36e_16 : decode cJ3_checkFromToIndex_8c36e 16 = .ok (.iload_n 1, 1) := by decide +kernel
theorem dJ3_checkFromToIndex_8c36e_17 : decode cJ3_checkFromToIndex_8c36e 17 = .ok (.iload_n 2, 1) := by decide +kernel
theorem dJ3_checkFromToIndex_8c36e_18 : decode cJ3_checkFromToIndex_8c36e 18 = .ok (.invokestatic 99, 3) := by decide +kernel
theorem dJ3_checkFromToIndex_8c36e_21 : decode cJ3_checkFromToIndex_8c36e 21 = .ok (.athrow, 1) := by decide +kernel
theorem dJ3_checkFromToIndex_8c36e_22 : decode cJ3_checkFromToIndex_8c36e 22 = .ok (.iload_n 0, 1) := by decide +kernel
theorem dJ3_checkFromToIndex_8c36e_23 : decode cJ3_checkFromToIndex_8c36e 23 = .ok (.ireturn, 1) := by decide +kernel
theorem dL_cell_0 : decode cL_cell 0 = .ok (.iload_n 1, 1) := by decide +kernel
theorem dL_cell_1 : decode cL_cell 1 = .ok (.aload_n 0, 1) := by decide +kernel
theorem dL_cell_2 : decode cL_cell 2 = .ok (.arraylength, 1) := by decide +kernel
theorem dL_cell_3 : decode cL_cell 3 = .ok (.if_icmp .ge 9, 3) := by decide +kernel
theorem dL_cell_6 : decode cL_cell 6 = .ok (.aload_n 0, 1) := by decide +kernel
theorem dL_cell_7 : decode cL_cell 7 = .ok (.iload_n 1, 1) := by decide +kernel
theorem dL_cell_8 : decode cL_cell 8 = .ok (.iaload, 1) := by decide +kernel
theorem dL_cell_9 : decode cL_cell 9 = .ok (.goto 11, 3) := by decide +kernel
theorem dL_cell_12 : decode cL_cell 12 = .ok (.ldc 7, 2) := by decide +kernel
theorem dL_cell_14 : decode cL_cell 14 = .ok (.iload_n 1, 1) := by decide +kernel
theorem dL_cell_15 : decode cL_cell 15 = .ok (.imul, 1) := by decide +kernel
theorem dL_cell_16 : decode cL_cell 16 = .ok (.sipush 977, 3) := by decide +kernel
theorem dL_cell_19 : decode cL_cell 19 = .ok (.iadd, 1) := by decide +kernel
theorem dL_cell_20 : decode cL_cell 20 = .ok (.ireturn, 1) := by decide +kernel
theorem dL_low_0 : decode cL_low 0 = .ok (.iload_n 0, 1) := by decide +kernel
theorem dL_low_1 : decode cL_low 1 = .ok (.ldc 8, 2) := by decide +kernel
theorem dL_low_3 : decode cL_low 3 = .ok (.iand, 1) := by decide +kernel
theorem dL_low_4 : decode cL_low 4 = .ok (.iload_n 1, 1) := by decide +kernel
theorem dL_low_5 : decode cL_low 5 = .ok (.irem, 1) := by decide +kernel
theorem dL_low_6 : decode cL_low 6 = .ok (.ireturn, 1) := by decide +kernel
theorem dL_squares_0 : decode cL_squares 0 = .ok (.iload_n 0, 1) := by decide +kernel
theorem dL_squares_1 : decode cL_squares 1 = .ok (.ifCond .ne 7, 3) := by decide +kernel
theorem dL_squares_4 : decode cL_squares 4 = .ok (.iconst 5, 1) := by decide +kernel
theorem dL_squares_5 : decode cL_squares 5 = .ok (.goto 30, 3) := by decide +kernel
theorem dL_squares_8 : decode cL_squares 8 = .ok (.iload_n 0, 1) := by decide +kernel
theorem dL_squares_9 : decode cL_squares 9 = .ok (.iconst 1, 1) := by decide +kernel
theorem dL_squares_10 : decode cL_squares 10 = .ok (.if_icmp .eq 8, 3) := by decide +kernel
theorem dL_squares_13 : decode cL_squares 13 = .ok (.iload_n 0, 1) := by decide +kernel
theorem dL_squares_14 : decode cL_squares 14 = .ok (.iconst 3, 1) := by decide +kernel
theorem dL_squares_15 : decode cL_squares 15 = .ok (.if_icmp .ne 8, 3) := by decide +kernel
theorem dL_squares_18 : decode cL_squares 18 = .ok (.bipush 7, 2) := by decide +kernel
theorem dL_squares_20 : decode cL_squares 20 = .ok (.goto 15, 3) := by decide +kernel
theorem dL_squares_23 : decode cL_squares 23 = .ok (.iload_n 0, 1) := by decide +kernel
theorem dL_squares_24 : decode cL_squares 24 = .ok (.iconst 2, 1) := by decide +kernel
theorem dL_squares_25 : decode cL_squares 25 = .ok (.if_icmp .ne 8, 3) := by decide +kernel
theorem dL_squares_28 : decode cL_squares 28 = .ok (.bipush 12, 2) := by decide +kernel
theorem dL_squares_30 : decode cL_squares 30 = .ok (.goto 5, 3) := by decide +kernel
theorem dL_squares_33 : decode cL_squares 33 = .ok (.bipush 11, 2) := by decide +kernel
theorem dL_squares_35 : decode cL_squares 35 = .ok (.ireturn, 1) := by decide +kernel
theorem dL_sign_0 : decode cL_sign 0 = .ok (.ldc2_w 9, 3) := by decide +kernel
theorem dL_sign_3 : decode cL_sign 3 = .ok (.bipush 56, 2) := by decide +kernel
theorem dL_sign_5 : decode cL_sign 5 = .ok (.bipush 8, 2) := by decide +kernel
theorem dL_sign_7 : decode cL_sign 7 = .ok (.iload_n 0, 1) := by decide +kernel
theorem dL_sign_8 : decode cL_sign 8 = .ok (.imul, 1) := by decide +kernel
theorem dL_sign_9 : decode cL_sign 9 = .ok (.isub, 1) := by decide +kernel
theorem dL_sign_10 : decode cL_sign 10 = .ok (.lshr, 1) := by decide +kernel
theorem dL_sign_11 : decode cL_sign 11 = .ok (.ldc2_w 11, 3) := by decide +kernel
theorem dL_sign_14 : decode cL_sign 14 = .ok (.land, 1) := by decide +kernel
theorem dL_sign_15 : decode cL_sign 15 = .ok (.l2i, 1) := by decide +kernel
theorem dL_sign_16 : decode cL_sign 16 = .ok (.ireturn, 1) := by decide +kernel
theorem dL_change_0 : decode cL_change 0 = .ok (.iload_n 2, 1) := by decide +kernel
theorem dL_change_1 : decode cL_change 1 = .ok (.aload_n 0, 1) := by decide +kernel
theorem dL_change_2 : decode cL_change 2 = .ok (.iconst 1, 1) := by decide +kernel
theorem dL_change_3 : decode cL_change 3 = .ok (.invokevirtual 13, 3) := by decide +kernel
theorem dL_change_6 : decode cL_change 6 = .ok (.iconst 1, 1) := by decide +kernel
theorem dL_change_7 : decode cL_change 7 = .ok (.iadd, 1) := by decide +kernel
theorem dL_change_8 : decode cL_change 8 = .ok (.invokestatic 19, 3) := by decide +kernel
theorem dL_change_11 : decode cL_change 11 = .ok (.istore 4, 2) := by decide +kernel
theorem dL_change_13 : decode cL_change 13 = .ok (.iload_n 2, 1) := by decide +kernel
theorem dL_change_14 : decode cL_change 14 = .ok (.aload_n 0, 1) := by decide +kernel
theorem dL_change_15 : decode cL_change 15 = .ok (.iconst 0, 1) := by decide +kernel
theorem dL_change_16 : decode cL_change 16 = .ok (.invokevirtual 13, 3) := by decide +kernel
theorem dL_change_19 : decode cL_change 19 = .ok (.iconst 1, 1) := by decide +kernel
theorem dL_change_20 : decode cL_change 20 = .ok (.iadd, 1) := by decide +kernel
theorem dL_change_21 : decode cL_change 21 = .ok (.invokestatic 19, 3) := by decide +kernel
theorem dL_change_24 : decode cL_change 24 = .ok (.istore 5, 2) := by decide +kernel
theorem dL_change_26 : decode cL_change 26 = .ok (.iload_n 1, 1) := by decide +kernel
theorem dL_change_27 : decode cL_change 27 = .ok (.tableswitch 279 0 14 #[73, 73, 87, 87, 87, 128, 128, 128, 153, 153, 153, 242, 242, 262, 272], 73) := by decide +kernel
theorem dL_change_100 : decode cL_change 100 = .ok (.aload_n 0, 1) := by decide +kernel
theorem dL_change_101 : decode cL_change 101 = .ok (.iload_n 2, 1) := by decide +kernel
theorem dL_change_102 : decode cL_change 102 = .ok (.iconst 3, 1) := by decide +kernel
theorem dL_change_103 : decode cL_change 103 = .ok (.invokestatic 19, 3) := by decide +kernel
theorem dL_change_106 : decode cL_change 106 = .ok (.iload_n 3, 1) := by decide +kernel
theorem dL_change_107 : decode cL_change 107 = .ok (.iconst 1, 1) := by decide +kernel
theorem dL_change_108 : decode cL_change 108 = .ok (.iand, 1) := by decide +kernel
theorem dL_change_109 : decode cL_change 109 = .ok (.iadd, 1) := by decide +kernel
theorem dL_change_110 : decode cL_change 110 = .ok (.invokevirtual 25, 3) := by decide +kernel
theorem dL_change_113 : decode cL_change 113 = .ok (.ireturn, 1) := by decide +kernel
theorem dL_change_114 : decode cL_change 114 = .ok (.aload_n 0, 1) := by decide +kernel
theorem dL_change_115 : decode cL_change 115 = .ok (.iload 5, 2) := by decide +kernel
theorem dL_change_117 : decode cL_change 117 = .ok (.iload_n 3, 1) := by decide +kernel
theorem dL_change_118 : decode cL_change 118 = .ok (.bipush 9, 2) := by decide +kernel
theorem dL_change_120 : decode cL_change 120 = .ok (.invokestatic 19, 3) := by decide +kernel
theorem dL_change_123 : decode cL_change 123 = .ok (.iload_n 3, 1) := by decide +kernel
theorem dL_change_124 : decode cL_change 124 = .ok (.iconst 4, 1) := by decide +kernel
theorem dL_change_125 : decode cL_change 125 = .ok (.ishr, 1) := by decide +kernel
theorem dL_change_126 : decode cL_change 126 = .ok (.bipush 8, 2) := by decide +kernel
theorem dL_change_128 : decode cL_change 128 = .ok (.invokestatic 19, 3) := by decide +kernel
theorem dL_change_131 : decode cL_change 131 = .ok (.iload_n 3, 1) := by decide +kernel
theorem dL_change_132 : decode cL_change 132 = .ok (.bipush 7, 2) := by decide +kernel
theorem dL_change_134 : decode cL_change 134 = .ok (.ishr, 1) := by decide +kernel
theorem dL_change_135 : decode cL_change 135 = .ok (.bipush 8, 2) := by decide +kernel
theorem dL_change_137 : decode cL_change 137 = .ok (.invokestatic 19, 3) := by decide +kernel
theorem dL_change_140 : decode cL_change 140 = .ok (.iconst 1, 1) := by decide +kernel
theorem dL_change_141 : decode cL_change 141 = .ok (.isub, 1) := by decide +kernel
theorem dL_change_142 : decode cL_change 142 = .ok (.iload_n 3, 1) := by decide +kernel
theorem dL_change_143 : decode cL_change 143 = .ok (.bipush 10, 2) := by decide +kernel
theorem dL_change_145 : decode cL_change 145 = .ok (.ishr, 1) := by decide +kernel
theorem dL_change_146 : decode cL_change 146 = .ok (.bipush 12, 2) := by decide +kernel
theorem dL_change_148 : decode cL_change 148 = .ok (.invokestatic 19, 3) := by decide +kernel
theorem dL_change_151 : decode cL_change 151 = .ok (.invokevirtual 28, 3) := by decide +kernel
theorem dL_change_154 : decode cL_change 154 = .ok (.ireturn, 1) := by decide +kernel
theorem dL_change_155 : decode cL_change 155 = .ok (.aload_n 0, 1) := by decide +kernel
theorem dL_change_156 : decode cL_change 156 = .ok (.iconst 1, 1) := by decide +kernel
theorem dL_change_157 : decode cL_change 157 = .ok (.iload_n 2, 1) := by decide +kernel
theorem dL_change_158 : decode cL_change 158 = .ok (.iconst 3, 1) := by decide +kernel
theorem dL_change_159 : decode cL_change 159 = .ok (.invokestatic 19, 3) := by decide +kernel
theorem dL_change_162 : decode cL_change 162 = .ok (.iadd, 1) := by decide +kernel
theorem dL_change_163 : decode cL_change 163 = .ok (.iload_n 3, 1) := by decide +kernel
theorem dL_change_164 : decode cL_change 164 = .ok (.bipush 8, 2) := by decide +kernel
theorem dL_change_166 : decode cL_change 166 = .ok (.invokestatic 19, 3) := by decide +kernel
theorem dL_change_169 : decode cL_change 169 = .ok (.iload_n 3, 1) := by decide +kernel
theorem dL_change_170 : decode cL_change 170 = .ok (.iconst 4, 1) := by decide +kernel
theorem dL_change_171 : decode cL_change 171 = .ok (.ishr, 1) := by decide +kernel
theorem dL_change_172 : decode cL_change 172 = .ok (.iconst 2, 1) := by decide +kernel
theorem dL_change_173 : decode cL_change 173 = .ok (.invokestatic 19, 3) := by decide +kernel
theorem dL_change_176 : decode cL_change 176 = .ok (.invokevirtual 32, 3) := by decide +kernel
theorem dL_change_179 : decode cL_change 179 = .ok (.ireturn, 1) := by decide +kernel
theorem dL_change_180 : decode cL_change 180 = .ok (.iconst 0, 1) := by decide +kernel
theorem dL_change_181 : decode cL_change 181 = .ok (.istore 6, 2) := by decide +kernel
theorem dL_change_183 : decode cL_change 183 = .ok (.iload 6, 2) := by decide +kernel
theorem dL_change_185 : decode cL_change 185 = .ok (.iconst 1, 1) := by decide +kernel
theorem dL_change_186 : decode cL_change 186 = .ok (.iload_n 3, 1) := by decide +kernel
theorem dL_change_187 : decode cL_change 187 = .ok (.iconst 4, 1) := by decide +kernel
theorem dL_change_188 : decode cL_change 188 = .ok (.invokestatic 19, 3) := by decide +kernel
theorem dL_change_191 : decode cL_change 191 = .ok (.iadd, 1) := by decide +kernel
theorem dL_change_192 : decode cL_change 192 = .ok (.if_icmp .ge 31, 3) := by decide +kernel
theorem dL_change_195 : decode cL_change 195 = .ok (.aload_n 0, 1) := by decide +kernel
theorem dL_change_196 : decode cL_change 196 = .ok (.iload_n 3, 1) := by decide +kernel
theorem dL_change_197 : decode cL_change 197 = .ok (.iconst 3, 1) := by decide +kernel
theorem dL_change_198 : decode cL_change 198 = .ok (.iconst 3, 1) := by decide +kernel
theorem dL_change_199 : decode cL_change 199 = .ok (.iload 6, 2) := by decide +kernel
theorem dL_change_201 : decode cL_change 201 = .ok (.imul, 1) := by decide +kernel
theorem dL_change_202 : decode cL_change 202 = .ok (.iadd, 1) := by decide +kernel
theorem dL_change_203 : decode cL_change 203 = .ok (.ishr, 1) := by decide +kernel
theorem dL_change_204 : decode cL_change 204 = .ok (.bipush 8, 2) := by decide +kernel
theorem dL_change_206 : decode cL_change 206 = .ok (.invokestatic 19, 3) := by decide +kernel
theorem dL_change_209 : decode cL_change 209 = .ok (.invokestatic 36, 3) := by decide +kernel
theorem dL_change_212 : decode cL_change 212 = .ok (.i2l, 1) := by decide +kernel
theorem dL_change_213 : decode cL_change 213 = .ok (.invokevirtual 39, 3) := by decide +kernel
theorem dL_change_216 : decode cL_change 216 = .ok (.pop, 1) := by decide +kernel
theorem dL_change_217 : decode cL_change 217 = .ok (.iinc 6 1, 3) := by decide +kernel
theorem dL_change_220 : decode cL_change 220 = .ok (.goto (-37), 3) := by decide +kernel
theorem dL_change_223 : decode cL_change 223 = .ok (.aload_n 0, 1) := by decide +kernel
theorem dL_change_224 : decode cL_change 224 = .ok (.iload_n 2, 1) := by decide +kernel
theorem dL_change_225 : decode cL_change 225 = .ok (.iconst 4, 1) := by decide +kernel
theorem dL_change_226 : decode cL_change 226 = .ok (.invokestatic 19, 3) := by decide +kernel
theorem dL_change_229 : decode cL_change 229 = .ok (.iload_n 2, 1) := by decide +kernel
theorem dL_change_230 : decode cL_change 230 = .ok (.iconst 2, 1) := by decide +kernel
theorem dL_change_231 : decode cL_change 231 = .ok (.ishr, 1) := by decide +kernel
theorem dL_change_232 : decode cL_change 232 = .ok (.bipush 12, 2) := by decide +kernel
theorem dL_change_234 : decode cL_change 234 = .ok (.invokestatic 19, 3) := by decide +kernel
theorem dL_change_237 : decode cL_change 237 = .ok (.iconst 1, 1) := by decide +kernel
theorem dL_change_238 : decode cL_change 238 = .ok (.iload_n 2, 1) := by decide +kernel
theorem dL_change_239 : decode cL_change 239 = .ok (.bipush 6, 2) := by decide +kernel
theorem dL_change_241 : decode cL_change 241 = .ok (.ishr, 1) := by decide +kernel
theorem dL_change_242 : decode cL_change 242 = .ok (.iconst 3, 1) := by decide +kernel
theorem dL_change_243 : decode cL_change 243 = .ok (.invokestatic 19, 3) := by decide +kernel
theorem dL_change_246 : decode cL_change 246 = .ok (.iadd, 1) := by decide +kernel
theorem dL_change_247 : decode cL_change 247 = .ok (.iload_n 2, 1) := by decide +kernel
theorem dL_change_248 : decode cL_change 248 = .ok (.bipush 8, 2) := by decide +kernel
theorem dL_change_250 : decode cL_change 250 = .ok (.ishr, 1) := by decide +kernel
theorem dL_change_251 : decode cL_change 251 = .ok (.iconst 2, 1) := by decide +kernel
theorem dL_change_252 : decode cL_change 252 = .ok (.invokestatic 19, 3) := by decide +kernel
theorem dL_change_255 : decode cL_change 255 = .ok (.invokevirtual 43, 3) := by decide +kernel
theorem dL_change_258 : decode cL_change 258 = .ok (.istore 6, 2) := by decide +kernel
theorem dL_change_260 : decode cL_change 260 = .ok (.aload_n 0, 1) := by decide +kernel
theorem dL_change_261 : decode cL_change 261 = .ok (.invokevirtual 47, 3) := by decide +kernel
theorem dL_change_264 : decode cL_change 264 = .ok (.istore 7, 2) := by decide +kernel
theorem dL_change_266 : decode cL_change 266 = .ok (.iload 6, 2) := by decide +kernel
theorem dL_change_268 : decode cL_change 268 = .ok (.ireturn, 1) := by decide +kernel
theorem dL_change_269 : decode cL_change 269 = .ok (.aload_n 0, 1) := by decide +kernel
theorem dL_change_270 : decode cL_change 270 = .ok (.iload 4, 2) := by decide +kernel
theorem dL_change_272 : decode cL_change 272 = .ok (.iload_n 3, 1) := by decide +kernel
theorem dL_change_273 : decode cL_change 273 = .ok (.iconst 3, 1) := by decide +kernel
theorem dL_change_274 : decode cL_change 274 = .ok (.invokestatic 19, 3) := by decide +kernel
theorem dL_change_277 : decode cL_change 277 = .ok (.iload_n 3, 1) := by decide +kernel
theorem dL_change_278 : decode cL_change 278 = .ok (.iconst 2, 1) := by decide +kernel
theorem dL_change_279 : decode cL_change 279 = .ok (.ishr, 1) := by decide +kernel
theorem dL_change_280 : decode cL_change 280 = .ok (.bipush 13, 2) := by decide +kernel
theorem dL_change_282 : decode cL_change 282 = .ok (.invokestatic 19, 3) := by decide +kernel
theorem dL_change_285 : decode cL_change 285 = .ok (.invokevirtual 51, 3) := by decide +kernel
theorem dL_change_288 : decode cL_change 288 = .ok (.ireturn, 1) := by decide +kernel
theorem dL_change_289 : decode cL_change 289 = .ok (.aload_n 0, 1) := by decide +kernel
theorem dL_change_290 : decode cL_change 290 = .ok (.iload_n 2, 1) := by decide +kernel
theorem dL_change_291 : decode cL_change 291 = .ok (.iconst 4, 1) := by decide +kernel
theorem dL_change_292 : decode cL_change 292 = .ok (.invokestatic 19, 3) := by decide +kernel
theorem dL_change_295 : decode cL_change 295 = .ok (.invokevirtual 54, 3) := by decide +kernel
theorem dL_change_298 : decode cL_change 298 = .ok (.ireturn, 1) := by decide +kernel
theorem dL_change_299 : decode cL_change 299 = .ok (.aload_n 0, 1) := by decide +kernel
theorem dL_change_300 : decode cL_change 300 = .ok (.iload 4, 2) := by decide +kernel
theorem dL_change_302 : decode cL_change 302 = .ok (.invokevirtual 57, 3) := by decide +kernel
theorem dL_change_305 : decode cL_change 305 = .ok (.ireturn, 1) := by decide +kernel
theorem dL_change_306 : decode cL_change 306 = .ok (.iload_n 3, 1) := by decide +kernel
theorem dL_change_307 : decode cL_change 307 = .ok (.iconst 3, 1) := by decide +kernel
theorem dL_change_308 : decode cL_change 308 = .ok (.iand, 1) := by decide +kernel
theorem dL_change_309 : decode cL_change 309 = .ok (.ifCond .ne 12, 3) := by decide +kernel
theorem dL_change_312 : decode cL_change 312 = .ok (.aload_n 0, 1) := by decide +kernel
theorem dL_change_313 : decode cL_change 313 = .ok (.iload 5, 2) := by decide +kernel
theorem dL_change_315 : decode cL_change 315 = .ok (.invokevirtual 60, 3) := by decide +kernel
theorem dL_change_318 : decode cL_change 318 = .ok (.goto 4, 3) := by decide +kernel
theorem dL_change_321 : decode cL_change 321 = .ok (.iconst (-1), 1) := by decide +kernel
theorem dL_change_322 : decode cL_change 322 = .ok (.ireturn, 1) := by decide +kernel
theorem dL_can_0 : decode cL_can 0 = .ok (.iload_n 3, 1) := by decide +kernel
theorem dL_can_1 : decode cL_can 1 = .ok (.iconst 2, 1) := by decide +kernel
theorem dL_can_2 : decode cL_can 2 = .ok (.irem, 1) := by decide +kernel
theorem dL_can_3 : decode cL_can 3 = .ok (.ifCond .ne 7, 3) := by decide +kernel
theorem dL_can_6 : decode cL_can 6 = .ok (.iconst 5, 1) := by decide +kernel
theorem dL_can_7 : decode cL_can 7 = .ok (.goto 4, 3) := by decide +kernel
theorem dL_can_10 : decode cL_can 10 = .ok (.iconst 3, 1) := by decide +kernel
theorem dL_can_11 : decode cL_can 11 = .ok (.istore 6, 2) := by decide +kernel
theorem dL_can_13 : decode cL_can 13 = .ok (.aload_n 0, 1) := by decide +kernel
theorem dL_can_14 : decode cL_can 14 = .ok (.iload_n 1, 1) := by decide +kernel
theorem dL_can_15 : decode cL_can 15 = .ok (.iconst 3, 1) := by decide +kernel
theorem dL_can_16 : decode cL_can 16 = .ok (.invokevirtual 63, 3) := by decide +kernel
theorem dL_can_19 : decode cL_can 19 = .ok (.ifCond .ne 40, 3) := by decide +kernel
theorem dL_can_22 : decode cL_can 22 = .ok (.iload 4, 2) := by decide +kernel
theorem dL_can_24 : decode cL_can 24 = .ok (.ifCond .lt 35, 3) := by decide +kernel
theorem dL_can_27 : decode cL_can 27 = .ok (.iload 5, 2) := by decide +kernel
theorem dL_can_29 : decode cL_can 29 = .ok (.ifCond .lt 30, 3) := by decide +kernel
theorem dL_can_32 : decode cL_can 32 = .ok (.iload 4, 2) := by decide +kernel
theorem dL_can_34 : decode cL_can 34 = .ok (.iload 6, 2) := by decide +kernel
theorem dL_can_36 : decode cL_can 36 = .ok (.iadd, 1) := by decide +kernel
theorem dL_can_37 : decode cL_can 37 = .ok (.bipush 9, 2) := by decide +kernel
theorem dL_can_39 : decode cL_can 39 = .ok (.if_icmp .gt 20, 3) := by decide +kernel
theorem dL_can_42 : decode cL_can 42 = .ok (.iload 5, 2) := by decide +kernel
theorem dL_can_44 : decode cL_can 44 = .ok (.bipush 8, 2) := by decide +kernel
theorem dL_can_46 : decode cL_can 46 = .ok (.iadd, 1) := by decide +kernel
theorem dL_can_47 : decode cL_can 47 = .ok (.iload 6, 2) := by decide +kernel
theorem dL_can_49 : decode cL_can 49 = .ok (.isub, 1) := by decide +kernel
theorem dL_can_50 : decode cL_can 50 = .ok (.bipush 14, 2) := by decide +kernel
theorem dL_can_52 : decode cL_can 52 = .ok (.if_icmp .gt 7, 3) := by decide +kernel
theorem dL_can_55 : decode cL_can 55 = .ok (.iconst 1, 1) := by decide +kernel
theorem dL_can_56 : decode cL_can 56 = .ok (.goto 4, 3) := by decide +kernel
theorem dL_can_59 : decode cL_can 59 = .ok (.iconst 0, 1) := by decide +kernel
theorem dL_can_60 : decode cL_can 60 = .ok (.istore 7, 2) := by decide +kernel
theorem dL_can_62 : decode cL_can 62 = .ok (.iconst 0, 1) := by decide +kernel
theorem dL_can_63 : decode cL_can 63 = .ok (.istore 8, 2) := by decide +kernel
theorem dL_can_65 : decode cL_can 65 = .ok (.iload 8, 2) := by decide +kernel
theorem dL_can_67 : decode cL_can 67 = .ok (.iload 6, 2) := by decide +kernel
theorem dL_can_69 : decode cL_can 69 = .ok (.if_icmp .ge 46, 3) := by decide +kernel
theorem dL_can_72 : decode cL_can 72 = .ok (.iload 7, 2) := by decide +kernel
theorem dL_can_74 : decode cL_can 74 = .ok (.ifCond .eq 41, 3) := by decide +kernel
theorem dL_can_77 : decode cL_can 77 = .ok (.aload_n 0, 1) := by decide +kernel
theorem dL_can_78 : decode cL_can 78 = .ok (.iload_n 1, 1) := by decide +kernel
theorem dL_can_79 : decode cL_can 79 = .ok (.iload 4, 2) := by decide +kernel
theorem dL_can_81 : decode cL_can 81 = .ok (.iload 8, 2) := by decide +kernel
theorem dL_can_83 : decode cL_can 83 = .ok (.iadd, 1) := by decide +kernel
theorem dL_can_84 : decode cL_can 84 = .ok (.invokevirtual 66, 3) := by decide +kernel
theorem dL_can_87 : decode cL_can 87 = .ok (.iload 5, 2) := by decide +kernel
theorem dL_can_89 : decode cL_can 89 = .ok (.ishr, 1) := by decide +kernel
theorem dL_can_90 : decode cL_can 90 = .ok (.aload_n 0, 1) := by decide +kernel
theorem dL_can_91 : decode cL_can 91 = .ok (.iload_n 2, 1) := by decide +kernel
theorem dL_can_92 : decode cL_can 92 = .ok (.iload_n 3, 1) := by decide +kernel
theorem dL_can_93 : decode cL_can 93 = .ok (.iload 8, 2) := by decide +kernel
theorem dL_can_95 : decode cL_can 95 = .ok (.invokevirtual 69, 3) := by decide +kernel
theorem dL_can_98 : decode cL_can 98 = .ok (.iand, 1) := by decide +kernel
theorem dL_can_99 : decode cL_can 99 = .ok (.ifCond .ne 7, 3) := by decide +kernel
theorem dL_can_102 : decode cL_can 102 = .ok (.iconst 1, 1) := by decide +kernel
theorem dL_can_103 : decode cL_can 103 = .ok (.goto 4, 3) := by decide +kernel
theorem dL_can_106 : decode cL_can 106 = .ok (.iconst 0, 1) := by decide +kernel
theorem dL_can_107 : decode cL_can 107 = .ok (.istore 7, 2) := by decide +kernel
theorem dL_can_109 : decode cL_can 109 = .ok (.iinc 8 1, 3) := by decide +kernel
theorem dL_can_112 : decode cL_can 112 = .ok (.goto (-47), 3) := by decide +kernel
theorem dL_can_115 : decode cL_can 115 = .ok (.iload 7, 2) := by decide +kernel
theorem dL_can_117 : decode cL_can 117 = .ok (.ireturn, 1) := by decide +kernel
theorem dL_isPiece_0 : decode cL_isPiece 0 = .ok (.aload_n 0, 1) := by decide +kernel
theorem dL_isPiece_1 : decode cL_isPiece 1 = .ok (.iload_n 1, 1) := by decide +kernel
theorem dL_isPiece_2 : decode cL_isPiece 2 = .ok (.iconst 0, 1) := by decide +kernel
theorem dL_isPiece_3 : decode cL_isPiece 3 = .ok (.invokevirtual 72, 3) := by decide +kernel
theorem dL_isPiece_6 : decode cL_isPiece 6 = .ok (.istore_n 3, 1) := by decide +kernel
theorem dL_isPiece_7 : decode cL_isPiece 7 = .ok (.aload_n 0, 1) := by decide +kernel
theorem dL_isPiece_8 : decode cL_isPiece 8 = .ok (.iload_n 1, 1) := by decide +kernel
theorem dL_isPiece_9 : decode cL_isPiece 9 = .ok (.bipush 7, 2) := by decide +kernel
theorem dL_isPiece_11 : decode cL_isPiece 11 = .ok (.invokevirtual 72, 3) := by decide +kernel
theorem dL_isPiece_14 : decode cL_isPiece 14 = .ok (.istore 4, 2) := by decide +kernel
theorem dL_isPiece_16 : decode cL_isPiece 16 = .ok (.aload_n 0, 1) := by decide +kernel
theorem dL_isPiece_17 : decode cL_isPiece 17 = .ok (.iload_n 1, 1) := by decide +kernel
theorem dL_isPiece_18 : decode cL_isPiece 18 = .ok (.bipush 6, 2) := by decide +kernel
theorem dL_isPiece_20 : decode cL_isPiece 20 = .ok (.invokevirtual 72, 3) := by decide +kernel
theorem dL_isPiece_23 : decode cL_isPiece 23 = .ok (.bipush 14, 2) := by decide +kernel
theorem dL_isPiece_25 : decode cL_isPiece 25 = .ok (.idiv, 1) := by decide +kernel
theorem dL_isPiece_26 : decode cL_isPiece 26 = .ok (.istore 5, 2) := by decide +kernel
theorem dL_isPiece_28 : decode cL_isPiece 28 = .ok (.aload_n 0, 1) := by decide +kernel
theorem dL_isPiece_29 : decode cL_isPiece 29 = .ok (.iload_n 1, 1) := by decide +kernel
theorem dL_isPiece_30 : decode cL_isPiece 30 = .ok (.bipush 6, 2) := by decide +kernel
theorem dL_isPiece_32 : decode cL_isPiece 32 = .ok (.invokevirtual 72, 3) := by decide +kernel
theorem dL_isPiece_35 : decode cL_isPiece 35 = .ok (.bipush 14, 2) := by decide +kernel
theorem dL_isPiece_37 : decode cL_isPiece 37 = .ok (.irem, 1) := by decide +kernel
theorem dL_isPiece_38 : decode cL_isPiece 38 = .ok (.istore 6, 2) := by decide +kernel
theorem dL_isPiece_40 : decode cL_isPiece 40 = .ok (.aload_n 0, 1) := by decide +kernel
theorem dL_isPiece_41 : decode cL_isPiece 41 = .ok (.iload_n 1, 1) := by decide +kernel
theorem dL_isPiece_42 : decode cL_isPiece 42 = .ok (.iconst 5, 1) := by decide +kernel
theorem dL_isPiece_43 : decode cL_isPiece 43 = .ok (.invokevirtual 72, 3) := by decide +kernel
theorem dL_isPiece_46 : decode cL_isPiece 46 = .ok (.istore 7, 2) := by decide +kernel
theorem dL_isPiece_48 : decode cL_isPiece 48 = .ok (.aload_n 0, 1) := by decide +kernel
theorem dL_isPiece_49 : decode cL_isPiece 49 = .ok (.iload_n 1, 1) := by decide +kernel
theorem dL_isPiece_50 : decode cL_isPiece 50 = .ok (.iconst 4, 1) := by decide +kernel
theorem dL_isPiece_51 : decode cL_isPiece 51 = .ok (.invokevirtual 72, 3) := by decide +kernel
theorem dL_isPiece_54 : decode cL_isPiece 54 = .ok (.istore 8, 2) := by decide +kernel
theorem dL_isPiece_56 : decode cL_isPiece 56 = .ok (.aload_n 0, 1) := by decide +kernel
theorem dL_isPiece_57 : decode cL_isPiece 57 = .ok (.iload_n 1, 1) := by decide +kernel
theorem dL_isPiece_58 : decode cL_isPiece 58 = .ok (.iconst 2, 1) := by decide +kernel
theorem dL_isPiece_59 : decode cL_isPiece 59 = .ok (.invokevirtual 72, 3) := by decide +kernel
theorem dL_isPiece_62 : decode cL_isPiece 62 = .ok (.iload 4, 2) := by decide +kernel
theorem dL_isPiece_64 : decode cL_isPiece 64 = .ok (.iconst 4, 1) := by decide +kernel
theorem dL_isPiece_65 : decode cL_isPiece 65 = .ok (.idiv, 1) := by decide +kernel
theorem dL_isPiece_66 : decode cL_isPiece 66 = .ok (.if_icmp .ne 78, 3) := by decide +kernel
theorem dL_isPiece_69 : decode cL_isPiece 69 = .ok (.aload_n 0, 1) := by decide +kernel
theorem dL_isPiece_70 : decode cL_isPiece 70 = .ok (.iload_n 1, 1) := by decide +kernel
theorem dL_isPiece_71 : decode cL_isPiece 71 = .ok (.iconst 1, 1) := by decide +kernel
theorem dL_isPiece_72 : decode cL_isPiece 72 = .ok (.invokevirtual 72, 3) := by decide +kernel
theorem dL_isPiece_75 : decode cL_isPiece 75 = .ok (.aload_n 0, 1) := by decide +kernel
theorem dL_isPiece_76 : decode cL_isPiece 76 = .ok (.iload 7, 2) := by decide +kernel
theorem dL_isPiece_78 : decode cL_isPiece 78 = .ok (.iconst 0, 1) := by decide +kernel
theorem dL_isPiece_79 : decode cL_isPiece 79 = .ok (.invokevirtual 63, 3) := by decide +kernel
theorem dL_isPiece_82 : decode cL_isPiece 82 = .ok (.if_icmp .ne 62, 3) := by decide +kernel
theorem dL_isPiece_85 : decode cL_isPiece 85 = .ok (.iload 8, 2) := by decide +kernel
theorem dL_isPiece_87 : decode cL_isPiece 87 = .ok (.bipush (-6), 2) := by decide +kernel
theorem dL_isPiece_89 : decode cL_isPiece 89 = .ok (.if_icmp .ne 7, 3) := by decide +kernel
theorem dL_isPiece_92 : decode cL_isPiece 92 = .ok (.iconst 1, 1) := by decide +kernel
theorem dL_isPiece_93 : decode cL_isPiece 93 = .ok (.goto 4, 3) := by decide +kernel
theorem dL_isPiece_96 : decode cL_isPiece 96 = .ok (.iconst 0, 1) := by decide +kernel
theorem dL_isPiece_97 : decode cL_isPiece 97 = .ok (.aload_n 0, 1) := by decide +kernel
theorem dL_isPiece_98 : decode cL_isPiece 98 = .ok (.iload_n 1, 1) := by decide +kernel
theorem dL_isPiece_99 : decode cL_isPiece 99 = .ok (.iconst 3, 1) := by decide +kernel
theorem dL_isPiece_100 : decode cL_isPiece 100 = .ok (.invokevirtual 72, 3) := by decide +kernel
theorem dL_isPiece_103 : decode cL_isPiece 103 = .ok (.iconst 1, 1) := by decide +kernel
theorem dL_isPiece_104 : decode cL_isPiece 104 = .ok (.if_icmp .eq 7, 3) := by decide +kernel
theorem dL_isPiece_107 : decode cL_isPiece 107 = .ok (.iconst 1, 1) := by decide +kernel
theorem dL_isPiece_108 : decode cL_isPiece 108 = .ok (.goto 4, 3) := by decide +kernel
theorem dL_isPiece_111 : decode cL_isPiece 111 = .ok (.iconst 0, 1) := by decide +kernel
theorem dL_isPiece_112 : decode cL_isPiece 112 = .ok (.if_icmp .ne 32, 3) := by decide +kernel
theorem dL_isPiece_115 : decode cL_isPiece 115 = .ok (.iload 8, 2) := by decide +kernel
theorem dL_isPiece_117 : decode cL_isPiece 117 = .ok (.bipush (-6), 2) := by decide +kernel
theorem dL_isPiece_119 : decode cL_isPiece 119 = .ok (.if_icmp .eq 21, 3) := by decide +kernel
theorem dL_isPiece_122 : decode cL_isPiece 122 = .ok (.aload_n 0, 1) := by decide +kernel
theorem dL_isPiece_123 : decode cL_isPiece 123 = .ok (.iload 8, 2) := by decide +kernel
theorem dL_isPiece_125 : decode cL_isPiece 125 = .ok (.bipush 12, 2) := by decide +kernel
theorem dL_isPiece_127 : decode cL_isPiece 127 = .ok (.idiv, 1) := by decide +kernel
theorem dL_isPiece_128 : decode cL_isPiece 128 = .ok (.iload 8, 2) := by decide +kernel
theorem dL_isPiece_130 : decode cL_isPiece 130 = .ok (.bipush 12, 2) := by decide +kernel
theorem dL_isPiece_132 : decode cL_isPiece 132 = .ok (.irem, 1) := by decide +kernel
theorem dL_isPiece_133 : decode cL_isPiece 133 = .ok (.invokevirtual 75, 3) := by decide +kernel
theorem dL_isPiece_136 : decode cL_isPiece 136 = .ok (.iload_n 1, 1) := by decide +kernel
theorem dL_isPiece_137 : decode cL_isPiece 137 = .ok (.if_icmp .ne 7, 3) := by decide +kernel
theorem dL_isPiece_140 : decode cL_isPiece 140 = .ok (.iconst 1, 1) := by decide +kernel
theorem dL_isPiece_141 : decode cL_isPiece 141 = .ok (.goto 4, 3) := by decide +kernel
theorem dL_isPiece_144 : decode cL_isPiece 144 = .ok (.iconst 0, 1) := by decide +kernel
theorem dL_isPiece_145 : decode cL_isPiece 145 = .ok (.istore 9, 2) := by decide +kernel
theorem dL_isPiece_147 : decode cL_isPiece 147 = .ok (.iconst 0, 1) := by decide +kernel
theorem dL_isPiece_148 : decode cL_isPiece 148 = .ok (.istore 10, 2) := by decide +kernel
theorem dL_isPiece_150 : decode cL_isPiece 150 = .ok (.iload 10, 2) := by decide +kernel
theorem dL_isPiece_152 : decode cL_isPiece 152 = .ok (.iconst 5, 1) := by decide +kernel
theorem dL_isPiece_153 : decode cL_isPiece 153 = .ok (.if_icmp .ge 101, 3) := by decide +kernel
theorem dL_isPiece_156 : decode cL_isPiece 156 = .ok (.iload 9, 2) := by decide +kernel
theorem dL_isPiece_158 : decode cL_isPiece 158 = .ok (.ifCond .eq 96, 3) := by decide +kernel
theorem dL_isPiece_161 : decode cL_isPiece 161 = .ok (.aload_n 0, 1) := by decide +kernel
theorem dL_isPiece_162 : decode cL_isPiece 162 = .ok (.iload_n 3, 1) := by decide +kernel
theorem dL_isPiece_163 : decode cL_isPiece 163 = .ok (.iload 4, 2) := by decide +kernel
theorem dL_isPiece_165 : decode cL_isPiece 165 = .ok (.iload 10, 2) := by decide +kernel
theorem dL_isPiece_167 : decode cL_isPiece 167 = .ok (.invokevirtual 69, 3) := by decide +kernel
theorem dL_isPiece_170 : decode cL_isPiece 170 = .ok (.iload 6, 2) := by decide +kernel
theorem dL_isPiece_172 : decode cL_isPiece 172 = .ok (.ishl, 1) := by decide +kernel
theorem dL_isPiece_173 : decode cL_isPiece 173 = .ok (.istore 11, 2) := by decide +kernel
theorem dL_isPiece_175 : decode cL_isPiece 175 = .ok (.iload 11, 2) := by decide +kernel
theorem dL_isPiece_177 : decode cL_isPiece 177 = .ok (.ifCond .eq 41, 3) := by decide +kernel
theorem dL_isPiece_180 : decode cL_isPiece 180 = .ok (.aload_n 2, 1) := by decide +kernel
theorem dL_isPiece_181 : decode cL_isPiece 181 = .ok (.bipush 9, 2) := by decide +kernel
theorem dL_isPiece_183 : decode cL_isPiece 183 = .ok (.iload 7, 2) := by decide +kernel
theorem dL_isPiece_185 : decode cL_isPiece 185 = .ok (.imul, 1) := by decide +kernel
theorem dL_isPiece_186 : decode cL_isPiece 186 = .ok (.iload 5, 2) := by decide +kernel
theorem dL_isPiece_188 : decode cL_isPiece 188 = .ok (.iadd, 1) := by decide +kernel
theorem dL_isPiece_189 : decode cL_isPiece 189 = .ok (.iload 10, 2) := by decide +kernel
theorem dL_isPiece_191 : decode cL_isPiece 191 = .ok (.iadd, 1) := by decide +kernel
theorem dL_isPiece_192 : decode cL_isPiece 192 = .ok (.iaload, 1) := by decide +kernel
theorem dL_isPiece_193 : decode cL_isPiece 193 = .ok (.iload 11, 2) := by decide +kernel
theorem dL_isPiece_195 : decode cL_isPiece 195 = .ok (.iand, 1) := by decide +kernel
theorem dL_isPiece_196 : decode cL_isPiece 196 = .ok (.ifCond .ne 26, 3) := by decide +kernel
theorem dL_isPiece_199 : decode cL_isPiece 199 = .ok (.aload_n 0, 1) := by decide +kernel
theorem dL_isPiece_200 : decode cL_isPiece 200 = .ok (.iload 7, 2) := by decide +kernel
theorem dL_isPiece_202 : decode cL_isPiece 202 = .ok (.iload 5, 2) := by decide +kernel
theorem dL_isPiece_204 : decode cL_isPiece 204 = .ok (.iload 10, 2) := by decide +kernel
theorem dL_isPiece_206 : decode cL_isPiece 206 = .ok (.iadd, 1) := by decide +kernel
theorem dL_isPiece_207 : decode cL_isPiece 207 = .ok (.invokevirtual 66, 3) := by decide +kernel
theorem dL_isPiece_210 : decode cL_isPiece 210 = .ok (.iload 11, 2) := by decide +kernel
theorem dL_isPiece_212 : decode cL_isPiece 212 = .ok (.iand, 1) := by decide +kernel
theorem dL_isPiece_213 : decode cL_isPiece 213 = .ok (.iload 11, 2) := by decide +kernel
theorem dL_isPiece_215 : decode cL_isPiece 215 = .ok (.if_icmp .ne 7, 3) := by decide +kernel
theorem dL_isPiece_218 : decode cL_isPiece 218 = .ok (.iconst 1, 1) := by decide +kernel
theorem dL_isPiece_219 : decode cL_isPiece 219 = .ok (.goto 4, 3) := by decide +kernel
theorem dL_isPiece_222 : decode cL_isPiece 222 = .ok (.iconst 0, 1) := by decide +kernel
theorem dL_isPiece_223 : decode cL_isPiece 223 = .ok (.istore 9, 2) := by decide +kernel
theorem dL_isPiece_225 : decode cL_isPiece 225 = .ok (.iload 11, 2) := by decide +kernel
theorem dL_isPiece_227 : decode cL_isPiece 227 = .ok (.ifCond .eq 21, 3) := by decide +kernel
theorem dL_isPiece_230 : decode cL_isPiece 230 = .ok (.aload_n 2, 1) := by decide +kernel
theorem dL_isPiece_231 : decode cL_isPiece 231 = .ok (.bipush 9, 2) := by decide +kernel
theorem dL_isPiece_233 : decode cL_isPiece 233 = .ok (.iload 7, 2) := by decide +kernel
theorem dL_isPiece_235 : decode cL_isPiece 235 = .ok (.imul, 1) := by decide +kernel
theorem dL_isPiece_236 : decode cL_isPiece 236 = .ok (.iload 5, 2) := by decide +kernel
theorem dL_isPiece_238 : decode cL_isPiece 238 = .ok (.iadd, 1) := by decide +kernel
theorem dL_isPiece_239 : decode cL_isPiece 239 = .ok (.iload 10, 2) := by decide +kernel
theorem dL_isPiece_241 : decode cL_isPiece 241 = .ok (.iadd, 1) := by decide +kernel
theorem dL_isPiece_242 : decode cL_isPiece 242 = .ok (.dup2, 1) := by decide +kernel
theorem dL_isPiece_243 : decode cL_isPiece 243 = .ok (.iaload, 1) := by decide +kernel
theorem dL_isPiece_244 : decode cL_isPiece 244 = .ok (.iload 11, 2) := by decide +kernel
theorem dL_isPiece_246 : decode cL_isPiece 246 = .ok (.ior, 1) := by decide +kernel
theorem dL_isPiece_247 : decode cL_isPiece 247 = .ok (.iastore, 1) := by decide +kernel
theorem dL_isPiece_248 : decode cL_isPiece 248 = .ok (.iinc 10 1, 3) := by decide +kernel
theorem dL_isPiece_251 : decode cL_isPiece 251 = .ok (.goto (-101), 3) := by decide +kernel
theorem dL_isPiece_254 : decode cL_isPiece 254 = .ok (.iload 9, 2) := by decide +kernel
theorem dL_isPiece_256 : decode cL_isPiece 256 = .ok (.ireturn, 1) := by decide +kernel
theorem dL_isSheet_0 : decode cL_isSheet 0 = .ok (.bipush 126, 2) := by decide +kernel
theorem dL_isSheet_2 : decode cL_isSheet 2 = .ok (.istore_n 3, 1) := by decide +kernel
theorem dL_isSheet_3 : decode cL_isSheet 3 = .ok (.iconst 0, 1) := by decide +kernel
theorem dL_isSheet_4 : decode cL_isSheet 4 = .ok (.istore 4, 2) := by decide +kernel
theorem dL_isSheet_6 : decode cL_isSheet 6 = .ok (.iconst 1, 1) := by decide +kernel
theorem dL_isSheet_7 : decode cL_isSheet 7 = .ok (.istore 5, 2) := by decide +kernel
theorem dL_isSheet_9 : decode cL_isSheet 9 = .ok (.iconst 0, 1) := by decide +kernel
theorem dL_isSheet_10 : decode cL_isSheet 10 = .ok (.istore 6, 2) := by decide +kernel
theorem dL_isSheet_12 : decode cL_isSheet 12 = .ok (.iload 6, 2) := by decide +kernel
theorem dL_isSheet_14 : decode cL_isSheet 14 = .ok (.bipush 9, 2) := by decide +kernel
theorem dL_isSheet_16 : decode cL_isSheet 16 = .ok (.if_icmp .ge 71, 3) := by decide +kernel
theorem dL_isSheet_19 : decode cL_isSheet 19 = .ok (.iload 5, 2) := by decide +kernel
theorem dL_isSheet_21 : decode cL_isSheet 21 = .ok (.ifCond .eq 66, 3) := by decide +kernel
theorem dL_isSheet_24 : decode cL_isSheet 24 = .ok (.aload_n 0, 1) := by decide +kernel
theorem dL_isSheet_25 : decode cL_isSheet 25 = .ok (.iload_n 1, 1) := by decide +kernel
theorem dL_isSheet_26 : decode cL_isSheet 26 = .ok (.iload 6, 2) := by decide +kernel
theorem dL_isSheet_28 : decode cL_isSheet 28 = .ok (.invokevirtual 66, 3) := by decide +kernel
theorem dL_isSheet_31 : decode cL_isSheet 31 = .ok (.aload_n 2, 1) := by decide +kernel
theorem dL_isSheet_32 : decode cL_isSheet 32 = .ok (.bipush 9, 2) := by decide +kernel
theorem dL_isSheet_34 : decode cL_isSheet 34 = .ok (.iload_n 1, 1) := by decide +kernel
theorem dL_isSheet_35 : decode cL_isSheet 35 = .ok (.imul, 1) := by decide +kernel
theorem dL_isSheet_36 : decode cL_isSheet 36 = .ok (.iload 6, 2) := by decide +kernel
theorem dL_isSheet_38 : decode cL_isSheet 38 = .ok (.iadd, 1) := by decide +kernel
theorem dL_isSheet_39 : decode cL_isSheet 39 = .ok (.iaload, 1) := by decide +kernel
theorem dL_isSheet_40 : decode cL_isSheet 40 = .ok (.if_icmp .ne 7, 3) := by decide +kernel
theorem dL_isSheet_43 : decode cL_isSheet 43 = .ok (.iconst 1, 1) := by decide +kernel
theorem dL_isSheet_44 : decode cL_isSheet 44 = .ok (.goto 4, 3) := by decide +kernel
theorem dL_isSheet_47 : decode cL_isSheet 47 = .ok (.iconst 0, 1) := by decide +kernel
theorem dL_isSheet_48 : decode cL_isSheet 48 = .ok (.istore 5, 2) := by decide +kernel
theorem dL_isSheet_50 : decode cL_isSheet 50 = .ok (.iconst 0, 1) := by decide +kernel
theorem dL_isSheet_51 : decode cL_isSheet 51 = .ok (.istore 7, 2) := by decide +kernel
theorem dL_isSheet_53 : decode cL_isSheet 53 = .ok (.iload 7, 2) := by decide +kernel
theorem dL_isSheet_55 : decode cL_isSheet 55 = .ok (.bipush 14, 2) := by decide +kernel
theorem dL_isSheet_57 : decode cL_isSheet 57 = .ok (.if_icmp .ge 24, 3) := by decide +kernel
theorem dL_isSheet_60 : decode cL_isSheet 60 = .ok (.iload_n 3, 1) := by decide +kernel
theorem dL_isSheet_61 : decode cL_isSheet 61 = .ok (.aload_n 0, 1) := by decide +kernel
theorem dL_isSheet_62 : decode cL_isSheet 62 = .ok (.iload_n 1, 1) := by decide +kernel
theorem dL_isSheet_63 : decode cL_isSheet 63 = .ok (.iload 6, 2) := by decide +kernel
theorem dL_isSheet_65 : decode cL_isSheet 65 = .ok (.invokevirtual 66, 3) := by decide +kernel
theorem dL_isSheet_68 : decode cL_isSheet 68 = .ok (.iload 7, 2) := by decide +kernel
theorem dL_isSheet_70 : decode cL_isSheet 70 = .ok (.ishr, 1) := by decide +kernel
theorem dL_isSheet_71 : decode cL_isSheet 71 = .ok (.iconst 1, 1) := by decide +kernel
theorem dL_isSheet_72 : decode cL_isSheet 72 = .ok (.iand, 1) := by decide +kernel
theorem dL_isSheet_73 : decode cL_isSheet 73 = .ok (.isub, 1) := by decide +kernel
theorem dL_isSheet_74 : decode cL_isSheet 74 = .ok (.istore_n 3, 1) := by decide +kernel
theorem dL_isSheet_75 : decode cL_isSheet 75 = .ok (.iinc 7 1, 3) := by decide +kernel
theorem dL_isSheet_78 : decode cL_isSheet 78 = .ok (.goto (-25), 3) := by decide +kernel
theorem dL_isSheet_81 : decode cL_isSheet 81 = .ok (.iinc 6 1, 3) := by decide +kernel
theorem dL_isSheet_84 : decode cL_isSheet 84 = .ok (.goto (-72), 3) := by decide +kernel
theorem dL_isSheet_87 : decode cL_isSheet 87 = .ok (.iconst 0, 1) := by decide +kernel
theorem dL_isSheet_88 : decode cL_isSheet 88 = .ok (.istore 6, 2) := by decide +kernel
theorem dL_isSheet_90 : decode cL_isSheet 90 = .ok (.iload 6, 2) := by decide +kernel
theorem dL_isSheet_92 : decode cL_isSheet 92 = .ok (.bipush 8, 2) := by decide +kernel
theorem dL_isSheet_94 : decode cL_isSheet 94 = .ok (.if_icmp .ge 32, 3) := by decide +kernel
theorem dL_isSheet_97 : decode cL_isSheet 97 = .ok (.iload 4, 2) := by decide +kernel
theorem dL_isSheet_99 : decode cL_isSheet 99 = .ok (.aload_n 0, 1) := by decide +kernel
theorem dL_isSheet_100 : decode cL_isSheet 100 = .ok (.iload_n 1, 1) := by decide +kernel
theorem dL_isSheet_101 : decode cL_isSheet 101 = .ok (.iload 6, 2) := by decide +kernel
theorem dL_isSheet_103 : decode cL_isSheet 103 = .ok (.invokevirtual 78, 3) := by decide +kernel
theorem dL_isSheet_106 : decode cL_isSheet 106 = .ok (.ifCond .le 10, 3) := by decide +kernel
theorem dL_isSheet_109 : decode cL_isSheet 109 = .ok (.iconst 1, 1) := by decide +kernel
theorem dL_isSheet_110 : decode cL_isSheet 110 = .ok (.iload 6, 2) := by decide +kernel
theorem dL_isSheet_112 : decode cL_isSheet 112 = .ok (.ishl, 1) := by decide +kernel
theorem dL_isSheet_113 : decode cL_isSheet 113 = .ok (.goto 4, 3) := by decide +kernel
theorem dL_isSheet_116 : decode cL_isSheet 116 = .ok (.iconst 0, 1) := by decide +kernel
theorem dL_isSheet_117 : decode cL_isSheet 117 = .ok (.ior, 1) := by decide +kernel
theorem dL_isSheet_118 : decode cL_isSheet 118 = .ok (.istore 4, 2) := by decide +kernel
theorem dL_isSheet_120 : decode cL_isSheet 120 = .ok (.iinc 6 1, 3) := by decide +kernel
theorem dL_isSheet_123 : decode cL_isSheet 123 = .ok (.goto (-33), 3) := by decide +kernel
theorem dL_isSheet_126 : decode cL_isSheet 126 = .ok (.iload 5, 2) := by decide +kernel
theorem dL_isSheet_128 : decode cL_isSheet 128 = .ok (.ifCond .eq 42, 3) := by decide +kernel
theorem dL_isSheet_131 : decode cL_isSheet 131 = .ok (.iload_n 3, 1) := by decide +kernel
theorem dL_isSheet_132 : decode cL_isSheet 132 = .ok (.aload_n 0, 1) := by decide +kernel
theorem dL_isSheet_133 : decode cL_isSheet 133 = .ok (.iload_n 1, 1) := by decide +kernel
theorem dL_isSheet_134 : decode cL_isSheet 134 = .ok (.iconst 1, 1) := by decide +kernel
theorem dL_isSheet_135 : decode cL_isSheet 135 = .ok (.invokevirtual 63, 3) := by decide +kernel
theorem dL_isSheet_138 : decode cL_isSheet 138 = .ok (.if_icmp .ne 32, 3) := by decide +kernel
theorem dL_isSheet_141 : decode cL_isSheet 141 = .ok (.iload 4, 2) := by decide +kernel
theorem dL_isSheet_143 : decode cL_isSheet 143 = .ok (.aload_n 0, 1) := by decide +kernel
theorem dL_isSheet_144 : decode cL_isSheet 144 = .ok (.iload_n 1, 1) := by decide +kernel
theorem dL_isSheet_145 : decode cL_isSheet 145 = .ok (.iconst 4, 1) := by decide +kernel
theorem dL_isSheet_146 : decode cL_isSheet 146 = .ok (.invokevirtual 63, 3) := by decide +kernel
theorem dL_isSheet_149 : decode cL_isSheet 149 = .ok (.if_icmp .ne 21, 3) := by decide +kernel
theorem dL_isSheet_152 : decode cL_isSheet 152 = .ok (.aload_n 0, 1) := by decide +kernel
theorem dL_isSheet_153 : decode cL_isSheet 153 = .ok (.iload_n 1, 1) := by decide +kernel
theorem dL_isSheet_154 : decode cL_isSheet 154 = .ok (.iconst 3, 1) := by decide +kernel
theorem dL_isSheet_155 : decode cL_isSheet 155 = .ok (.invokevirtual 63, 3) := by decide +kernel
theorem dL_isSheet_158 : decode cL_isSheet 158 = .ok (.ifCond .eq 8, 3) := by decide +kernel
theorem dL_isSheet_161 : decode cL_isSheet 161 = .ok (.iload 4, 2) := by decide +kernel
theorem dL_isSheet_163 : decode cL_isSheet 163 = .ok (.ifCond .ne 7, 3) := by decide +kernel
theorem dL_isSheet_166 : decode cL_isSheet 166 = .ok (.iconst 1, 1) := by decide +kernel
theorem dL_isSheet_167 : decode cL_isSheet 167 = .ok (.goto 4, 3) := by decide +kernel
theorem dL_isSheet_170 : decode cL_isSheet 170 = .ok (.iconst 0, 1) := by decide +kernel
theorem dL_isSheet_171 : decode cL_isSheet 171 = .ok (.ireturn, 1) := by decide +kernel
theorem dL_isFit_0 : decode cL_isFit 0 = .ok (.aload_n 0, 1) := by decide +kernel
theorem dL_isFit_1 : decode cL_isFit 1 = .ok (.iload_n 1, 1) := by decide +kernel
theorem dL_isFit_2 : decode cL_isFit 2 = .ok (.iload_n 2, 1) := by decide +kernel
theorem dL_isFit_3 : decode cL_isFit 3 = .ok (.iload_n 3, 1) := by decide +kernel
theorem dL_isFit_4 : decode cL_isFit 4 = .ok (.iconst 0, 1) := by decide +kernel
theorem dL_isFit_5 : decode cL_isFit 5 = .ok (.invokevirtual 81, 3) := by decide +kernel
theorem dL_isFit_8 : decode cL_isFit 8 = .ok (.istore 4, 2) := by decide +kernel
theorem dL_isFit_10 : decode cL_isFit 10 = .ok (.aload_n 0, 1) := by decide +kernel
theorem dL_isFit_11 : decode cL_isFit 11 = .ok (.iload_n 1, 1) := by decide +kernel
theorem dL_isFit_12 : decode cL_isFit 12 = .ok (.iload_n 2, 1) := by decide +kernel
theorem dL_isFit_13 : decode cL_isFit 13 = .ok (.iload_n 3, 1) := by decide +kernel
theorem dL_isFit_14 : decode cL_isFit 14 = .ok (.iconst 1, 1) := by decide +kernel
theorem dL_isFit_15 : decode cL_isFit 15 = .ok (.invokevirtual 81, 3) := by decide +kernel
theorem dL_isFit_18 : decode cL_isFit 18 = .ok (.istore 5, 2) := by decide +kernel
theorem dL_isFit_20 : decode cL_isFit 20 = .ok (.aload_n 0, 1) := by decide +kernel
theorem dL_isFit_21 : decode cL_isFit 21 = .ok (.iload_n 1, 1) := by decide +kernel
theorem dL_isFit_22 : decode cL_isFit 22 = .ok (.iload_n 2, 1) := by decide +kernel
theorem dL_isFit_23 : decode cL_isFit 23 = .ok (.iload_n 3, 1) := by decide +kernel
theorem dL_isFit_24 : decode cL_isFit 24 = .ok (.iconst 2, 1) := by decide +kernel
theorem dL_isFit_25 : decode cL_isFit 25 = .ok (.invokevirtual 81, 3) := by decide +kernel
theorem dL_isFit_28 : decode cL_isFit 28 = .ok (.istore 6, 2) := by decide +kernel
theorem dL_isFit_30 : decode cL_isFit 30 = .ok (.iconst 0, 1) := by decide +kernel
theorem dL_isFit_31 : decode cL_isFit 31 = .ok (.istore 7, 2) := by decide +kernel
theorem dL_isFit_33 : decode cL_isFit 33 = .ok (.iload 7, 2) := by decide +kernel
theorem dL_isFit_35 : decode cL_isFit 35 = .ok (.sipush 504, 3) := by decide +kernel
theorem dL_isFit_38 : decode cL_isFit 38 = .ok (.if_icmp .ge 81, 3) := by decide +kernel
theorem dL_isFit_41 : decode cL_isFit 41 = .ok (.aload_n 0, 1) := by decide +kernel
theorem dL_isFit_42 : decode cL_isFit 42 = .ok (.iload_n 1, 1) := by decide +kernel
theorem dL_isFit_43 : decode cL_isFit 43 = .ok (.iload_n 2, 1) := by decide +kernel
theorem dL_isFit_44 : decode cL_isFit 44 = .ok (.iconst 4, 1) := by decide +kernel
theorem dL_isFit_45 : decode cL_isFit 45 = .ok (.iload_n 3, 1) := by decide +kernel
theorem dL_isFit_46 : decode cL_isFit 46 = .ok (.imul, 1) := by decide +kernel
theorem dL_isFit_47 : decode cL_isFit 47 = .ok (.iload 7, 2) := by decide +kernel
theorem dL_isFit_49 : decode cL_isFit 49 = .ok (.iconst 4, 1) := by decide +kernel
theorem dL_isFit_50 : decode cL_isFit 50 = .ok (.irem, 1) := by decide +kernel
theorem dL_isFit_51 : decode cL_isFit 51 = .ok (.iadd, 1) := by decide +kernel
theorem dL_isFit_52 : decode cL_isFit 52 = .ok (.iload 7, 2) := by decide +kernel
theorem dL_isFit_54 : decode cL_isFit 54 = .ok (.iconst 4, 1) := by decide +kernel
theorem dL_isFit_55 : decode cL_isFit 55 = .ok (.idiv, 1) := by decide +kernel
theorem dL_isFit_56 : decode cL_isFit 56 = .ok (.bipush 14, 2) := by decide +kernel
theorem dL_isFit_58 : decode cL_isFit 58 = .ok (.idiv, 1) := by decide +kernel
theorem dL_isFit_59 : decode cL_isFit 59 = .ok (.iload 7, 2) := by decide +kernel
theorem dL_isFit_61 : decode cL_isFit 61 = .ok (.iconst 4, 1) := by decide +kernel
theorem dL_isFit_62 : decode cL_isFit 62 = .ok (.idiv, 1) := by decide +kernel
theorem dL_isFit_63 : decode cL_isFit 63 = .ok (.bipush 14, 2) := by decide +kernel
theorem dL_isFit_65 : decode cL_isFit 65 = .ok (.irem, 1) := by decide +kernel
theorem dL_isFit_66 : decode cL_isFit 66 = .ok (.invokestatic 84, 3) := by decide +kernel
theorem dL_isFit_69 : decode cL_isFit 69 = .ok (.ifCond .eq 44, 3) := by decide +kernel
theorem dL_isFit_72 : decode cL_isFit 72 = .ok (.iload 4, 2) := by decide +kernel
theorem dL_isFit_74 : decode cL_isFit 74 = .ok (.iconst 4, 1) := by decide +kernel
theorem dL_isFit_75 : decode cL_isFit 75 = .ok (.iload_n 3, 1) := by decide +kernel
theorem dL_isFit_76 : decode cL_isFit 76 = .ok (.imul, 1) := by decide +kernel
theorem dL_isFit_77 : decode cL_isFit 77 = .ok (.iload 7, 2) := by decide +kernel
theorem dL_isFit_79 : decode cL_isFit 79 = .ok (.iconst 4, 1) := by decide +kernel
theorem dL_isFit_80 : decode cL_isFit 80 = .ok (.irem, 1) := by decide +kernel
theorem dL_isFit_81 : decode cL_isFit 81 = .ok (.iadd, 1) := by decide +kernel
theorem dL_isFit_82 : decode cL_isFit 82 = .ok (.if_icmp .ne 29, 3) := by decide +kernel
theorem dL_isFit_85 : decode cL_isFit 85 = .ok (.iload 5, 2) := by decide +kernel
theorem dL_isFit_87 : decode cL_isFit 87 = .ok (.iload 7, 2) := by decide +kernel
theorem dL_isFit_89 : decode cL_isFit 89 = .ok (.bipush 56, 2) := by decide +kernel
theorem dL_isFit_91 : decode cL_isFit 91 = .ok (.idiv, 1) := by decide +kernel
theorem dL_isFit_92 : decode cL_isFit 92 = .ok (.if_icmp .ne 19, 3) := by decide +kernel
theorem dL_isFit_95 : decode cL_isFit 95 = .ok (.iload 6, 2) := by decide +kernel
theorem dL_isFit_97 : decode cL_isFit 97 = .ok (.iload 7, 2) := by decide +kernel
theorem dL_isFit_99 : decode cL_isFit 99 = .ok (.iconst 4, 1) := by decide +kernel
theorem dL_isFit_100 : decode cL_isFit 100 = .ok (.idiv, 1) := by decide +kernel
theorem dL_isFit_101 : decode cL_isFit 101 = .ok (.bipush 14, 2) := by decide +kernel
theorem dL_isFit_103 : decode cL_isFit 103 = .ok (.irem, 1) := by decide +kernel
theorem dL_isFit_104 : decode cL_isFit 104 = .ok (.if_icmp .ne 7, 3) := by decide +kernel
theorem dL_isFit_107 : decode cL_isFit 107 = .ok (.iconst 1, 1) := by decide +kernel
theorem dL_isFit_108 : decode cL_isFit 108 = .ok (.goto 4, 3) := by decide +kernel
theorem dL_isFit_111 : decode cL_isFit 111 = .ok (.iconst 0, 1) := by decide +kernel
theorem dL_isFit_112 : decode cL_isFit 112 = .ok (.ireturn, 1) := by decide +kernel
theorem dL_isFit_113 : decode cL_isFit 113 = .ok (.iinc 7 1, 3) := by decide +kernel
theorem dL_isFit_116 : decode cL_isFit 116 = .ok (.goto (-83), 3) := by decide +kernel
theorem dL_isFit_119 : decode cL_isFit 119 = .ok (.iload 4, 2) := by decide +kernel
theorem dL_isFit_121 : decode cL_isFit 121 = .ok (.bipush (-6), 2) := by decide +kernel
theorem dL_isFit_123 : decode cL_isFit 123 = .ok (.if_icmp .ne 31, 3) := by decide +kernel
theorem dL_isFit_126 : decode cL_isFit 126 = .ok (.iload 5, 2) := by decide +kernel
theorem dL_isFit_128 : decode cL_isFit 128 = .ok (.bipush (-6), 2) := by decide +kernel
theorem dL_isFit_130 : decode cL_isFit 130 = .ok (.if_icmp .ne 24, 3) := by decide +kernel
theorem dL_isFit_133 : decode cL_isFit 133 = .ok (.iload 6, 2) := by decide +kernel
theorem dL_isFit_135 : decode cL_isFit 135 = .ok (.bipush (-6), 2) := by decide +kernel
theorem dL_isFit_137 : decode cL_isFit 137 = .ok (.if_icmp .ne 17, 3) := by decide +kernel
theorem dL_isFit_140 : decode cL_isFit 140 = .ok (.aload_n 0, 1) := by decide +kernel
theorem dL_isFit_141 : decode cL_isFit 141 = .ok (.iload_n 1, 1) := by decide +kernel
theorem dL_isFit_142 : decode cL_isFit 142 = .ok (.iload_n 2, 1) := by decide +kernel
theorem dL_isFit_143 : decode cL_isFit 143 = .ok (.iload_n 3, 1) := by decide +kernel
theorem dL_isFit_144 : decode cL_isFit 144 = .ok (.invokevirtual 88, 3) := by decide +kernel
theorem dL_isFit_147 : decode cL_isFit 147 = .ok (.ifCond .ne 7, 3) := by decide +kernel
theorem dL_isFit_150 : decode cL_isFit 150 = .ok (.iconst 1, 1) := by decide +kernel
theorem dL_isFit_151 : decode cL_isFit 151 = .ok (.goto 4, 3) := by decide +kernel
theorem dL_isFit_154 : decode cL_isFit 154 = .ok (.iconst 0, 1) := by decide +kernel
theorem dL_isFit_155 : decode cL_isFit 155 = .ok (.ireturn, 1) := by decide +kernel
theorem dL_holds_0 : decode cL_holds 0 = .ok (.bipush 54, 2) := by decide +kernel
theorem dL_holds_2 : decode cL_holds 2 = .ok (.newarray .int, 2) := by decide +kernel
theorem dL_holds_4 : decode cL_holds 4 = .ok (.astore_n 2, 1) := by decide +kernel
theorem dL_holds_5 : decode cL_holds 5 = .ok (.iconst 0, 1) := by decide +kernel
theorem dL_holds_6 : decode cL_holds 6 = .ok (.istore_n 3, 1) := by decide +kernel
theorem dL_holds_7 : decode cL_holds 7 = .ok (.iconst 0, 1) := by decide +kernel
theorem dL_holds_8 : decode cL_holds 8 = .ok (.istore 4, 2) := by decide +kernel
theorem dL_holds_10 : decode cL_holds 10 = .ok (.iconst 0, 1) := by decide +kernel
theorem dL_holds_11 : decode cL_holds 11 = .ok (.istore 5, 2) := by decide +kernel
theorem dL_holds_13 : decode cL_holds 13 = .ok (.iconst 0, 1) := by decide +kernel
theorem dL_holds_14 : decode cL_holds 14 = .ok (.istore 6, 2) := by decide +kernel
theorem dL_holds_16 : decode cL_holds 16 = .ok (.aload_n 0, 1) := by decide +kernel
theorem dL_holds_17 : decode cL_holds 17 = .ok (.aload_n 0, 1) := by decide +kernel
theorem dL_holds_18 : decode cL_holds 18 = .ok (.iconst 1, 1) := by decide +kernel
theorem dL_holds_19 : decode cL_holds 19 = .ok (.invokevirtual 13, 3) := by decide +kernel
theorem dL_holds_22 : decode cL_holds 22 = .ok (.iconst 0, 1) := by decide +kernel
theorem dL_holds_23 : decode cL_holds 23 = .ok (.invokevirtual 72, 3) := by decide +kernel
theorem dL_holds_26 : decode cL_holds 26 = .ok (.iconst (-1), 1) := by decide +kernel
theorem dL_holds_27 : decode cL_holds 27 = .ok (.if_icmp .ne 21, 3) := by decide +kernel
theorem dL_holds_30 : decode cL_holds 30 = .ok (.aload_n 0, 1) := by decide +kernel
theorem dL_holds_31 : decode cL_holds 31 = .ok (.aload_n 0, 1) := by decide +kernel
theorem dL_holds_32 : decode cL_holds 32 = .ok (.iconst 0, 1) := by decide +kernel
theorem dL_holds_33 : decode cL_holds 33 = .ok (.invokevirtual 13, 3) := by decide +kernel
theorem dL_holds_36 : decode cL_holds 36 = .ok (.iconst 0, 1) := by decide +kernel
theorem dL_holds_37 : decode cL_holds 37 = .ok (.invokevirtual 63, 3) := by decide +kernel
theorem dL_holds_40 : decode cL_holds 40 = .ok (.iconst (-1), 1) := by decide +kernel
theorem dL_holds_41 : decode cL_holds 41 = .ok (.if_icmp .ne 7, 3) := by decide +kernel
theorem dL_holds_44 : decode cL_holds 44 = .ok (.iconst 1, 1) := by decide +kernel
theorem dL_holds_45 : decode cL_holds 45 = .ok (.goto 4, 3) := by decide +kernel
theorem dL_holds_48 : decode cL_holds 48 = .ok (.iconst 0, 1) := by decide +kernel
theorem dL_holds_49 : decode cL_holds 49 = .ok (.istore 7, 2) := by decide +kernel
theorem dL_holds_51 : decode cL_holds 51 = .ok (.iconst 0, 1) := by decide +kernel
theorem dL_holds_52 : decode cL_holds 52 = .ok (.istore 8, 2) := by decide +kernel
theorem dL_holds_54 : decode cL_holds 54 = .ok (.iload 8, 2) := by decide +kernel
theorem dL_holds_56 : decode cL_holds 56 = .ok (.aload_n 0, 1) := by decide +kernel
theorem dL_holds_57 : decode cL_holds 57 = .ok (.iconst 1, 1) := by decide +kernel
theorem dL_holds_58 : decode cL_holds 58 = .ok (.invokevirtual 13, 3) := by decide +kernel
theorem dL_holds_61 : decode cL_holds 61 = .ok (.if_icmp .ge 92, 3) := by decide +kernel
theorem dL_holds_64 : decode cL_holds 64 = .ok (.iload 7, 2) := by decide +kernel
theorem dL_holds_66 : decode cL_holds 66 = .ok (.ifCond .eq 87, 3) := by decide +kernel
theorem dL_holds_69 : decode cL_holds 69 = .ok (.aload_n 0, 1) := by decide +kernel
theorem dL_holds_70 : decode cL_holds 70 = .ok (.iload 8, 2) := by decide +kernel
theorem dL_holds_72 : decode cL_holds 72 = .ok (.aload_n 2, 1) := by decide +kernel
theorem dL_holds_73 : decode cL_holds 73 = .ok (.invokestatic 91, 3) := by decide +kernel
theorem dL_holds_76 : decode cL_holds 76 = .ok (.istore 7, 2) := by decide +kernel
theorem dL_holds_78 : decode cL_holds 78 = .ok (.iload_n 3, 1) := by decide +kernel
theorem dL_holds_79 : decode cL_holds 79 = .ok (.aload_n 0, 1) := by decide +kernel
theorem dL_holds_80 : decode cL_holds 80 = .ok (.iload 8, 2) := by decide +kernel
theorem dL_holds_82 : decode cL_holds 82 = .ok (.iconst 3, 1) := by decide +kernel
theorem dL_holds_83 : decode cL_holds 83 = .ok (.invokevirtual 72, 3) := by decide +kernel
theorem dL_holds_86 : decode cL_holds 86 = .ok (.ifCond .ne 7, 3) := by decide +kernel
theorem dL_holds_89 : decode cL_holds 89 = .ok (.iconst 1, 1) := by decide +kernel
theorem dL_holds_90 : decode cL_holds 90 = .ok (.goto 4, 3) := by decide +kernel
theorem dL_holds_93 : decode cL_holds 93 = .ok (.iconst 0, 1) := by decide +kernel
theorem dL_holds_94 : decode cL_holds 94 = .ok (.iadd, 1) := by decide +kernel
theorem dL_holds_95 : decode cL_holds 95 = .ok (.istore_n 3, 1) := by decide +kernel
theorem dL_holds_96 : decode cL_holds 96 = .ok (.iload 4, 2) := by decide +kernel
theorem dL_holds_98 : decode cL_holds 98 = .ok (.aload_n 0, 1) := by decide +kernel
theorem dL_holds_99 : decode cL_holds 99 = .ok (.iload 8, 2) := by decide +kernel
theorem dL_holds_101 : decode cL_holds 101 = .ok (.iconst 3, 1) := by decide +kernel
theorem dL_holds_102 : decode cL_holds 102 = .ok (.invokevirtual 72, 3) := by decide +kernel
theorem dL_holds_105 : decode cL_holds 105 = .ok (.iconst 1, 1) := by decide +kernel
theorem dL_holds_106 : decode cL_holds 106 = .ok (.if_icmp .ne 7, 3) := by decide +kernel
theorem dL_holds_109 : decode cL_holds 109 = .ok (.iconst 1, 1) := by decide +kernel
theorem dL_holds_110 : decode cL_holds 110 = .ok (.goto 4, 3) := by decide +kernel
theorem dL_holds_113 : decode cL_holds 113 = .ok (.iconst 0, 1) := by decide +kernel
theorem dL_holds_114 : decode cL_holds 114 = .ok (.iadd, 1) := by decide +kernel
theorem dL_holds_115 : decode cL_holds 115 = .ok (.istore 4, 2) := by decide +kernel
theorem dL_holds_117 : decode cL_holds 117 = .ok (.iload 5, 2) := by decide +kernel
theorem dL_holds_119 : decode cL_holds 119 = .ok (.aload_n 0, 1) := by decide +kernel
theorem dL_holds_120 : decode cL_holds 120 = .ok (.iload 8, 2) := by decide +kernel
theorem dL_holds_122 : decode cL_holds 122 = .ok (.iconst 3, 1) := by decide +kernel
theorem dL_holds_123 : decode cL_holds 123 = .ok (.invokevirtual 72, 3) := by decide +kernel
theorem dL_holds_126 : decode cL_holds 126 = .ok (.iconst 2, 1) := by decide +kernel
theorem dL_holds_127 : decode cL_holds 127 = .ok (.if_icmp .ne 7, 3) := by decide +kernel
theorem dL_holds_130 : decode cL_holds 130 = .ok (.iconst 0, 1) := by decide +kernel
theorem dL_holds_131 : decode cL_holds 131 = .ok (.goto 13, 3) := by decide +kernel
theorem dL_holds_134 : decode cL_holds 134 = .ok (.aload_n 0, 1) := by decide +kernel
theorem dL_holds_135 : decode cL_holds 135 = .ok (.iload 8, 2) := by decide +kernel
theorem dL_holds_137 : decode cL_holds 137 = .ok (.iconst 0, 1) := by decide +kernel
theorem dL_holds_138 : decode cL_holds 138 = .ok (.invokevirtual 72, 3) := by decide +kernel
theorem dL_holds_141 : decode cL_holds 141 = .ok (.invokestatic 95, 3) := by decide +kernel
theorem dL_holds_144 : decode cL_holds 144 = .ok (.iadd, 1) := by decide +kernel
theorem dL_holds_145 : decode cL_holds 145 = .ok (.istore 5, 2) := by decide +kernel
theorem dL_holds_147 : decode cL_holds 147 = .ok (.iinc 8 1, 3) := by decide +kernel
theorem dL_holds_150 : decode cL_holds 150 = .ok (.goto (-96), 3) := by decide +kernel
theorem dL_holds_153 : decode cL_holds 153 = .ok (.iconst 0, 1) := by decide +kernel
theorem dL_holds_154 : decode cL_holds 154 = .ok (.istore 8, 2) := by decide +kernel
theorem dL_holds_156 : decode cL_holds 156 = .ok (.iload 8, 2) := by decide +kernel
theorem dL_holds_158 : decode cL_holds 158 = .ok (.aload_n 0, 1) := by decide +kernel
theorem dL_holds_159 : decode cL_holds 159 = .ok (.iconst 0, 1) := by decide +kernel
theorem dL_holds_160 : decode cL_holds 160 = .ok (.invokevirtual 13, 3) := by decide +kernel
theorem dL_holds_163 : decode cL_holds 163 = .ok (.if_icmp .ge 50, 3) := by decide +kernel
theorem dL_holds_166 : decode cL_holds 166 = .ok (.iload 7, 2) := by decide +kernel
theorem dL_holds_168 : decode cL_holds 168 = .ok (.ifCond .eq 45, 3) := by decide +kernel
theorem dL_holds_171 : decode cL_holds 171 = .ok (.aload_n 0, 1) := by decide +kernel
theorem dL_holds_172 : decode cL_holds 172 = .ok (.iload 8, 2) := by decide +kernel
theorem dL_holds_174 : decode cL_holds 174 = .ok (.aload_n 2, 1) := by decide +kernel
theorem dL_holds_175 : decode cL_holds 175 = .ok (.invokestatic 98, 3) := by decide +kernel
theorem dL_holds_178 : decode cL_holds 178 = .ok (.istore 7, 2) := by decide +kernel
theorem dL_holds_180 : decode cL_holds 180 = .ok (.iload 6, 2) := by decide +kernel
theorem dL_holds_182 : decode cL_holds 182 = .ok (.aload_n 0, 1) := by decide +kernel
theorem dL_holds_183 : decode cL_holds 183 = .ok (.iload 8, 2) := by decide +kernel
theorem dL_holds_185 : decode cL_holds 185 = .ok (.iconst 3, 1) := by decide +kernel
theorem dL_holds_186 : decode cL_holds 186 = .ok (.invokevirtual 63, 3) := by decide +kernel
theorem dL_holds_189 : decode cL_holds 189 = .ok (.iconst 1, 1) := by decide +kernel
theorem dL_holds_190 : decode cL_holds 190 = .ok (.if_icmp .ne 7, 3) := by decide +kernel
theorem dL_holds_193 : decode cL_holds 193 = .ok (.iconst 0, 1) := by decide +kernel
theorem dL_holds_194 : decode cL_holds 194 = .ok (.goto 10, 3) := by decide +kernel
theorem dL_holds_197 : decode cL_holds 197 = .ok (.aload_n 0, 1) := by decide +kernel
theorem dL_holds_198 : decode cL_holds 198 = .ok (.iload 8, 2) := by decide +kernel
theorem dL_holds_200 : decode cL_holds 200 = .ok (.iconst 1, 1) := by decide +kernel
theorem dL_holds_201 : decode cL_holds 201 = .ok (.invokevirtual 63, 3) := by decide +kernel
theorem dL_holds_204 : decode cL_holds 204 = .ok (.iadd, 1) := by decide +kernel
theorem dL_holds_205 : decode cL_holds 205 = .ok (.istore 6, 2) := by decide +kernel
theorem dL_holds_207 : decode cL_holds 207 = .ok (.iinc 8 1, 3) := by decide +kernel
theorem dL_holds_210 : decode cL_holds 210 = .ok (.goto (-54), 3) := by decide +kernel
theorem dL_holds_213 : decode cL_holds 213 = .ok (.iload 7, 2) := by decide +kernel
theorem dL_holds_215 : decode cL_holds 215 = .ok (.ifCond .eq 66, 3) := by decide +kernel
theorem dL_holds_218 : decode cL_holds 218 = .ok (.iload_n 3, 1) := by decide +kernel
theorem dL_holds_219 : decode cL_holds 219 = .ok (.aload_n 0, 1) := by decide +kernel
theorem dL_holds_220 : decode cL_holds 220 = .ok (.iconst 2, 1) := by decide +kernel
theorem dL_holds_221 : decode cL_holds 221 = .ok (.invokevirtual 13, 3) := by decide +kernel
theorem dL_holds_224 : decode cL_holds 224 = .ok (.if_icmp .ne 57, 3) := by decide +kernel
theorem dL_holds_227 : decode cL_holds 227 = .ok (.iload 4, 2) := by decide +kernel
theorem dL_holds_229 : decode cL_holds 229 = .ok (.aload_n 0, 1) := by decide +kernel
theorem dL_holds_230 : decode cL_holds 230 = .ok (.iconst 3, 1) := by decide +kernel
theorem dL_holds_231 : decode cL_holds 231 = .ok (.invokevirtual 13, 3) := by decide +kernel
theorem dL_holds_234 : decode cL_holds 234 = .ok (.if_icmp .ne 47, 3) := by decide +kernel
theorem dL_holds_237 : decode cL_holds 237 = .ok (.aload_n 0, 1) := by decide +kernel
theorem dL_holds_238 : decode cL_holds 238 = .ok (.iconst 4, 1) := by decide +kernel
theorem dL_holds_239 : decode cL_holds 239 = .ok (.invokevirtual 13, 3) := by decide +kernel
theorem dL_holds_242 : decode cL_holds 242 = .ok (.aload_n 0, 1) := by decide +kernel
theorem dL_holds_243 : decode cL_holds 243 = .ok (.iconst 1, 1) := by decide +kernel
theorem dL_holds_244 : decode cL_holds 244 = .ok (.invokevirtual 13, 3) := by decide +kernel
theorem dL_holds_247 : decode cL_holds 247 = .ok (.iload_n 3, 1) := by decide +kernel
theorem dL_holds_248 : decode cL_holds 248 = .ok (.isub, 1) := by decide +kernel
theorem dL_holds_249 : decode cL_holds 249 = .ok (.iload 4, 2) := by decide +kernel
theorem dL_holds_251 : decode cL_holds 251 = .ok (.isub, 1) := by decide +kernel
theorem dL_holds_252 : decode cL_holds 252 = .ok (.if_icmp .ne 29, 3) := by decide +kernel
theorem dL_holds_255 : decode cL_holds 255 = .ok (.iload 5, 2) := by decide +kernel
theorem dL_holds_257 : decode cL_holds 257 = .ok (.aload_n 0, 1) := by decide +kernel
theorem dL_holds_258 : decode cL_holds 258 = .ok (.bipush 7, 2) := by decide +kernel
theorem dL_holds_260 : decode cL_holds 260 = .ok (.invokevirtual 13, 3) := by decide +kernel
theorem dL_holds_263 : decode cL_holds 263 = .ok (.if_icmp .ne 18, 3) := by decide +kernel
theorem dL_holds_266 : decode cL_holds 266 = .ok (.iload 6, 2) := by decide +kernel
theorem dL_holds_268 : decode cL_holds 268 = .ok (.aload_n 0, 1) := by decide +kernel
theorem dL_holds_269 : decode cL_holds 269 = .ok (.bipush 6, 2) := by decide +kernel
theorem dL_holds_271 : decode cL_holds 271 = .ok (.invokevirtual 13, 3) := by decide +kernel
theorem dL_holds_274 : decode cL_holds 274 = .ok (.if_icmp .ne 7, 3) := by decide +kernel
theorem dL_holds_277 : decode cL_holds 277 = .ok (.iconst 1, 1) := by decide +kernel
theorem dL_holds_278 : decode cL_holds 278 = .ok (.goto 4, 3) := by decide +kernel
theorem dL_holds_281 : decode cL_holds 281 = .ok (.iconst 0, 1) := by decide +kernel
theorem dL_holds_282 : decode cL_holds 282 = .ok (.istore 7, 2) := by decide +kernel
theorem dL_holds_284 : decode cL_holds 284 = .ok (.iload 7, 2) := by decide +kernel
theorem dL_holds_286 : decode cL_holds 286 = .ok (.ifCond .eq 37, 3) := by decide +kernel
theorem dL_holds_289 : decode cL_holds 289 = .ok (.aload_n 0, 1) := by decide +kernel
theorem dL_holds_290 : decode cL_holds 290 = .ok (.iconst 5, 1) := by decide +kernel
theorem dL_holds_291 : decode cL_holds 291 = .ok (.invokevirtual 13, 3) := by decide +kernel
theorem dL_holds_294 : decode cL_holds 294 = .ok (.aload_n 0, 1) := by decide +kernel
theorem dL_holds_295 : decode cL_holds 295 = .ok (.bipush 6, 2) := by decide +kernel
theorem dL_holds_297 : decode cL_holds 297 = .ok (.invokevirtual 13, 3) := by decide +kernel
theorem dL_holds_300 : decode cL_holds 300 = .ok (.iadd, 1) := by decide +kernel
theorem dL_holds_301 : decode cL_holds 301 = .ok (.aload_n 0, 1) := by decide +kernel
theorem dL_holds_302 : decode cL_holds 302 = .ok (.bipush 7, 2) := by decide +kernel
theorem dL_holds_304 : decode cL_holds 304 = .ok (.invokevirtual 13, 3) := by decide +kernel
theorem dL_holds_307 : decode cL_holds 307 = .ok (.iadd, 1) := by decide +kernel
theorem dL_holds_308 : decode cL_holds 308 = .ok (.bipush 126, 2) := by decide +kernel
theorem dL_holds_310 : decode cL_holds 310 = .ok (.aload_n 0, 1) := by decide +kernel
theorem dL_holds_311 : decode cL_holds 311 = .ok (.iconst 0, 1) := by decide +kernel
theorem dL_holds_312 : decode cL_holds 312 = .ok (.invokevirtual 13, 3) := by decide +kernel
theorem dL_holds_315 : decode cL_holds 315 = .ok (.imul, 1) := by decide +kernel
theorem dL_holds_316 : decode cL_holds 316 = .ok (.if_icmp .ne 7, 3) := by decide +kernel
theorem dL_holds_319 : decode cL_holds 319 = .ok (.iconst 1, 1) := by decide +kernel
theorem dL_holds_320 : decode cL_holds 320 = .ok (.goto 4, 3) := by decide +kernel
theorem dL_holds_323 : decode cL_holds 323 = .ok (.iconst 0, 1) := by decide +kernel
theorem dL_holds_324 : decode cL_holds 324 = .ok (.istore 7, 2) := by decide +kernel
theorem dL_holds_326 : decode cL_holds 326 = .ok (.iload 7, 2) := by decide +kernel
theorem dL_holds_328 : decode cL_holds 328 = .ok (.ifCond .eq 47, 3) := by decide +kernel
theorem dL_holds_331 : decode cL_holds 331 = .ok (.aload_n 0, 1) := by decide +kernel
theorem dL_holds_332 : decode cL_holds 332 = .ok (.iconst 0, 1) := by decide +kernel
theorem dL_holds_333 : decode cL_holds 333 = .ok (.invokevirtual 13, 3) := by decide +kernel
theorem dL_holds_336 : decode cL_holds 336 = .ok (.ifCond .eq 35, 3) := by decide +kernel
theorem dL_holds_339 : decode cL_holds 339 = .ok (.aload_n 0, 1) := by decide +kernel
theorem dL_holds_340 : decode cL_holds 340 = .ok (.iload_n 1, 1) := by decide +kernel
theorem dL_holds_341 : decode cL_holds 341 = .ok (.aload_n 0, 1) := by decide +kernel
theorem dL_holds_342 : decode cL_holds 342 = .ok (.iconst 0, 1) := by decide +kernel
theorem dL_holds_343 : decode cL_holds 343 = .ok (.invokevirtual 13, 3) := by decide +kernel
theorem dL_holds_346 : decode cL_holds 346 = .ok (.invokestatic 19, 3) := by decide +kernel
theorem dL_holds_349 : decode cL_holds 349 = .ok (.iload_n 1, 1) := by decide +kernel
theorem dL_holds_350 : decode cL_holds 350 = .ok (.iconst 3, 1) := by decide +kernel
theorem dL_holds_351 : decode cL_holds 351 = .ok (.ishr, 1) := by decide +kernel
theorem dL_holds_352 : decode cL_holds 352 = .ok (.bipush 8, 2) := by decide +kernel
theorem dL_holds_354 : decode cL_holds 354 = .ok (.invokestatic 19, 3) := by decide +kernel
theorem dL_holds_357 : decode cL_holds 357 = .ok (.iload_n 1, 1) := by decide +kernel
theorem dL_holds_358 : decode cL_holds 358 = .ok (.bipush 6, 2) := by decide +kernel
theorem dL_holds_360 : decode cL_holds 360 = .ok (.ishr, 1) := by decide +kernel
theorem dL_holds_361 : decode cL_holds 361 = .ok (.iconst 2, 1) := by decide +kernel
theorem dL_holds_362 : decode cL_holds 362 = .ok (.invokestatic 19, 3) := by decide +kernel
theorem dL_holds_365 : decode cL_holds 365 = .ok (.invokestatic 101, 3) := by decide +kernel
theorem dL_holds_368 : decode cL_holds 368 = .ok (.ifCond .eq 7, 3) := by decide +kernel
theorem dL_holds_371 : decode cL_holds 371 = .ok (.iconst 1, 1) := by decide +kernel
theorem dL_holds_372 : decode cL_holds 372 = .ok (.goto 4, 3) := by decide +kernel
theorem dL_holds_375 : decode cL_holds 375 = .ok (.iconst 0, 1) := by decide +kernel
theorem dL_holds_376 : decode cL_holds 376 = .ok (.ireturn, 1) := by decide +kernel
theorem dL_tries_0 : decode cL_tries 0 = .ok (.aload_n 0, 1) := by decide +kernel
theorem dL_tries_1 : decode cL_tries 1 = .ok (.iconst 1, 1) := by decide +kernel
theorem dL_tries_2 : decode cL_tries 2 = .ok (.invokevirtual 13, 3) := by decide +kernel
theorem dL_tries_5 : decode cL_tries 5 = .ok (.istore_n 2, 1) := by decide +kernel
theorem dL_tries_6 : decode cL_tries 6 = .ok (.iload_n 1, 1) := by decide +kernel
theorem dL_tries_7 : decode cL_tries 7 = .ok (.aload_n 0, 1) := by decide +kernel
theorem dL_tries_8 : decode cL_tries 8 = .ok (.iconst 0, 1) := by decide +kernel
theorem dL_tries_9 : decode cL_tries 9 = .ok (.invokevirtual 13, 3) := by decide +kernel
theorem dL_tries_12 : decode cL_tries 12 = .ok (.iconst 1, 1) := by decide +kernel
theorem dL_tries_13 : decode cL_tries 13 = .ok (.iadd, 1) := by decide +kernel
theorem dL_tries_14 : decode cL_tries 14 = .ok (.invokestatic 19, 3) := by decide +kernel
theorem dL_tries_17 : decode cL_tries 17 = .ok (.istore_n 3, 1) := by decide +kernel
theorem dL_tries_18 : decode cL_tries 18 = .ok (.iload_n 1, 1) := by decide +kernel
theorem dL_tries_19 : decode cL_tries 19 = .ok (.iconst 3, 1) := by decide +kernel
theorem dL_tries_20 : decode cL_tries 20 = .ok (.ishr, 1) := by decide +kernel
theorem dL_tries_21 : decode cL_tries 21 = .ok (.bipush 8, 2) := by decide +kernel
theorem dL_tries_23 : decode cL_tries 23 = .ok (.invokestatic 19, 3) := by decide +kernel
theorem dL_tries_26 : decode cL_tries 26 = .ok (.istore 4, 2) := by decide +kernel
theorem dL_tries_28 : decode cL_tries 28 = .ok (.iload_n 1, 1) := by decide +kernel
theorem dL_tries_29 : decode cL_tries 29 = .ok (.bipush 6, 2) := by decide +kernel
theorem dL_tries_31 : decode cL_tries 31 = .ok (.ishr, 1) := by decide +kernel
theorem dL_tries_32 : decode cL_tries 32 = .ok (.iconst 2, 1) := by decide +kernel
theorem dL_tries_33 : decode cL_tries 33 = .ok (.invokestatic 19, 3) := by decide +kernel
theorem dL_tries_36 : decode cL_tries 36 = .ok (.istore 5, 2) := by decide +kernel
theorem dL_tries_38 : decode cL_tries 38 = .ok (.iconst 1, 1) := by decide +kernel
theorem dL_tries_39 : decode cL_tries 39 = .ok (.istore 6, 2) := by decide +kernel
theorem dL_tries_41 : decode cL_tries 41 = .ok (.aload_n 0, 1) := by decide +kernel
theorem dL_tries_42 : decode cL_tries 42 = .ok (.iload_n 3, 1) := by decide +kernel
theorem dL_tries_43 : decode cL_tries 43 = .ok (.iload 4, 2) := by decide +kernel
theorem dL_tries_45 : decode cL_tries 45 = .ok (.iload 5, 2) := by decide +kernel
theorem dL_tries_47 : decode cL_tries 47 = .ok (.invokevirtual 88, 3) := by decide +kernel
theorem dL_tries_50 : decode cL_tries 50 = .ok (.istore 7, 2) := by decide +kernel
theorem dL_tries_52 : decode cL_tries 52 = .ok (.iload 7, 2) := by decide +kernel
theorem dL_tries_54 : decode cL_tries 54 = .ok (.bipush 6, 2) := by decide +kernel
theorem dL_tries_56 : decode cL_tries 56 = .ok (.if_icmp .le 8, 3) := by decide +kernel
theorem dL_tries_59 : decode cL_tries 59 = .ok (.bipush 6, 2) := by decide +kernel
theorem dL_tries_61 : decode cL_tries 61 = .ok (.goto 5, 3) := by decide +kernel
theorem dL_tries_64 : decode cL_tries 64 = .ok (.iload 7, 2) := by decide +kernel
theorem dL_tries_66 : decode cL_tries 66 = .ok (.istore 8, 2) := by decide +kernel
theorem dL_tries_68 : decode cL_tries 68 = .ok (.iload 8, 2) := by decide +kernel
theorem dL_tries_70 : decode cL_tries 70 = .ok (.bipush 48, 2) := by decide +kernel
theorem dL_tries_72 : decode cL_tries 72 = .ok (.iload_n 2, 1) := by decide +kernel
theorem dL_tries_73 : decode cL_tries 73 = .ok (.isub, 1) := by decide +kernel
theorem dL_tries_74 : decode cL_tries 74 = .ok (.if_icmp .le 10, 3) := by decide +kernel
theorem dL_tries_77 : decode cL_tries 77 = .ok (.bipush 48, 2) := by decide +kernel
theorem dL_tries_79 : decode cL_tries 79 = .ok (.iload_n 2, 1) := by decide +kernel
theorem dL_tries_80 : decode cL_tries 80 = .ok (.isub, 1) := by decide +kernel
theorem dL_tries_81 : decode cL_tries 81 = .ok (.goto 5, 3) := by decide +kernel
theorem dL_tries_84 : decode cL_tries 84 = .ok (.iload 8, 2) := by decide +kernel
theorem dL_tries_86 : decode cL_tries 86 = .ok (.istore 8, 2) := by decide +kernel
theorem dL_tries_88 : decode cL_tries 88 = .ok (.iconst 0, 1) := by decide +kernel
theorem dL_tries_89 : decode cL_tries 89 = .ok (.istore 9, 2) := by decide +kernel
theorem dL_tries_91 : decode cL_tries 91 = .ok (.iload 9, 2) := by decide +kernel
theorem dL_tries_93 : decode cL_tries 93 = .ok (.iload 8, 2) := by decide +kernel
theorem dL_tries_95 : decode cL_tries 95 = .ok (.if_icmp .ge 84, 3) := by decide +kernel
theorem dL_tries_98 : decode cL_tries 98 = .ok (.iload 6, 2) := by decide +kernel
theorem dL_tries_100 : decode cL_tries 100 = .ok (.ifCond .eq 79, 3) := by decide +kernel
theorem dL_tries_103 : decode cL_tries 103 = .ok (.aload_n 0, 1) := by decide +kernel
theorem dL_tries_104 : decode cL_tries 104 = .ok (.iload_n 3, 1) := by decide +kernel
theorem dL_tries_105 : decode cL_tries 105 = .ok (.iload 4, 2) := by decide +kernel
theorem dL_tries_107 : decode cL_tries 107 = .ok (.aload_n 0, 1) := by decide +kernel
theorem dL_tries_108 : decode cL_tries 108 = .ok (.iload_n 3, 1) := by decide +kernel
theorem dL_tries_109 : decode cL_tries 109 = .ok (.iload 4, 2) := by decide +kernel
theorem dL_tries_111 : decode cL_tries 111 = .ok (.iload 5, 2) := by decide +kernel
theorem dL_tries_113 : decode cL_tries 113 = .ok (.iconst 0, 1) := by decide +kernel
theorem dL_tries_114 : decode cL_tries 114 = .ok (.invokevirtual 81, 3) := by decide +kernel
theorem dL_tries_117 : decode cL_tries 117 = .ok (.aload_n 0, 1) := by decide +kernel
theorem dL_tries_118 : decode cL_tries 118 = .ok (.iload_n 3, 1) := by decide +kernel
theorem dL_tries_119 : decode cL_tries 119 = .ok (.iload 4, 2) := by decide +kernel
theorem dL_tries_121 : decode cL_tries 121 = .ok (.iload 5, 2) := by decide +kernel
theorem dL_tries_123 : decode cL_tries 123 = .ok (.iconst 1, 1) := by decide +kernel
theorem dL_tries_124 : decode cL_tries 124 = .ok (.invokevirtual 81, 3) := by decide +kernel
theorem dL_tries_127 : decode cL_tries 127 = .ok (.aload_n 0, 1) := by decide +kernel
theorem dL_tries_128 : decode cL_tries 128 = .ok (.iload_n 3, 1) := by decide +kernel
theorem dL_tries_129 : decode cL_tries 129 = .ok (.iload 4, 2) := by decide +kernel
theorem dL_tries_131 : decode cL_tries 131 = .ok (.iload 5, 2) := by decide +kernel
theorem dL_tries_133 : decode cL_tries 133 = .ok (.iconst 2, 1) := by decide +kernel
theorem dL_tries_134 : decode cL_tries 134 = .ok (.invokevirtual 81, 3) := by decide +kernel
theorem dL_tries_137 : decode cL_tries 137 = .ok (.invokevirtual 28, 3) := by decide +kernel
theorem dL_tries_140 : decode cL_tries 140 = .ok (.iload_n 2, 1) := by decide +kernel
theorem dL_tries_141 : decode cL_tries 141 = .ok (.iload 9, 2) := by decide +kernel
theorem dL_tries_143 : decode cL_tries 143 = .ok (.iadd, 1) := by decide +kernel
theorem dL_tries_144 : decode cL_tries 144 = .ok (.if_icmp .ne 26, 3) := by decide +kernel
theorem dL_tries_147 : decode cL_tries 147 = .ok (.aload_n 0, 1) := by decide +kernel
theorem dL_tries_148 : decode cL_tries 148 = .ok (.iload_n 3, 1) := by decide +kernel
theorem dL_tries_149 : decode cL_tries 149 = .ok (.iload 4, 2) := by decide +kernel
theorem dL_tries_151 : decode cL_tries 151 = .ok (.iload 5, 2) := by decide +kernel
theorem dL_tries_153 : decode cL_tries 153 = .ok (.invokevirtual 88, 3) := by decide +kernel
theorem dL_tries_156 : decode cL_tries 156 = .ok (.iload 7, 2) := by decide +kernel
theorem dL_tries_158 : decode cL_tries 158 = .ok (.iload 9, 2) := by decide +kernel
theorem dL_tries_160 : decode cL_tries 160 = .ok (.isub, 1) := by decide +kernel
theorem dL_tries_161 : decode cL_tries 161 = .ok (.iconst 1, 1) := by decide +kernel
theorem dL_tries_162 : decode cL_tries 162 = .ok (.isub, 1) := by decide +kernel
theorem dL_tries_163 : decode cL_tries 163 = .ok (.if_icmp .ne 7, 3) := by decide +kernel
theorem dL_tries_166 : decode cL_tries 166 = .ok (.iconst 1, 1) := by decide +kernel
theorem dL_tries_167 : decode cL_tries 167 = .ok (.goto 4, 3) := by decide +kernel
theorem dL_tries_170 : decode cL_tries 170 = .ok (.iconst 0, 1) := by decide +kernel
theorem dL_tries_171 : decode cL_tries 171 = .ok (.istore 6, 2) := by decide +kernel
theorem dL_tries_173 : decode cL_tries 173 = .ok (.iinc 9 1, 3) := by decide +kernel
theorem dL_tries_176 : decode cL_tries 176 = .ok (.goto (-85), 3) := by decide +kernel
theorem dL_tries_179 : decode cL_tries 179 = .ok (.iconst 0, 1) := by decide +kernel
theorem dL_tries_180 : decode cL_tries 180 = .ok (.istore 9, 2) := by decide +kernel
theorem dL_tries_182 : decode cL_tries 182 = .ok (.iload 9, 2) := by decide +kernel
theorem dL_tries_184 : decode cL_tries 184 = .ok (.iload 8, 2) := by decide +kernel
theorem dL_tries_186 : decode cL_tries 186 = .ok (.if_icmp .ge 28, 3) := by decide +kernel
theorem dL_tries_189 : decode cL_tries 189 = .ok (.aload_n 0, 1) := by decide +kernel
theorem dL_tries_190 : decode cL_tries 190 = .ok (.invokevirtual 105, 3) := by decide +kernel
theorem dL_tries_193 : decode cL_tries 193 = .ok (.ifCond .lt 12, 3) := by decide +kernel
theorem dL_tries_196 : decode cL_tries 196 = .ok (.iload 6, 2) := by decide +kernel
theorem dL_tries_198 : decode cL_tries 198 = .ok (.ifCond .eq 7, 3) := by decide +kernel
theorem dL_tries_201 : decode cL_tries 201 = .ok (.iconst 1, 1) := by decide +kernel
theorem dL_tries_202 : decode cL_tries 202 = .ok (.goto 4, 3) := by decide +kernel
theorem dL_tries_205 : decode cL_tries 205 = .ok (.iconst 0, 1) := by decide +kernel
theorem dL_tries_206 : decode cL_tries 206 = .ok (.istore 6, 2) := by decide +kernel
theorem dL_tries_208 : decode cL_tries 208 = .ok (.iinc 9 1, 3) := by decide +kernel
theorem dL_tries_211 : decode cL_tries 211 = .ok (.goto (-29), 3) := by decide +kernel
theorem dL_tries_214 : decode cL_tries 214 = .ok (.iload 6, 2) := by decide +kernel
theorem dL_tries_216 : decode cL_tries 216 = .ok (.ifCond .eq 31, 3) := by decide +kernel
theorem dL_tries_219 : decode cL_tries 219 = .ok (.aload_n 0, 1) := by decide +kernel
theorem dL_tries_220 : decode cL_tries 220 = .ok (.iconst 1, 1) := by decide +kernel
theorem dL_tries_221 : decode cL_tries 221 = .ok (.invokevirtual 13, 3) := by decide +kernel
theorem dL_tries_224 : decode cL_tries 224 = .ok (.iload_n 2, 1) := by decide +kernel
theorem dL_tries_225 : decode cL_tries 225 = .ok (.if_icmp .ne 22, 3) := by decide +kernel
theorem dL_tries_228 : decode cL_tries 228 = .ok (.iload_n 3, 1) := by decide +kernel
theorem dL_tries_229 : decode cL_tries 229 = .ok (.aload_n 0, 1) := by decide +kernel
theorem dL_tries_230 : decode cL_tries 230 = .ok (.iconst 0, 1) := by decide +kernel
theorem dL_tries_231 : decode cL_tries 231 = .ok (.invokevirtual 13, 3) := by decide +kernel
theorem dL_tries_234 : decode cL_tries 234 = .ok (.if_icmp .lt 9, 3) := by decide +kernel
theorem dL_tries_237 : decode cL_tries 237 = .ok (.iload 7, 2) := by decide +kernel
theorem dL_tries_239 : decode cL_tries 239 = .ok (.iconst (-1), 1) := by decide +kernel
theorem dL_tries_240 : decode cL_tries 240 = .ok (.if_icmp .ne 7, 3) := by decide +kernel
theorem dL_tries_243 : decode cL_tries 243 = .ok (.iconst 1, 1) := by decide +kernel
theorem dL_tries_244 : decode cL_tries 244 = .ok (.goto 4, 3) := by decide +kernel
theorem dL_tries_247 : decode cL_tries 247 = .ok (.iconst 0, 1) := by decide +kernel
theorem dL_tries_248 : decode cL_tries 248 = .ok (.istore 6, 2) := by decide +kernel
theorem dL_tries_250 : decode cL_tries 250 = .ok (.aload_n 0, 1) := by decide +kernel
theorem dL_tries_251 : decode cL_tries 251 = .ok (.iload 4, 2) := by decide +kernel
theorem dL_tries_253 : decode cL_tries 253 = .ok (.invokestatic 36, 3) := by decide +kernel
theorem dL_tries_256 : decode cL_tries 256 = .ok (.i2l, 1) := by decide +kernel
theorem dL_tries_257 : decode cL_tries 257 = .ok (.invokevirtual 39, 3) := by decide +kernel
theorem dL_tries_260 : decode cL_tries 260 = .ok (.pop, 1) := by decide +kernel
theorem dL_tries_261 : decode cL_tries 261 = .ok (.aload_n 0, 1) := by decide +kernel
theorem dL_tries_262 : decode cL_tries 262 = .ok (.iload_n 1, 1) := by decide +kernel
theorem dL_tries_263 : decode cL_tries 263 = .ok (.bipush 7, 2) := by decide +kernel
theorem dL_tries_265 : decode cL_tries 265 = .ok (.ishr, 1) := by decide +kernel
theorem dL_tries_266 : decode cL_tries 266 = .ok (.bipush 8, 2) := by decide +kernel
theorem dL_tries_268 : decode cL_tries 268 = .ok (.invokestatic 19, 3) := by decide +kernel
theorem dL_tries_271 : decode cL_tries 271 = .ok (.invokestatic 36, 3) := by decide +kernel
theorem dL_tries_274 : decode cL_tries 274 = .ok (.i2l, 1) := by decide +kernel
theorem dL_tries_275 : decode cL_tries 275 = .ok (.invokevirtual 39, 3) := by decide +kernel
theorem dL_tries_278 : decode cL_tries 278 = .ok (.pop, 1) := by decide +kernel
theorem dL_tries_279 : decode cL_tries 279 = .ok (.aload_n 0, 1) := by decide +kernel
theorem dL_tries_280 : decode cL_tries 280 = .ok (.iload_n 1, 1) := by decide +kernel
theorem dL_tries_281 : decode cL_tries 281 = .ok (.bipush 10, 2) := by decide +kernel
theorem dL_tries_283 : decode cL_tries 283 = .ok (.ishr, 1) := by decide +kernel
theorem dL_tries_284 : decode cL_tries 284 = .ok (.iconst 1, 1) := by decide +kernel
theorem dL_tries_285 : decode cL_tries 285 = .ok (.iand, 1) := by decide +kernel
theorem dL_tries_286 : decode cL_tries 286 = .ok (.iload_n 1, 1) := by decide +kernel
theorem dL_tries_287 : decode cL_tries 287 = .ok (.bipush 11, 2) := by decide +kernel
theorem dL_tries_289 : decode cL_tries 289 = .ok (.ishr, 1) := by decide +kernel
theorem dL_tries_290 : decode cL_tries 290 = .ok (.bipush 12, 2) := by decide +kernel
theorem dL_tries_292 : decode cL_tries 292 = .ok (.invokestatic 19, 3) := by decide +kernel
theorem dL_tries_295 : decode cL_tries 295 = .ok (.iload 5, 2) := by decide +kernel
theorem dL_tries_297 : decode cL_tries 297 = .ok (.invokevirtual 108, 3) := by decide +kernel
theorem dL_tries_300 : decode cL_tries 300 = .ok (.istore 9, 2) := by decide +kernel
theorem dL_tries_302 : decode cL_tries 302 = .ok (.iconst 1, 1) := by decide +kernel
theorem dL_tries_303 : decode cL_tries 303 = .ok (.iload_n 1, 1) := by decide +kernel
theorem dL_tries_304 : decode cL_tries 304 = .ok (.bipush 15, 2) := by decide +kernel
theorem dL_tries_306 : decode cL_tries 306 = .ok (.ishr, 1) := by decide +kernel
theorem dL_tries_307 : decode cL_tries 307 = .ok (.iconst 4, 1) := by decide +kernel
theorem dL_tries_308 : decode cL_tries 308 = .ok (.invokestatic 19, 3) := by decide +kernel
theorem dL_tries_311 : decode cL_tries 311 = .ok (.iadd, 1) := by decide +kernel
theorem dL_tries_312 : decode cL_tries 312 = .ok (.istore 10, 2) := by decide +kernel
theorem dL_tries_314 : decode cL_tries 314 = .ok (.aload_n 0, 1) := by decide +kernel
theorem dL_tries_315 : decode cL_tries 315 = .ok (.iload_n 1, 1) := by decide +kernel
theorem dL_tries_316 : decode cL_tries 316 = .ok (.bipush 10, 2) := by decide +kernel
theorem dL_tries_318 : decode cL_tries 318 = .ok (.ishr, 1) := by decide +kernel
theorem dL_tries_319 : decode cL_tries 319 = .ok (.iconst 1, 1) := by decide +kernel
theorem dL_tries_320 : decode cL_tries 320 = .ok (.iand, 1) := by decide +kernel
theorem dL_tries_321 : decode cL_tries 321 = .ok (.iload_n 1, 1) := by decide +kernel
theorem dL_tries_322 : decode cL_tries 322 = .ok (.bipush 11, 2) := by decide +kernel
theorem dL_tries_324 : decode cL_tries 324 = .ok (.ishr, 1) := by decide +kernel
theorem dL_tries_325 : decode cL_tries 325 = .ok (.bipush 12, 2) := by decide +kernel
theorem dL_tries_327 : decode cL_tries 327 = .ok (.invokestatic 19, 3) := by decide +kernel
theorem dL_tries_330 : decode cL_tries 330 = .ok (.iload 10, 2) := by decide +kernel
theorem dL_tries_332 : decode cL_tries 332 = .ok (.iload 5, 2) := by decide +kernel
theorem dL_tries_334 : decode cL_tries 334 = .ok (.invokevirtual 43, 3) := by decide +kernel
theorem dL_tries_337 : decode cL_tries 337 = .ok (.istore 11, 2) := by decide +kernel
theorem dL_tries_339 : decode cL_tries 339 = .ok (.iload 6, 2) := by decide +kernel
theorem dL_tries_341 : decode cL_tries 341 = .ok (.ifCond .eq 47, 3) := by decide +kernel
theorem dL_tries_344 : decode cL_tries 344 = .ok (.iload 9, 2) := by decide +kernel
theorem dL_tries_346 : decode cL_tries 346 = .ok (.iload 10, 2) := by decide +kernel
theorem dL_tries_348 : decode cL_tries 348 = .ok (.ishr, 1) := by decide +kernel
theorem dL_tries_349 : decode cL_tries 349 = .ok (.iconst 1, 1) := by decide +kernel
theorem dL_tries_350 : decode cL_tries 350 = .ok (.iand, 1) := by decide +kernel
theorem dL_tries_351 : decode cL_tries 351 = .ok (.iload 11, 2) := by decide +kernel
theorem dL_tries_353 : decode cL_tries 353 = .ok (.ifCond .lt 7, 3) := by decide +kernel
theorem dL_tries_356 : decode cL_tries 356 = .ok (.iconst 1, 1) := by decide +kernel
theorem dL_tries_357 : decode cL_tries 357 = .ok (.goto 4, 3) := by decide +kernel
theorem dL_tries_360 : decode cL_tries 360 = .ok (.iconst 0, 1) := by decide +kernel
theorem dL_tries_361 : decode cL_tries 361 = .ok (.if_icmp .ne 27, 3) := by decide +kernel
theorem dL_tries_364 : decode cL_tries 364 = .ok (.iload 11, 2) := by decide +kernel
theorem dL_tries_366 : decode cL_tries 366 = .ok (.ifCond .ge 18, 3) := by decide +kernel
theorem dL_tries_369 : decode cL_tries 369 = .ok (.iload 11, 2) := by decide +kernel
theorem dL_tries_371 : decode cL_tries 371 = .ok (.bipush (-5), 2) := by decide +kernel
theorem dL_tries_373 : decode cL_tries 373 = .ok (.if_icmp .ne 15, 3) := by decide +kernel
theorem dL_tries_376 : decode cL_tries 376 = .ok (.aload_n 0, 1) := by decide +kernel
theorem dL_tries_377 : decode cL_tries 377 = .ok (.invokevirtual 47, 3) := by decide +kernel
theorem dL_tries_380 : decode cL_tries 380 = .ok (.iconst 2, 1) := by decide +kernel
theorem dL_tries_381 : decode cL_tries 381 = .ok (.if_icmp .ne 7, 3) := by decide +kernel
theorem dL_tries_384 : decode cL_tries 384 = .ok (.iconst 1, 1) := by decide +kernel
theorem dL_tries_385 : decode cL_tries 385 = .ok (.goto 4, 3) := by decide +kernel
theorem dL_tries_388 : decode cL_tries 388 = .ok (.iconst 0, 1) := by decide +kernel
theorem dL_tries_389 : decode cL_tries 389 = .ok (.istore 6, 2) := by decide +kernel
theorem dL_tries_391 : decode cL_tries 391 = .ok (.iload 6, 2) := by decide +kernel
theorem dL_tries_393 : decode cL_tries 393 = .ok (.ifCond .eq 49, 3) := by decide +kernel
theorem dL_tries_396 : decode cL_tries 396 = .ok (.iload 11, 2) := by decide +kernel
theorem dL_tries_398 : decode cL_tries 398 = .ok (.ifCond .lt 31, 3) := by decide +kernel
theorem dL_tries_401 : decode cL_tries 401 = .ok (.aload_n 0, 1) := by decide +kernel
theorem dL_tries_402 : decode cL_tries 402 = .ok (.iconst 1, 1) := by decide +kernel
theorem dL_tries_403 : decode cL_tries 403 = .ok (.invokevirtual 13, 3) := by decide +kernel
theorem dL_tries_406 : decode cL_tries 406 = .ok (.iload_n 2, 1) := by decide +kernel
theorem dL_tries_407 : decode cL_tries 407 = .ok (.iload 11, 2) := by decide +kernel
theorem dL_tries_409 : decode cL_tries 409 = .ok (.iadd, 1) := by decide +kernel
theorem dL_tries_410 : decode cL_tries 410 = .ok (.if_icmp .ne 32, 3) := by decide +kernel
theorem dL_tries_413 : decode cL_tries 413 = .ok (.aload_n 0, 1) := by decide +kernel
theorem dL_tries_414 : decode cL_tries 414 = .ok (.bipush 8, 2) := by decide +kernel
theorem dL_tries_416 : decode cL_tries 416 = .ok (.invokevirtual 13, 3) := by decide +kernel
theorem dL_tries_419 : decode cL_tries 419 = .ok (.ifCond .ne 23, 3) := by decide +kernel
theorem dL_tries_422 : decode cL_tries 422 = .ok (.aload_n 0, 1) := by decide +kernel
theorem dL_tries_423 : decode cL_tries 423 = .ok (.invokevirtual 105, 3) := by decide +kernel
theorem dL_tries_426 : decode cL_tries 426 = .ok (.ifCond .lt 16, 3) := by decide +kernel
theorem dL_tries_429 : decode cL_tries 429 = .ok (.aload_n 0, 1) := by decide +kernel
theorem dL_tries_430 : decode cL_tries 430 = .ok (.iconst 1, 1) := by decide +kernel
theorem dL_tries_431 : decode cL_tries 431 = .ok (.invokevirtual 13, 3) := by decide +kernel
theorem dL_tries_434 : decode cL_tries 434 = .ok (.iload_n 2, 1) := by decide +kernel
theorem dL_tries_435 : decode cL_tries 435 = .ok (.if_icmp .ne 7, 3) := by decide +kernel
theorem dL_tries_438 : decode cL_tries 438 = .ok (.iconst 1, 1) := by decide +kernel
theorem dL_tries_439 : decode cL_tries 439 = .ok (.goto 4, 3) := by decide +kernel
theorem dL_tries_442 : decode cL_tries 442 = .ok (.iconst 0, 1) := by decide +kernel
theorem dL_tries_443 : decode cL_tries 443 = .ok (.ireturn, 1) := by decide +kernel
theorem dL_law_0 : decode cL_law 0 = .ok (.new 14, 3) := by decide +kernel
theorem dL_law_3 : decode cL_law 3 = .ok (.dup, 1) := by decide +kernel
theorem dL_law_4 : decode cL_law 4 = .ok (.invokespecial 111, 3) := by decide +kernel
theorem dL_law_7 : decode cL_law 7 = .ok (.astore_n 1, 1) := by decide +kernel
theorem dL_law_8 : decode cL_law 8 = .ok (.aload_n 1, 1) := by decide +kernel
theorem dL_law_9 : decode cL_law 9 = .ok (.iconst 0, 1) := by decide +kernel
theorem dL_law_10 : decode cL_law 10 = .ok (.invokestatic 112, 3) := by decide +kernel
theorem dL_law_13 : decode cL_law 13 = .ok (.ifCond .eq 16, 3) := by decide +kernel
theorem dL_law_16 : decode cL_law 16 = .ok (.aload_n 1, 1) := by decide +kernel
theorem dL_law_17 : decode cL_law 17 = .ok (.invokevirtual 105, 3) := by decide +kernel
theorem dL_law_20 : decode cL_law 20 = .ok (.bipush (-5), 2) := by decide +kernel
theorem dL_law_22 : decode cL_law 22 = .ok (.if_icmp .ne 7, 3) := by decide +kernel
theorem dL_law_25 : decode cL_law 25 = .ok (.iconst 1, 1) := by decide +kernel
theorem dL_law_26 : decode cL_law 26 = .ok (.goto 4, 3) := by decide +kernel
theorem dL_law_29 : decode cL_law 29 = .ok (.iconst 0, 1) := by decide +kernel
theorem dL_law_30 : decode cL_law 30 = .ok (.istore_n 2, 1) := by decide +kernel
theorem dL_law_31 : decode cL_law 31 = .ok (.aload_n 0, 1) := by decide +kernel
theorem dL_law_32 : decode cL_law 32 = .ok (.arraylength, 1) := by decide +kernel
theorem dL_law_33 : decode cL_law 33 = .ok (.iconst 3, 1) := by decide +kernel
theorem dL_law_34 : decode cL_law 34 = .ok (.idiv, 1) := by decide +kernel
theorem dL_law_35 : decode cL_law 35 = .ok (.bipush 24, 2) := by decide +kernel
theorem dL_law_37 : decode cL_law 37 = .ok (.if_icmp .le 8, 3) := by decide +kernel
theorem dL_law_40 : decode cL_law 40 = .ok (.bipush 24, 2) := by decide +kernel
theorem dL_law_42 : decode cL_law 42 = .ok (.goto 7, 3) := by decide +kernel
theorem dL_law_45 : decode cL_law 45 = .ok (.aload_n 0, 1) := by decide +kernel
theorem dL_law_46 : decode cL_law 46 = .ok (.arraylength, 1) := by decide +kernel
theorem dL_law_47 : decode cL_law 47 = .ok (.iconst 3, 1) := by decide +kernel
theorem dL_law_48 : decode cL_law 48 = .ok (.idiv, 1) := by decide +kernel
theorem dL_law_49 : decode cL_law 49 = .ok (.istore_n 3, 1) := by decide +kernel
theorem dL_law_50 : decode cL_law 50 = .ok (.iconst 0, 1) := by decide +kernel
theorem dL_law_51 : decode cL_law 51 = .ok (.istore 4, 2) := by decide +kernel
theorem dL_law_53 : decode cL_law 53 = .ok (.iload 4, 2) := by decide +kernel
theorem dL_law_55 : decode cL_law 55 = .ok (.iload_n 3, 1) := by decide +kernel
theorem dL_law_56 : decode cL_law 56 = .ok (.if_icmp .ge 141, 3) := by decide +kernel
theorem dL_law_59 : decode cL_law 59 = .ok (.iload_n 2, 1) := by decide +kernel
theorem dL_law_60 : decode cL_law 60 = .ok (.ifCond .eq 137, 3) := by decide +kernel
theorem dL_law_63 : decode cL_law 63 = .ok (.aload_n 1, 1) := by decide +kernel
theorem dL_law_64 : decode cL_law 64 = .ok (.bipush 9, 2) := by decide +kernel
theorem dL_law_66 : decode cL_law 66 = .ok (.invokevirtual 13, 3) := by decide +kernel
theorem dL_law_69 : decode cL_law 69 = .ok (.istore 5, 2) := by decide +kernel
theorem dL_law_71 : decode cL_law 71 = .ok (.aload_n 1, 1) := by decide +kernel
theorem dL_law_72 : decode cL_law 72 = .ok (.aload_n 0, 1) := by decide +kernel
theorem dL_law_73 : decode cL_law 73 = .ok (.iconst 3, 1) := by decide +kernel
theorem dL_law_74 : decode cL_law 74 = .ok (.iload 4, 2) := by decide +kernel
theorem dL_law_76 : decode cL_law 76 = .ok (.imul, 1) := by decide +kernel
theorem dL_law_77 : decode cL_law 77 = .ok (.invokestatic 116, 3) := by decide +kernel
theorem dL_law_80 : decode cL_law 80 = .ok (.bipush 16, 2) := by decide +kernel
theorem dL_law_82 : decode cL_law 82 = .ok (.invokestatic 19, 3) := by decide +kernel
theorem dL_law_85 : decode cL_law 85 = .ok (.aload_n 0, 1) := by decide +kernel
theorem dL_law_86 : decode cL_law 86 = .ok (.iconst 3, 1) := by decide +kernel
theorem dL_law_87 : decode cL_law 87 = .ok (.iload 4, 2) := by decide +kernel
theorem dL_law_89 : decode cL_law 89 = .ok (.imul, 1) := by decide +kernel
theorem dL_law_90 : decode cL_law 90 = .ok (.iconst 1, 1) := by decide +kernel
theorem dL_law_91 : decode cL_law 91 = .ok (.iadd, 1) := by decide +kernel
theorem dL_law_92 : decode cL_law 92 = .ok (.invokestatic 116, 3) := by decide +kernel
theorem dL_law_95 : decode cL_law 95 = .ok (.aload_n 0, 1) := by decide +kernel
theorem dL_law_96 : decode cL_law 96 = .ok (.iconst 3, 1) := by decide +kernel
theorem dL_law_97 : decode cL_law 97 = .ok (.iload 4, 2) := by decide +kernel
theorem dL_law_99 : decode cL_law 99 = .ok (.imul, 1) := by decide +kernel
theorem dL_law_100 : decode cL_law 100 = .ok (.iconst 2, 1) := by decide +kernel
theorem dL_law_101 : decode cL_law 101 = .ok (.iadd, 1) := by decide +kernel
theorem dL_law_102 : decode cL_law 102 = .ok (.invokestatic 116, 3) := by decide +kernel
theorem dL_law_105 : decode cL_law 105 = .ok (.invokestatic 120, 3) := by decide +kernel
theorem dL_law_108 : decode cL_law 108 = .ok (.istore 6, 2) := by decide +kernel
theorem dL_law_110 : decode cL_law 110 = .ok (.aload_n 1, 1) := by decide +kernel
theorem dL_law_111 : decode cL_law 111 = .ok (.bipush 9, 2) := by decide +kernel
theorem dL_law_113 : decode cL_law 113 = .ok (.invokevirtual 13, 3) := by decide +kernel
theorem dL_law_116 : decode cL_law 116 = .ok (.iload 6, 2) := by decide +kernel
theorem dL_law_118 : decode cL_law 118 = .ok (.ifCond .ge 8, 3) := by decide +kernel
theorem dL_law_121 : decode cL_law 121 = .ok (.iload 5, 2) := by decide +kernel
theorem dL_law_123 : decode cL_law 123 = .ok (.goto 19, 3) := by decide +kernel
theorem dL_law_126 : decode cL_law 126 = .ok (.iload 5, 2) := by decide +kernel
theorem dL_law_128 : decode cL_law 128 = .ok (.bipush 6, 2) := by decide +kernel
theorem dL_law_130 : decode cL_law 130 = .ok (.if_icmp .ne 8, 3) := by decide +kernel
theorem dL_law_133 : decode cL_law 133 = .ok (.bipush 6, 2) := by decide +kernel
theorem dL_law_135 : decode cL_law 135 = .ok (.goto 7, 3) := by decide +kernel
theorem dL_law_138 : decode cL_law 138 = .ok (.iload 5, 2) := by decide +kernel
theorem dL_law_140 : decode cL_law 140 = .ok (.iconst 1, 1) := by decide +kernel
theorem dL_law_141 : decode cL_law 141 = .ok (.iadd, 1) := by decide +kernel
theorem dL_law_142 : decode cL_law 142 = .ok (.if_icmp .ne 47, 3) := by decide +kernel
theorem dL_law_145 : decode cL_law 145 = .ok (.aload_n 1, 1) := by decide +kernel
theorem dL_law_146 : decode cL_law 146 = .ok (.aload_n 0, 1) := by decide +kernel
theorem dL_law_147 : decode cL_law 147 = .ok (.iconst 3, 1) := by decide +kernel
theorem dL_law_148 : decode cL_law 148 = .ok (.iload 4, 2) := by decide +kernel
theorem dL_law_150 : decode cL_law 150 = .ok (.imul, 1) := by decide +kernel
theorem dL_law_151 : decode cL_law 151 = .ok (.invokestatic 116, 3) := by decide +kernel
theorem dL_law_154 : decode cL_law 154 = .ok (.invokestatic 112, 3) := by decide +kernel
theorem dL_law_157 : decode cL_law 157 = .ok (.ifCond .eq 32, 3) := by decide +kernel
theorem dL_law_160 : decode cL_law 160 = .ok (.iload 4, 2) := by decide +kernel
theorem dL_law_162 : decode cL_law 162 = .ok (.iconst 4, 1) := by decide +kernel
theorem dL_law_163 : decode cL_law 163 = .ok (.irem, 1) := by decide +kernel
theorem dL_law_164 : decode cL_law 164 = .ok (.iconst 3, 1) := by decide +kernel
theorem dL_law_165 : decode cL_law 165 = .ok (.if_icmp .ne 20, 3) := by decide +kernel
theorem dL_law_168 : decode cL_law 168 = .ok (.aload_n 1, 1) := by decide +kernel
theorem dL_law_169 : decode cL_law 169 = .ok (.aload_n 0, 1) := by decide +kernel
theorem dL_law_170 : decode cL_law 170 = .ok (.iconst 3, 1) := by decide +kernel
theorem dL_law_171 : decode cL_law 171 = .ok (.iload 4, 2) := by decide +kernel
theorem dL_law_173 : decode cL_law 173 = .ok (.imul, 1) := by decide +kernel
theorem dL_law_174 : decode cL_law 174 = .ok (.iconst 2, 1) := by decide +kernel
theorem dL_law_175 : decode cL_law 175 = .ok (.iadd, 1) := by decide +kernel
theorem dL_law_176 : decode cL_law 176 = .ok (.invokestatic 116, 3) := by decide +kernel
theorem dL_law_179 : decode cL_law 179 = .ok (.invokestatic 124, 3) := by decide +kernel
theorem dL_law_182 : decode cL_law 182 = .ok (.ifCond .eq 7, 3) := by decide +kernel
theorem dL_law_185 : decode cL_law 185 = .ok (.iconst 1, 1) := by decide +kernel
theorem dL_law_186 : decode cL_law 186 = .ok (.goto 4, 3) := by decide +kernel
theorem dL_law_189 : decode cL_law 189 = .ok (.iconst 0, 1) := by decide +kernel
theorem dL_law_190 : decode cL_law 190 = .ok (.istore_n 2, 1) := by decide +kernel
theorem dL_law_191 : decode cL_law 191 = .ok (.iinc 4 1, 3) := by decide +kernel
theorem dL_law_194 : decode cL_law 194 = .ok (.goto (-141), 3) := by decide +kernel
theorem dL_law_197 : decode cL_law 197 = .ok (.iload_n 2, 1) := by decide +kernel
theorem dL_law_198 : decode cL_law 198 = .ok (.ireturn, 1) := by decide +kernel
