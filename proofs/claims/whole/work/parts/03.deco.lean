theorem dX0_init_0 : decode cX0_init 0 = .ok (.aload_n 0, 1) := by decide +kernel
theorem dX0_init_1 : decode cX0_init 1 = .ok (.invokespecial 3, 3) := by decide +kernel
theorem dX0_init_4 : decode cX0_init 4 = .ok (.aload_n 0, 1) := by decide +kernel
theorem dX0_init_5 : decode cX0_init 5 = .ok (.bipush 6, 2) := by decide +kernel
theorem dX0_init_7 : decode cX0_init 7 = .ok (.anewarray 9, 3) := by decide +kernel
theorem dX0_init_10 : decode cX0_init 10 = .ok (.putfield 11, 3) := by decide +kernel
theorem dX0_init_13 : decode cX0_init 13 = .ok (.aload_n 0, 1) := by decide +kernel
theorem dX0_init_14 : decode cX0_init 14 = .ok (.aload_n 1, 1) := by decide +kernel
theorem dX0_init_15 : decode cX0_init 15 = .ok (.putfield 17, 3) := by decide +kernel
theorem dX0_init_18 : decode cX0_init 18 = .ok (.return_, 1) := by decide +kernel
theorem dX0_record_0 : decode cX0_record 0 = .ok (.aload_n 0, 1) := by decide +kernel
theorem dX0_record_1 : decode cX0_record 1 = .ok (.getfield 21, 3) := by decide +kernel
theorem dX0_record_4 : decode cX0_record 4 = .ok (.aload_n 0, 1) := by decide +kernel
theorem dX0_record_5 : decode cX0_record 5 = .ok (.getfield 25, 3) := by decide +kernel
theorem dX0_record_8 : decode cX0_record 8 = .ok (.iadd, 1) := by decide +kernel
theorem dX0_record_9 : decode cX0_record 9 = .ok (.bipush 6, 2) := by decide +kernel
theorem dX0_record_11 : decode cX0_record 11 = .ok (.invokestatic 28, 3) := by decide +kernel
theorem dX0_record_14 : decode cX0_record 14 = .ok (.istore_n 2, 1) := by decide +kernel
theorem dX0_record_15 : decode cX0_record 15 = .ok (.aload_n 0, 1) := by decide +kernel
theorem dX0_record_16 : decode cX0_record 16 = .ok (.getfield 11, 3) := by decide +kernel
theorem dX0_record_19 : decode cX0_record 19 = .ok (.iload_n 2, 1) := by decide +kernel
theorem dX0_record_20 : decode cX0_record 20 = .ok (.aaload, 1) := by decide +kernel
theorem dX0_record_21 : decode cX0_record 21 = .ok (.astore_n 3, 1) := by decide +kernel
theorem dX0_record_22 : decode cX0_record 22 = .ok (.aload_n 3, 1) := by decide +kernel
theorem dX0_record_23 : decode cX0_record 23 = .ok (.ifnonnull 22, 3) := by decide +kernel
theorem dX0_record_26 : decode cX0_record 26 = .ok (.new 9, 3) := by decide +kernel
theorem dX0_record_29 : decode cX0_record 29 = .ok (.dup, 1) := by decide +kernel
theorem dX0_record_30 : decode cX0_record 30 = .ok (.aload_n 0, 1) := by decide +kernel
theorem dX0_record_31 : decode cX0_record 31 = .ok (.getfield 17, 3) := by decide +kernel
theorem dX0_record_34 : decode cX0_record 34 = .ok (.invokespecial 34, 3) := by decide +kernel
theorem dX0_record_37 : decode cX0_record 37 = .ok (.astore_n 3, 1) := by decide +kernel
theorem dX0_record_38 : decode cX0_record 38 = .ok (.aload_n 0, 1) := by decide +kernel
theorem dX0_record_39 : decode cX0_record 39 = .ok (.getfield 11, 3) := by decide +kernel
theorem dX0_record_42 : decode cX0_record 42 = .ok (.iload_n 2, 1) := by decide +kernel
theorem dX0_record_43 : decode cX0_record 43 = .ok (.aload_n 3, 1) := by decide +kernel
theorem dX0_record_44 : decode cX0_record 44 = .ok (.aastore, 1) := by decide +kernel
theorem dX0_record_45 : decode cX0_record 45 = .ok (.aload_n 3, 1) := by decide +kernel
theorem dX0_record_46 : decode cX0_record 46 = .ok (.aload_n 1, 1) := by decide +kernel
theorem dX0_record_47 : decode cX0_record 47 = .ok (.invokevirtual 37, 3) := by decide +kernel
theorem dX0_record_50 : decode cX0_record 50 = .ok (.aload_n 0, 1) := by decide +kernel
theorem dX0_record_51 : decode cX0_record 51 = .ok (.getfield 25, 3) := by decide +kernel
theorem dX0_record_54 : decode cX0_record 54 = .ok (.bipush 6, 2) := by decide +kernel
theorem dX0_record_56 : decode cX0_record 56 = .ok (.if_icmp .ge 16, 3) := by decide +kernel
theorem dX0_record_59 : decode cX0_record 59 = .ok (.aload_n 0, 1) := by decide +kernel
theorem dX0_record_60 : decode cX0_record 60 = .ok (.dup, 1) := by decide +kernel
theorem dX0_record_61 : decode cX0_record 61 = .ok (.getfield 25, 3) := by decide +kernel
theorem dX0_record_64 : decode cX0_record 64 = .ok (.iconst 1, 1) := by decide +kernel
theorem dX0_record_65 : decode cX0_record 65 = .ok (.iadd, 1) := by decide +kernel
theorem dX0_record_66 : decode cX0_record 66 = .ok (.putfield 25, 3) := by decide +kernel
theorem dX0_record_69 : decode cX0_record 69 = .ok (.goto 18, 3) := by decide +kernel
theorem dX0_record_72 : decode cX0_record 72 = .ok (.aload_n 0, 1) := by decide +kernel
theorem dX0_record_73 : decode cX0_record 73 = .ok (.aload_n 0, 1) := by decide +kernel
theorem dX0_record_74 : decode cX0_record 74 = .ok (.getfield 21, 3) := by decide +kernel
theorem dX0_record_77 : decode cX0_record 77 = .ok (.iconst 1, 1) := by decide +kernel
theorem dX0_record_78 : decode cX0_record 78 = .ok (.iadd, 1) := by decide +kernel
theorem dX0_record_79 : decode cX0_record 79 = .ok (.bipush 6, 2) := by decide +kernel
theorem dX0_record_81 : decode cX0_record 81 = .ok (.invokestatic 28, 3) := by decide +kernel
theorem dX0_record_84 : decode cX0_record 84 = .ok (.putfield 21, 3) := by decide +kernel
theorem dX0_record_87 : decode cX0_record 87 = .ok (.return_, 1) := by decide +kernel
theorem dX0_takeBack_0 : decode cX0_takeBack 0 = .ok (.aload_n 0, 1) := by decide +kernel
theorem dX0_takeBack_1 : decode cX0_takeBack 1 = .ok (.getfield 25, 3) := by decide +kernel
theorem dX0_takeBack_4 : decode cX0_takeBack 4 = .ok (.ifCond .gt 5, 3) := by decide +kernel
theorem dX0_takeBack_7 : decode cX0_takeBack 7 = .ok (.iconst 0, 1) := by decide +kernel
theorem dX0_takeBack_8 : decode cX0_takeBack 8 = .ok (.ireturn, 1) := by decide +kernel
theorem dX0_takeBack_9 : decode cX0_takeBack 9 = .ok (.aload_n 0, 1) := by decide +kernel
theorem dX0_takeBack_10 : decode cX0_takeBack 10 = .ok (.getfield 11, 3) := by decide +kernel
theorem dX0_takeBack_13 : decode cX0_takeBack 13 = .ok (.aload_n 0, 1) := by decide +kernel
theorem dX0_takeBack_14 : decode cX0_takeBack 14 = .ok (.getfield 21, 3) := by decide +kernel
theorem dX0_takeBack_17 : decode cX0_takeBack 17 = .ok (.aload_n 0, 1) := by decide +kernel
theorem dX0_takeBack_18 : decode cX0_takeBack 18 = .ok (.getfield 25, 3) := by decide +kernel
theorem dX0_takeBack_21 : decode cX0_takeBack 21 = .ok (.iadd, 1) := by decide +kernel
theorem dX0_takeBack_22 : decode cX0_takeBack 22 = .ok (.iconst 1, 1) := by decide +kernel
theorem dX0_takeBack_23 : decode cX0_takeBack 23 = .ok (.isub, 1) := by decide +kernel
theorem dX0_takeBack_24 : decode cX0_takeBack 24 = .ok (.bipush 6, 2) := by decide +kernel
theorem dX0_takeBack_26 : decode cX0_takeBack 26 = .ok (.invokestatic 28, 3) := by decide +kernel
theorem dX0_takeBack_29 : decode cX0_takeBack 29 = .ok (.aaload, 1) := by decide +kernel
theorem dX0_takeBack_30 : decode cX0_takeBack 30 = .ok (.astore_n 2, 1) := by decide +kernel
theorem dX0_takeBack_31 : decode cX0_takeBack 31 = .ok (.aload_n 2, 1) := by decide +kernel
theorem dX0_takeBack_32 : decode cX0_takeBack 32 = .ok (.ifnonnull 5, 3) := by decide +kernel
theorem dX0_takeBack_35 : decode cX0_takeBack 35 = .ok (.iconst 0, 1) := by decide +kernel
theorem dX0_takeBack_36 : decode cX0_takeBack 36 = .ok (.ireturn, 1) := by decide +kernel
theorem dX0_takeBack_37 : decode cX0_takeBack 37 = .ok (.aload_n 1, 1) := by decide +kernel
theorem dX0_takeBack_38 : decode cX0_takeBack 38 = .ok (.aload_n 2, 1) := by decide +kernel
theorem dX0_takeBack_39 : decode cX0_takeBack 39 = .ok (.invokevirtual 37, 3) := by decide +kernel
theorem dX0_takeBack_42 : decode cX0_takeBack 42 = .ok (.aload_n 0, 1) := by decide +kernel
theorem dX0_takeBack_43 : decode cX0_takeBack 43 = .ok (.dup, 1) := by decide +kernel
theorem dX0_takeBack_44 : decode cX0_takeBack 44 = .ok (.getfield 25, 3) := by decide +kernel
theorem dX0_takeBack_47 : decode cX0_takeBack 47 = .ok (.iconst 1, 1) := by decide +kernel
theorem dX0_takeBack_48 : decode cX0_takeBack 48 = .ok (.isub, 1) := by decide +kernel
theorem dX0_takeBack_49 : decode cX0_takeBack 49 = .ok (.putfield 25, 3) := by decide +kernel
theorem dX0_takeBack_52 : decode cX0_takeBack 52 = .ok (.iconst 1, 1) := by decide +kernel
theorem dX0_takeBack_53 : decode cX0_takeBack 53 = .ok (.ireturn, 1) := by decide +kernel
theorem dX1_init_0 : decode cX1_init 0 = .ok (.aload_n 0, 1) := by decide +kernel
theorem dX1_init_1 : decode cX1_init 1 = .ok (.invokespecial 3, 3) := by decide +kernel
theorem dX1_init_4 : decode cX1_init 4 = .ok (.aload_n 0, 1) := by decide +kernel
theorem dX1_init_5 : decode cX1_init 5 = .ok (.bipush 80, 2) := by decide +kernel
theorem dX1_init_7 : decode cX1_init 7 = .ok (.newarray .char, 2) := by decide +kernel
theorem dX1_init_9 : decode cX1_init 9 = .ok (.putfield 9, 3) := by decide +kernel
theorem dX1_init_12 : decode cX1_init 12 = .ok (.return_, 1) := by decide +kernel
theorem dX1_empty_0 : decode cX1_empty 0 = .ok (.aload_n 0, 1) := by decide +kernel
theorem dX1_empty_1 : decode cX1_empty 1 = .ok (.iconst 0, 1) := by decide +kernel
theorem dX1_empty_2 : decode cX1_empty 2 = .ok (.putfield 15, 3) := by decide +kernel
theorem dX1_empty_5 : decode cX1_empty 5 = .ok (.return_, 1) := by decide +kernel
theorem dX1_append_0 : decode cX1_append 0 = .ok (.lload_n 1, 1) := by decide +kernel
theorem dX1_append_1 : decode cX1_append 1 = .ok (.invokestatic 19, 3) := by decide +kernel
theorem dX1_append_4 : decode cX1_append 4 = .ok (.istore_n 3, 1) := by decide +kernel
theorem dX1_append_5 : decode cX1_append 5 = .ok (.iload_n 3, 1) := by decide +kernel
theorem dX1_append_6 : decode cX1_append 6 = .ok (.ifCond .gt 6, 3) := by decide +kernel
theorem dX1_append_9 : decode cX1_append 9 = .ok (.bipush (-2), 2) := by decide +kernel
theorem dX1_append_11 : decode cX1_append 11 = .ok (.ireturn, 1) := by decide +kernel
theorem dX1_append_12 : decode cX1_append 12 = .ok (.aload_n 0, 1) := by decide +kernel
theorem dX1_append_13 : decode cX1_append 13 = .ok (.getfield 15, 3) := by decide +kernel
theorem dX1_append_16 : decode cX1_append 16 = .ok (.bipush 80, 2) := by decide +kernel
theorem dX1_append_18 : decode cX1_append 18 = .ok (.iload_n 3, 1) := by decide +kernel
theorem dX1_append_19 : decode cX1_append 19 = .ok (.isub, 1) := by decide +kernel
theorem dX1_append_20 : decode cX1_append 20 = .ok (.if_icmp .le 6, 3) := by decide +kernel
theorem dX1_append_23 : decode cX1_append 23 = .ok (.bipush (-4), 2) := by decide +kernel
theorem dX1_append_25 : decode cX1_append 25 = .ok (.ireturn, 1) := by decide +kernel
theorem dX1_append_26 : decode cX1_append 26 = .ok (.iconst 0, 1) := by decide +kernel
theorem dX1_append_27 : decode cX1_append 27 = .ok (.istore 4, 2) := by decide +kernel
theorem dX1_append_29 : decode cX1_append 29 = .ok (.iload 4, 2) := by decide +kernel
theorem dX1_append_31 : decode cX1_append 31 = .ok (.iload_n 3, 1) := by decide +kernel
theorem dX1_append_32 : decode cX1_append 32 = .ok (.if_icmp .ge 39, 3) := by decide +kernel
theorem dX1_append_35 : decode cX1_append 35 = .ok (.aload_n 0, 1) := by decide +kernel
theorem dX1_append_36 : decode cX1_append 36 = .ok (.getfield 9, 3) := by decide +kernel
theorem dX1_append_39 : decode cX1_append 39 = .ok (.aload_n 0, 1) := by decide +kernel
theorem dX1_append_40 : decode cX1_append 40 = .ok (.getfield 15, 3) := by decide +kernel
theorem dX1_append_43 : decode cX1_append 43 = .ok (.lload_n 1, 1) := by decide +kernel
theorem dX1_append_44 : decode cX1_append 44 = .ok (.iload_n 3, 1) := by decide +kernel
theorem dX1_append_45 : decode cX1_append 45 = .ok (.iconst 1, 1) := by decide +kernel
theorem dX1_append_46 : decode cX1_append 46 = .ok (.isub, 1) := by decide +kernel
theorem dX1_append_47 : decode cX1_append 47 = .ok (.iload 4, 2) := by decide +kernel
theorem dX1_append_49 : decode cX1_append 49 = .ok (.isub, 1) := by decide +kernel
theorem dX1_append_50 : decode cX1_append 50 = .ok (.invokestatic 23, 3) := by decide +kernel
theorem dX1_append_53 : decode cX1_append 53 = .ok (.i2c, 1) := by decide +kernel
theorem dX1_append_54 : decode cX1_append 54 = .ok (.castore, 1) := by decide +kernel
theorem dX1_append_55 : decode cX1_append 55 = .ok (.aload_n 0, 1) := by decide +kernel
theorem dX1_append_56 : decode cX1_append 56 = .ok (.dup, 1) := by decide +kernel
theorem dX1_append_57 : decode cX1_append 57 = .ok (.getfield 15, 3) := by decide +kernel
theorem dX1_append_60 : decode cX1_append 60 = .ok (.iconst 1, 1) := by decide +kernel
theorem dX1_append_61 : decode cX1_append 61 = .ok (.iadd, 1) := by decide +kernel
theorem dX1_append_62 : decode cX1_append 62 = .ok (.putfield 15, 3) := by decide +kernel
theorem dX1_append_65 : decode cX1_append 65 = .ok (.iinc 4 1, 3) := by decide +kernel
theorem dX1_append_68 : decode cX1_append 68 = .ok (.goto (-39), 3) := by decide +kernel
theorem dX1_append_71 : decode cX1_append 71 = .ok (.aload_n 0, 1) := by decide +kernel
theorem dX1_append_72 : decode cX1_append 72 = .ok (.getfield 15, 3) := by decide +kernel
theorem dX1_append_75 : decode cX1_append 75 = .ok (.ireturn, 1) := by decide +kernel
theorem dX1_signsIn_0 : decode cX1_signsIn 0 = .ok (.iconst 0, 1) := by decide +kernel
theorem dX1_signsIn_1 : decode cX1_signsIn 1 = .ok (.istore_n 2, 1) := by decide +kernel
theorem dX1_signsIn_2 : decode cX1_signsIn 2 = .ok (.iload_n 2, 1) := by decide +kernel
theorem dX1_signsIn_3 : decode cX1_signsIn 3 = .ok (.bipush 8, 2) := by decide +kernel
theorem dX1_signsIn_5 : decode cX1_signsIn 5 = .ok (.if_icmp .ge 38, 3) := by decide +kernel
theorem dX1_signsIn_8 : decode cX1_signsIn 8 = .ok (.lload_n 0, 1) := by decide +kernel
theorem dX1_signsIn_9 : decode cX1_signsIn 9 = .ok (.iload_n 2, 1) := by decide +kernel
theorem dX1_signsIn_10 : decode cX1_signsIn 10 = .ok (.invokestatic 23, 3) := by decide +kernel
theorem dX1_signsIn_13 : decode cX1_signsIn 13 = .ok (.ifCond .eq 30, 3) := by decide +kernel
theorem dX1_signsIn_16 : decode cX1_signsIn 16 = .ok (.lload_n 0, 1) := by decide +kernel
theorem dX1_signsIn_17 : decode cX1_signsIn 17 = .ok (.iload_n 2, 1) := by decide +kernel
theorem dX1_signsIn_18 : decode cX1_signsIn 18 = .ok (.invokestatic 23, 3) := by decide +kernel
theorem dX1_signsIn_21 : decode cX1_signsIn 21 = .ok (.istore_n 3, 1) := by decide +kernel
theorem dX1_signsIn_22 : decode cX1_signsIn 22 = .ok (.iload_n 3, 1) := by decide +kernel
theorem dX1_signsIn_23 : decode cX1_signsIn 23 = .ok (.bipush 33, 2) := by decide +kernel
theorem dX1_signsIn_25 : decode cX1_signsIn 25 = .ok (.if_icmp .lt 9, 3) := by decide +kernel
theorem dX1_signsIn_28 : decode cX1_signsIn 28 = .ok (.iload_n 3, 1) := by decide +kernel
theorem dX1_signsIn_29 : decode cX1_signsIn 29 = .ok (.bipush 126, 2) := by decide +kernel
theorem dX1_signsIn_31 : decode cX1_signsIn 31 = .ok (.if_icmp .le 6, 3) := by decide +kernel
theorem dX1_signsIn_34 : decode cX1_signsIn 34 = .ok (.bipush (-2), 2) := by decide +kernel
theorem dX1_signsIn_36 : decode cX1_signsIn 36 = .ok (.ireturn, 1) := by decide +kernel
theorem dX1_signsIn_37 : decode cX1_signsIn 37 = .ok (.iinc 2 1, 3) := by decide +kernel
theorem dX1_signsIn_40 : decode cX1_signsIn 40 = .ok (.goto (-38), 3) := by decide +kernel
theorem dX1_signsIn_43 : decode cX1_signsIn 43 = .ok (.iload_n 2, 1) := by decide +kernel
theorem dX1_signsIn_44 : decode cX1_signsIn 44 = .ok (.bipush 8, 2) := by decide +kernel
theorem dX1_signsIn_46 : decode cX1_signsIn 46 = .ok (.if_icmp .ge 18, 3) := by decide +kernel
theorem dX1_signsIn_49 : decode cX1_signsIn 49 = .ok (.lload_n 0, 1) := by decide +kernel
theorem dX1_signsIn_50 : decode cX1_signsIn 50 = .ok (.bipush 8, 2) := by decide +kernel
theorem dX1_signsIn_52 : decode cX1_signsIn 52 = .ok (.iload_n 2, 1) := by decide +kernel
theorem dX1_signsIn_53 : decode cX1_signsIn 53 = .ok (.imul, 1) := by decide +kernel
theorem dX1_signsIn_54 : decode cX1_signsIn 54 = .ok (.lushr, 1) := by decide +kernel
theorem dX1_signsIn_55 : decode cX1_signsIn 55 = .ok (.lconst 0, 1) := by decide +kernel
theorem dX1_signsIn_56 : decode cX1_signsIn 56 = .ok (.lcmp, 1) := by decide +kernel
theorem dX1_signsIn_57 : decode cX1_signsIn 57 = .ok (.ifCond .eq 7, 3) := by decide +kernel
theorem dX1_signsIn_60 : decode cX1_signsIn 60 = .ok (.iconst 1, 1) := by decide +kernel
theorem dX1_signsIn_61 : decode cX1_signsIn 61 = .ok (.goto 4, 3) := by decide +kernel
theorem dX1_signsIn_64 : decode cX1_signsIn 64 = .ok (.iconst 0, 1) := by decide +kernel
theorem dX1_signsIn_65 : decode cX1_signsIn 65 = .ok (.istore_n 3, 1) := by decide +kernel
theorem dX1_signsIn_66 : decode cX1_signsIn 66 = .ok (.iload_n 3, 1) := by decide +kernel
theorem dX1_signsIn_67 : decode cX1_signsIn 67 = .ok (.ifCond .eq 8, 3) := by decide +kernel
theorem dX1_signsIn_70 : decode cX1_signsIn 70 = .ok (.bipush (-2), 2) := by decide +kernel
theorem dX1_signsIn_72 : decode cX1_signsIn 72 = .ok (.goto 4, 3) := by decide +kernel
theorem dX1_signsIn_75 : decode cX1_signsIn 75 = .ok (.iload_n 2, 1) := by decide +kernel
theorem dX1_signsIn_76 : decode cX1_signsIn 76 = .ok (.ireturn, 1) := by decide +kernel
theorem dX1_codeIn_0 : decode cX1_codeIn 0 = .ok (.lload_n 0, 1) := by decide +kernel
theorem dX1_codeIn_1 : decode cX1_codeIn 1 = .ok (.bipush 8, 2) := by decide +kernel
theorem dX1_codeIn_3 : decode cX1_codeIn 3 = .ok (.iload_n 2, 1) := by decide +kernel
theorem dX1_codeIn_4 : decode cX1_codeIn 4 = .ok (.imul, 1) := by decide +kernel
theorem dX1_codeIn_5 : decode cX1_codeIn 5 = .ok (.lushr, 1) := by decide +kernel
theorem dX1_codeIn_6 : decode cX1_codeIn 6 = .ok (.ldc2_w 27, 3) := by decide +kernel
theorem dX1_codeIn_9 : decode cX1_codeIn 9 = .ok (.land, 1) := by decide +kernel
theorem dX1_codeIn_10 : decode cX1_codeIn 10 = .ok (.l2i, 1) := by decide +kernel
theorem dX1_codeIn_11 : decode cX1_codeIn 11 = .ok (.ireturn, 1) := by decide +kernel
theorem dX1_letterAt_0 : decode cX1_letterAt 0 = .ok (.iload_n 1, 1) := by decide +kernel
theorem dX1_letterAt_1 : decode cX1_letterAt 1 = .ok (.ifCond .lt 17, 3) := by decide +kernel
theorem dX1_letterAt_4 : decode cX1_letterAt 4 = .ok (.iload_n 1, 1) := by decide +kernel
theorem dX1_letterAt_5 : decode cX1_letterAt 5 = .ok (.aload_n 0, 1) := by decide +kernel
theorem dX1_letterAt_6 : decode cX1_letterAt 6 = .ok (.getfield 15, 3) := by decide +kernel
theorem dX1_letterAt_9 : decode cX1_letterAt 9 = .ok (.if_icmp .ge 9, 3) := by decide +kernel
theorem dX1_letterAt_12 : decode cX1_letterAt 12 = .ok (.iload_n 1, 1) := by decide +kernel
theorem dX1_letterAt_13 : decode cX1_letterAt 13 = .ok (.bipush 80, 2) := by decide +kernel
theorem dX1_letterAt_15 : decode cX1_letterAt 15 = .ok (.if_icmp .lt 6, 3) := by decide +kernel
theorem dX1_letterAt_18 : decode cX1_letterAt 18 = .ok (.bipush (-6), 2) := by decide +kernel
theorem dX1_letterAt_20 : decode cX1_letterAt 20 = .ok (.ireturn, 1) := by decide +kernel
theorem dX1_letterAt_21 : decode cX1_letterAt 21 = .ok (.ldc 29, 2) := by decide +kernel
theorem dX1_letterAt_23 : decode cX1_letterAt 23 = .ok (.aload_n 0, 1) := by decide +kernel
theorem dX1_letterAt_24 : decode cX1_letterAt 24 = .ok (.getfield 9, 3) := by decide +kernel
theorem dX1_letterAt_27 : decode cX1_letterAt 27 = .ok (.iload_n 1, 1) := by decide +kernel
theorem dX1_letterAt_28 : decode cX1_letterAt 28 = .ok (.caload, 1) := by decide +kernel
theorem dX1_letterAt_29 : decode cX1_letterAt 29 = .ok (.invokevirtual 31, 3) := by decide +kernel
theorem dX1_letterAt_32 : decode cX1_letterAt 32 = .ok (.istore_n 2, 1) := by decide +kernel
theorem dX1_letterAt_33 : decode cX1_letterAt 33 = .ok (.iload_n 2, 1) := by decide +kernel
theorem dX1_letterAt_34 : decode cX1_letterAt 34 = .ok (.ifCond .ge 8, 3) := by decide +kernel
theorem dX1_letterAt_37 : decode cX1_letterAt 37 = .ok (.bipush (-6), 2) := by decide +kernel
theorem dX1_letterAt_39 : decode cX1_letterAt 39 = .ok (.goto 4, 3) := by decide +kernel
theorem dX1_letterAt_42 : decode cX1_letterAt 42 = .ok (.iload_n 2, 1) := by decide +kernel
theorem dX1_letterAt_43 : decode cX1_letterAt 43 = .ok (.ireturn, 1) := by decide +kernel
theorem dX1_faultIndex_0 : decode cX1_faultIndex 0 = .ok (.iconst 0, 1) := by decide +kernel
theorem dX1_faultIndex_1 : decode cX1_faultIndex 1 = .ok (.istore_n 1, 1) := by decide +kernel
theorem dX1_faultIndex_2 : decode cX1_faultIndex 2 = .ok (.iload_n 1, 1) := by decide +kernel
theorem dX1_faultIndex_3 : decode cX1_faultIndex 3 = .ok (.aload_n 0, 1) := by decide +kernel
theorem dX1_faultIndex_4 : decode cX1_faultIndex 4 = .ok (.getfield 15, 3) := by decide +kernel
theorem dX1_faultIndex_7 : decode cX1_faultIndex 7 = .ok (.if_icmp .ge 27, 3) := by decide +kernel
theorem dX1_faultIndex_10 : decode cX1_faultIndex 10 = .ok (.iload_n 1, 1) := by decide +kernel
theorem dX1_faultIndex_11 : decode cX1_faultIndex 11 = .ok (.bipush 12, 2) := by decide +kernel
theorem dX1_faultIndex_13 : decode cX1_faultIndex 13 = .ok (.if_icmp .ge 13, 3) := by decide +kernel
theorem dX1_faultIndex_16 : decode cX1_faultIndex 16 = .ok (.aload_n 0, 1) := by decide +kernel
theorem dX1_faultIndex_17 : decode cX1_faultIndex 17 = .ok (.iload_n 1, 1) := by decide +kernel
theorem dX1_faultIndex_18 : decode cX1_faultIndex 18 = .ok (.invokevirtual 37, 3) := by decide +kernel
theorem dX1_faultIndex_21 : decode cX1_faultIndex 21 = .ok (.bipush (-6), 2) := by decide +kernel
theorem dX1_faultIndex_23 : decode cX1_faultIndex 23 = .ok (.if_icmp .ne 5, 3) := by decide +kernel
theorem dX1_faultIndex_26 : decode cX1_faultIndex 26 = .ok (.iload_n 1, 1) := by decide +kernel
theorem dX1_faultIndex_27 : decode cX1_faultIndex 27 = .ok (.ireturn, 1) := by decide +kernel
theorem dX1_faultIndex_28 : decode cX1_faultIndex 28 = .ok (.iinc 1 1, 3) := by decide +kernel
theorem dX1_faultIndex_31 : decode cX1_faultIndex 31 = .ok (.goto (-29), 3) := by decide +kernel
theorem dX1_faultIndex_34 : decode cX1_faultIndex 34 = .ok (.aload_n 0, 1) := by decide +kernel
theorem dX1_faultIndex_35 : decode cX1_faultIndex 35 = .ok (.getfield 15, 3) := by decide +kernel
theorem dX1_faultIndex_38 : decode cX1_faultIndex 38 = .ok (.ifCond .ne 7, 3) := by decide +kernel
theorem dX1_faultIndex_41 : decode cX1_faultIndex 41 = .ok (.iconst 0, 1) := by decide +kernel
theorem dX1_faultIndex_42 : decode cX1_faultIndex 42 = .ok (.goto 5, 3) := by decide +kernel
theorem dX1_faultIndex_45 : decode cX1_faultIndex 45 = .ok (.bipush (-6), 2) := by decide +kernel
theorem dX1_faultIndex_47 : decode cX1_faultIndex 47 = .ok (.ireturn, 1) := by decide +kernel
theorem dX2_init_0 : decode cX2_init 0 = .ok (.aload_n 0, 1) := by decide +kernel
theorem dX2_init_1 : decode cX2_init 1 = .ok (.invokespecial 3, 3) := by decide +kernel
theorem dX2_init_4 : decode cX2_init 4 = .ok (.return_, 1) := by decide +kernel
theorem dX2_copyFrom_0 : decode cX2_copyFrom 0 = .ok (.aload_n 0, 1) := by decide +kernel
theorem dX2_copyFrom_1 : decode cX2_copyFrom 1 = .ok (.aload_n 1, 1) := by decide +kernel
theorem dX2_copyFrom_2 : decode cX2_copyFrom 2 = .ok (.getfield 9, 3) := by decide +kernel
theorem dX2_copyFrom_5 : decode cX2_copyFrom 5 = .ok (.putfield 9, 3) := by decide +kernel
theorem dX2_copyFrom_8 : decode cX2_copyFrom 8 = .ok (.aload_n 0, 1) := by decide +kernel
theorem dX2_copyFrom_9 : decode cX2_copyFrom 9 = .ok (.aload_n 1, 1) := by decide +kernel
theorem dX2_copyFrom_10 : decode cX2_copyFrom 10 = .ok (.getfield 15, 3) := by decide +kernel
theorem dX2_copyFrom_13 : decode cX2_copyFrom 13 = .ok (.putfield 15, 3) := by decide +kernel
theorem dX2_copyFrom_16 : decode cX2_copyFrom 16 = .ok (.aload_n 0, 1) := by decide +kernel
theorem dX2_copyFrom_17 : decode cX2_copyFrom 17 = .ok (.aload_n 1, 1) := by decide +kernel
theorem dX2_copyFrom_18 : decode cX2_copyFrom 18 = .ok (.getfield 18, 3) := by decide +kernel
theorem dX2_copyFrom_21 : decode cX2_copyFrom 21 = .ok (.putfield 18, 3) := by decide +kernel
theorem dX2_copyFrom_24 : decode cX2_copyFrom 24 = .ok (.aload_n 0, 1) := by decide +kernel
theorem dX2_copyFrom_25 : decode cX2_copyFrom 25 = .ok (.aload_n 1, 1) := by decide +kernel
theorem dX2_copyFrom_26 : decode cX2_copyFrom 26 = .ok (.getfield 21, 3) := by decide +kernel
theorem dX2_copyFrom_29 : decode cX2_copyFrom 29 = .ok (.putfield 21, 3) := by decide +kernel
theorem dX2_copyFrom_32 : decode cX2_copyFrom 32 = .ok (.aload_n 0, 1) := by decide +kernel
theorem dX2_copyFrom_33 : decode cX2_copyFrom 33 = .ok (.aload_n 1, 1) := by decide +kernel
theorem dX2_copyFrom_34 : decode cX2_copyFrom 34 = .ok (.getfield 24, 3) := by decide +kernel
theorem dX2_copyFrom_37 : decode cX2_copyFrom 37 = .ok (.putfield 24, 3) := by decide +kernel
theorem dX2_copyFrom_40 : decode cX2_copyFrom 40 = .ok (.aload_n 0, 1) := by decide +kernel
theorem dX2_copyFrom_41 : decode cX2_copyFrom 41 = .ok (.aload_n 1, 1) := by decide +kernel
theorem dX2_copyFrom_42 : decode cX2_copyFrom 42 = .ok (.getfield 27, 3) := by decide +kernel
theorem dX2_copyFrom_45 : decode cX2_copyFrom 45 = .ok (.putfield 27, 3) := by decide +kernel
theorem dX2_copyFrom_48 : decode cX2_copyFrom 48 = .ok (.aload_n 0, 1) := by decide +kernel
theorem dX2_copyFrom_49 : decode cX2_copyFrom 49 = .ok (.aload_n 1, 1) := by decide +kernel
theorem dX2_copyFrom_50 : decode cX2_copyFrom 50 = .ok (.getfield 30, 3) := by decide +kernel
theorem dX2_copyFrom_53 : decode cX2_copyFrom 53 = .ok (.putfield 30, 3) := by decide +kernel
theorem dX2_copyFrom_56 : decode cX2_copyFrom 56 = .ok (.return_, 1) := by decide +kernel
theorem dX2_becomeLoose_0 : decode cX2_becomeLoose 0 = .ok (.aload_n 0, 1) := by decide +kernel
theorem dX2_becomeLoose_1 : decode cX2_becomeLoose 1 = .ok (.iconst 0, 1) := by decide +kernel
theorem dX2_becomeLoose_2 : decode cX2_becomeLoose 2 = .ok (.putfield 27, 3) := by decide +kernel
theorem dX2_becomeLoose_5 : decode cX2_becomeLoose 5 = .ok (.aload_n 0, 1) := by decide +kernel
theorem dX2_becomeLoose_6 : decode cX2_becomeLoose 6 = .ok (.bipush (-6), 2) := by decide +kernel
theorem dX2_becomeLoose_8 : decode cX2_becomeLoose 8 = .ok (.putfield 30, 3) := by decide +kernel
theorem dX2_becomeLoose_11 : decode cX2_becomeLoose 11 = .ok (.return_, 1) := by decide +kernel
theorem dX3_init_0 : decode cX3_init 0 = .ok (.aload_n 0, 1) := by decide +kernel
theorem dX3_init_1 : decode cX3_init 1 = .ok (.invokespecial 3, 3) := by decide +kernel
theorem dX3_init_4 : decode cX3_init 4 = .ok (.aload_n 0, 1) := by decide +kernel
theorem dX3_init_5 : decode cX3_init 5 = .ok (.sipush 320, 3) := by decide +kernel
theorem dX3_init_8 : decode cX3_init 8 = .ok (.newarray .int, 2) := by decide +kernel
theorem dX3_init_10 : decode cX3_init 10 = .ok (.putfield 9, 3) := by decide +kernel
theorem dX3_init_13 : decode cX3_init 13 = .ok (.iconst 0, 1) := by decide +kernel
theorem dX3_init_14 : decode cX3_init 14 = .ok (.istore_n 1, 1) := by decide +kernel
theorem dX3_init_15 : decode cX3_init 15 = .ok (.iload_n 1, 1) := by decide +kernel
theorem dX3_init_16 : decode cX3_init 16 = .ok (.bipush 8, 2) := by decide +kernel
theorem dX3_init_18 : decode cX3_init 18 = .ok (.if_icmp .ge 60, 3) := by decide +kernel
theorem dX3_init_21 : decode cX3_init 21 = .ok (.iconst 0, 1) := by decide +kernel
theorem dX3_init_22 : decode cX3_init 22 = .ok (.istore_n 2, 1) := by decide +kernel
theorem dX3_init_23 : decode cX3_init 23 = .ok (.iload_n 2, 1) := by decide +kernel
theorem dX3_init_24 : decode cX3_init 24 = .ok (.bipush 8, 2) := by decide +kernel
theorem dX3_init_26 : decode cX3_init 26 = .ok (.if_icmp .ge 46, 3) := by decide +kernel
theorem dX3_init_29 : decode cX3_init 29 = .ok (.iconst 0, 1) := by decide +kernel
theorem dX3_init_30 : decode cX3_init 30 = .ok (.istore_n 3, 1) := by decide +kernel
theorem dX3_init_31 : decode cX3_init 31 = .ok (.iload_n 3, 1) := by decide +kernel
theorem dX3_init_32 : decode cX3_init 32 = .ok (.iload_n 2, 1) := by decide +kernel
theorem dX3_init_33 : decode cX3_init 33 = .ok (.invokestatic 15, 3) := by decide +kernel
theorem dX3_init_36 : decode cX3_init 36 = .ok (.if_icmp .ge 30, 3) := by decide +kernel
theorem dX3_init_39 : decode cX3_init 39 = .ok (.aload_n 0, 1) := by decide +kernel
theorem dX3_init_40 : decode cX3_init 40 = .ok (.getfield 9, 3) := by decide +kernel
theorem dX3_init_43 : decode cX3_init 43 = .ok (.iload_n 1, 1) := by decide +kernel
theorem dX3_init_44 : decode cX3_init 44 = .ok (.bipush 8, 2) := by decide +kernel
theorem dX3_init_46 : decode cX3_init 46 = .ok (.imul, 1) := by decide +kernel
theorem dX3_init_47 : decode cX3_init 47 = .ok (.iload_n 2, 1) := by decide +kernel
theorem dX3_init_48 : decode cX3_init 48 = .ok (.iadd, 1) := by decide +kernel
theorem dX3_init_49 : decode cX3_init 49 = .ok (.iconst 5, 1) := by decide +kernel
theorem dX3_init_50 : decode cX3_init 50 = .ok (.imul, 1) := by decide +kernel
theorem dX3_init_51 : decode cX3_init 51 = .ok (.iload_n 3, 1) := by decide +kernel
theorem dX3_init_52 : decode cX3_init 52 = .ok (.iadd, 1) := by decide +kernel
theorem dX3_init_53 : decode cX3_init 53 = .ok (.iload_n 1, 1) := by decide +kernel
theorem dX3_init_54 : decode cX3_init 54 = .ok (.iload_n 2, 1) := by decide +kernel
theorem dX3_init_55 : decode cX3_init 55 = .ok (.iload_n 3, 1) := by decide +kernel
theorem dX3_init_56 : decode cX3_init 56 = .ok (.invokestatic 19, 3) := by decide +kernel
theorem dX3_init_59 : decode cX3_init 59 = .ok (.iastore, 1) := by decide +kernel
theorem dX3_init_60 : decode cX3_init 60 = .ok (.iinc 3 1, 3) := by decide +kernel
theorem dX3_init_63 : decode cX3_init 63 = .ok (.goto (-32), 3) := by decide +kernel
theorem dX3_init_66 : decode cX3_init 66 = .ok (.iinc 2 1, 3) := by decide +kernel
theorem dX3_init_69 : decode cX3_init 69 = .ok (.goto (-46), 3) := by decide +kernel
theorem dX3_init_72 : decode cX3_init 72 = .ok (.iinc 1 1, 3) := by decide +kernel
theorem dX3_init_75 : decode cX3_init 75 = .ok (.goto (-60), 3) := by decide +kernel
theorem dX3_init_78 : decode cX3_init 78 = .ok (.return_, 1) := by decide +kernel
theorem dX3_columnsOf_0 : decode cX3_columnsOf 0 = .ok (.iload_n 1, 1) := by decide +kernel
theorem dX3_columnsOf_1 : decode cX3_columnsOf 1 = .ok (.invokestatic 23, 3) := by decide +kernel
theorem dX3_columnsOf_4 : decode cX3_columnsOf 4 = .ok (.ifCond .eq 19, 3) := by decide +kernel
theorem dX3_columnsOf_7 : decode cX3_columnsOf 7 = .ok (.iload_n 2, 1) := by decide +kernel
theorem dX3_columnsOf_8 : decode cX3_columnsOf 8 = .ok (.invokestatic 27, 3) := by decide +kernel
theorem dX3_columnsOf_11 : decode cX3_columnsOf 11 = .ok (.ifCond .eq 12, 3) := by decide +kernel
theorem dX3_columnsOf_14 : decode cX3_columnsOf 14 = .ok (.iload_n 3, 1) := by decide +kernel
theorem dX3_columnsOf_15 : decode cX3_columnsOf 15 = .ok (.ifCond .lt 8, 3) := by decide +kernel
theorem dX3_columnsOf_18 : decode cX3_columnsOf 18 = .ok (.iload_n 3, 1) := by decide +kernel
theorem dX3_columnsOf_19 : decode cX3_columnsOf 19 = .ok (.iconst 5, 1) := by decide +kernel
theorem dX3_columnsOf_20 : decode cX3_columnsOf 20 = .ok (.if_icmp .lt 5, 3) := by decide +kernel
theorem dX3_columnsOf_23 : decode cX3_columnsOf 23 = .ok (.iconst 0, 1) := by decide +kernel
theorem dX3_columnsOf_24 : decode cX3_columnsOf 24 = .ok (.ireturn, 1) := by decide +kernel
theorem dX3_columnsOf_25 : decode cX3_columnsOf 25 = .ok (.aload_n 0, 1) := by decide +kernel
theorem dX3_columnsOf_26 : decode cX3_columnsOf 26 = .ok (.getfield 9, 3) := by decide +kernel
theorem dX3_columnsOf_29 : decode cX3_columnsOf 29 = .ok (.iload_n 1, 1) := by decide +kernel
theorem dX3_columnsOf_30 : decode cX3_columnsOf 30 = .ok (.bipush 8, 2) := by decide +kernel
theorem dX3_columnsOf_32 : decode cX3_columnsOf 32 = .ok (.imul, 1) := by decide +kernel
theorem dX3_columnsOf_33 : decode cX3_columnsOf 33 = .ok (.iload_n 2, 1) := by decide +kernel
theorem dX3_columnsOf_34 : decode cX3_columnsOf 34 = .ok (.iadd, 1) := by decide +kernel
theorem dX3_columnsOf_35 : decode cX3_columnsOf 35 = .ok (.iconst 5, 1) := by decide +kernel
theorem dX3_columnsOf_36 : decode cX3_columnsOf 36 = .ok (.imul, 1) := by decide +kernel
theorem dX3_columnsOf_37 : decode cX3_columnsOf 37 = .ok (.iload_n 3, 1) := by decide +kernel
theorem dX3_columnsOf_38 : decode cX3_columnsOf 38 = .ok (.iadd, 1) := by decide +kernel
theorem dX3_columnsOf_39 : decode cX3_columnsOf 39 = .ok (.iaload, 1) := by decide +kernel
theorem dX3_columnsOf_40 : decode cX3_columnsOf 40 = .ok (.ireturn, 1) := by decide +kernel
theorem dX3_squaresOf_0 : decode cX3_squaresOf 0 = .ok (.iconst 0, 1) := by decide +kernel
theorem dX3_squaresOf_1 : decode cX3_squaresOf 1 = .ok (.istore_n 2, 1) := by decide +kernel
theorem dX3_squaresOf_2 : decode cX3_squaresOf 2 = .ok (.iconst 0, 1) := by decide +kernel
theorem dX3_squaresOf_3 : decode cX3_squaresOf 3 = .ok (.istore_n 3, 1) := by decide +kernel
theorem dX3_squaresOf_4 : decode cX3_squaresOf 4 = .ok (.iload_n 3, 1) := by decide +kernel
theorem dX3_squaresOf_5 : decode cX3_squaresOf 5 = .ok (.iconst 5, 1) := by decide +kernel
theorem dX3_squaresOf_6 : decode cX3_squaresOf 6 = .ok (.if_icmp .ge 22, 3) := by decide +kernel
theorem dX3_squaresOf_9 : decode cX3_squaresOf 9 = .ok (.iload_n 2, 1) := by decide +kernel
theorem dX3_squaresOf_10 : decode cX3_squaresOf 10 = .ok (.aload_n 0, 1) := by decide +kernel
theorem dX3_squaresOf_11 : decode cX3_squaresOf 11 = .ok (.iload_n 1, 1) := by decide +kernel
theorem dX3_squaresOf_12 : decode cX3_squaresOf 12 = .ok (.iconst 0, 1) := by decide +kernel
theorem dX3_squaresOf_13 : decode cX3_squaresOf 13 = .ok (.iload_n 3, 1) := by decide +kernel
theorem dX3_squaresOf_14 : decode cX3_squaresOf 14 = .ok (.invokevirtual 30, 3) := by decide +kernel
theorem dX3_squaresOf_17 : decode cX3_squaresOf 17 = .ok (.invokestatic 33, 3) := by decide +kernel
theorem dX3_squaresOf_20 : decode cX3_squaresOf 20 = .ok (.iadd, 1) := by decide +kernel
theorem dX3_squaresOf_21 : decode cX3_squaresOf 21 = .ok (.istore_n 2, 1) := by decide +kernel
theorem dX3_squaresOf_22 : decode cX3_squaresOf 22 = .ok (.iinc 3 1, 3) := by decide +kernel
theorem dX3_squaresOf_25 : decode cX3_squaresOf 25 = .ok (.goto (-21), 3) := by decide +kernel
theorem dX3_squaresOf_28 : decode cX3_squaresOf 28 = .ok (.iload_n 2, 1) := by decide +kernel
theorem dX3_squaresOf_29 : decode cX3_squaresOf 29 = .ok (.ireturn, 1) := by decide +kernel
theorem dX3_turnedRow_0 : decode cX3_turnedRow 0 = .ok (.iconst 0, 1) := by decide +kernel
theorem dX3_turnedRow_1 : decode cX3_turnedRow 1 = .ok (.istore_n 3, 1) := by decide +kernel
theorem dX3_turnedRow_2 : decode cX3_turnedRow 2 = .ok (.iconst 0, 1) := by decide +kernel
theorem dX3_turnedRow_3 : decode cX3_turnedRow 3 = .ok (.istore 4, 2) := by decide +kernel
theorem dX3_turnedRow_5 : decode cX3_turnedRow 5 = .ok (.iload 4, 2) := by decide +kernel
theorem dX3_turnedRow_7 : decode cX3_turnedRow 7 = .ok (.iload_n 1, 1) := by decide +kernel
theorem dX3_turnedRow_8 : decode cX3_turnedRow 8 = .ok (.invokestatic 38, 3) := by decide +kernel
theorem dX3_turnedRow_11 : decode cX3_turnedRow 11 = .ok (.if_icmp .ge 27, 3) := by decide +kernel
theorem dX3_turnedRow_14 : decode cX3_turnedRow 14 = .ok (.iload_n 0, 1) := by decide +kernel
theorem dX3_turnedRow_15 : decode cX3_turnedRow 15 = .ok (.iload_n 1, 1) := by decide +kernel
theorem dX3_turnedRow_16 : decode cX3_turnedRow 16 = .ok (.iload_n 2, 1) := by decide +kernel
theorem dX3_turnedRow_17 : decode cX3_turnedRow 17 = .ok (.iload 4, 2) := by decide +kernel
theorem dX3_turnedRow_19 : decode cX3_turnedRow 19 = .ok (.invokestatic 41, 3) := by decide +kernel
theorem dX3_turnedRow_22 : decode cX3_turnedRow 22 = .ok (.ifCond .eq 10, 3) := by decide +kernel
theorem dX3_turnedRow_25 : decode cX3_turnedRow 25 = .ok (.iload_n 3, 1) := by decide +kernel
theorem dX3_turnedRow_26 : decode cX3_turnedRow 26 = .ok (.iconst 1, 1) := by decide +kernel
theorem dX3_turnedRow_27 : decode cX3_turnedRow 27 = .ok (.iload 4, 2) := by decide +kernel
theorem dX3_turnedRow_29 : decode cX3_turnedRow 29 = .ok (.ishl, 1) := by decide +kernel
theorem dX3_turnedRow_30 : decode cX3_turnedRow 30 = .ok (.ior, 1) := by decide +kernel
theorem dX3_turnedRow_31 : decode cX3_turnedRow 31 = .ok (.istore_n 3, 1) := by decide +kernel
theorem dX3_turnedRow_32 : decode cX3_turnedRow 32 = .ok (.iinc 4 1, 3) := by decide +kernel
theorem dX3_turnedRow_35 : decode cX3_turnedRow 35 = .ok (.goto (-30), 3) := by decide +kernel
theorem dX3_turnedRow_38 : decode cX3_turnedRow 38 = .ok (.iload_n 3, 1) := by decide +kernel
theorem dX3_turnedRow_39 : decode cX3_turnedRow 39 = .ok (.ireturn, 1) := by decide +kernel
theorem dX3_hasSquare_0 : decode cX3_hasSquare 0 = .ok (.iload_n 2, 1) := by decide +kernel
theorem dX3_hasSquare_1 : decode cX3_hasSquare 1 = .ok (.istore 4, 2) := by decide +kernel
theorem dX3_hasSquare_3 : decode cX3_hasSquare 3 = .ok (.iload_n 3, 1) := by decide +kernel
theorem dX3_hasSquare_4 : decode cX3_hasSquare 4 = .ok (.istore 5, 2) := by decide +kernel
theorem dX3_hasSquare_6 : decode cX3_hasSquare 6 = .ok (.iload_n 1, 1) := by decide +kernel
theorem dX3_hasSquare_7 : decode cX3_hasSquare 7 = .ok (.iconst 4, 1) := by decide +kernel
theorem dX3_hasSquare_8 : decode cX3_hasSquare 8 = .ok (.irem, 1) := by decide +kernel
theorem dX3_hasSquare_9 : decode cX3_hasSquare 9 = .ok (.tableswitch 62 1 3 #[27, 38, 51], 27) := by decide +kernel
theorem dX3_hasSquare_36 : decode cX3_hasSquare 36 = .ok (.iconst 4, 1) := by decide +kernel
theorem dX3_hasSquare_37 : decode cX3_hasSquare 37 = .ok (.iload_n 3, 1) := by decide +kernel
theorem dX3_hasSquare_38 : decode cX3_hasSquare 38 = .ok (.isub, 1) := by decide +kernel
theorem dX3_hasSquare_39 : decode cX3_hasSquare 39 = .ok (.istore 4, 2) := by decide +kernel
theorem dX3_hasSquare_41 : decode cX3_hasSquare 41 = .ok (.iload_n 2, 1) := by decide +kernel
theorem dX3_hasSquare_42 : decode cX3_hasSquare 42 = .ok (.istore 5, 2) := by decide +kernel
theorem dX3_hasSquare_44 : decode cX3_hasSquare 44 = .ok (.goto 27, 3) := by decide +kernel
theorem dX3_hasSquare_47 : decode cX3_hasSquare 47 = .ok (.iconst 4, 1) := by decide +kernel
theorem dX3_hasSquare_48 : decode cX3_hasSquare 48 = .ok (.iload_n 2, 1) := by decide +kernel
theorem dX3_hasSquare_49 : decode cX3_hasSquare 49 = .ok (.isub, 1) := by decide +kernel
theorem dX3_hasSquare_50 : decode cX3_hasSquare 50 = .ok (.istore 4, 2) := by decide +kernel
theorem dX3_hasSquare_52 : decode cX3_hasSquare 52 = .ok (.iconst 2, 1) := by decide +kernel
theorem dX3_hasSquare_53 : decode cX3_hasSquare 53 = .ok (.iload_n 3, 1) := by decide +kernel
theorem dX3_hasSquare_54 : decode cX3_hasSquare 54 = .ok (.isub, 1) := by decide +kernel
theorem dX3_hasSquare_55 : decode cX3_hasSquare 55 = .ok (.istore 5, 2) := by decide +kernel
theorem dX3_hasSquare_57 : decode cX3_hasSquare 57 = .ok (.goto 14, 3) := by decide +kernel
theorem dX3_hasSquare_60 : decode cX3_hasSquare 60 = .ok (.iload_n 3, 1) := by decide +kernel
theorem dX3_hasSquare_61 : decode cX3_hasSquare 61 = .ok (.istore 4, 2) := by decide +kernel
theorem dX3_hasSquare_63 : decode cX3_hasSquare 63 = .ok (.iconst 2, 1) := by decide +kernel
theorem dX3_hasSquare_64 : decode cX3_hasSquare 64 = .ok (.iload_n 2, 1) := by decide +kernel
theorem dX3_hasSquare_65 : decode cX3_hasSquare 65 = .ok (.isub, 1) := by decide +kernel
theorem dX3_hasSquare_66 : decode cX3_hasSquare 66 = .ok (.istore 5, 2) := by decide +kernel
theorem dX3_hasSquare_68 : decode cX3_hasSquare 68 = .ok (.goto 3, 3) := by decide +kernel
theorem dX3_hasSquare_71 : decode cX3_hasSquare 71 = .ok (.iload_n 1, 1) := by decide +kernel
theorem dX3_hasSquare_72 : decode cX3_hasSquare 72 = .ok (.invokestatic 45, 3) := by decide +kernel
theorem dX3_hasSquare_75 : decode cX3_hasSquare 75 = .ok (.iconst 1, 1) := by decide +kernel
theorem dX3_hasSquare_76 : decode cX3_hasSquare 76 = .ok (.if_icmp .ne 9, 3) := by decide +kernel
theorem dX3_hasSquare_79 : decode cX3_hasSquare 79 = .ok (.iconst 2, 1) := by decide +kernel
theorem dX3_hasSquare_80 : decode cX3_hasSquare 80 = .ok (.iload 5, 2) := by decide +kernel
theorem dX3_hasSquare_82 : decode cX3_hasSquare 82 = .ok (.isub, 1) := by decide +kernel
theorem dX3_hasSquare_83 : decode cX3_hasSquare 83 = .ok (.istore 5, 2) := by decide +kernel
theorem dX3_hasSquare_85 : decode cX3_hasSquare 85 = .ok (.iload_n 0, 1) := by decide +kernel
theorem dX3_hasSquare_86 : decode cX3_hasSquare 86 = .ok (.iload 4, 2) := by decide +kernel
theorem dX3_hasSquare_88 : decode cX3_hasSquare 88 = .ok (.iload 5, 2) := by decide +kernel
theorem dX3_hasSquare_90 : decode cX3_hasSquare 90 = .ok (.invokestatic 48, 3) := by decide +kernel
theorem dX3_hasSquare_93 : decode cX3_hasSquare 93 = .ok (.ireturn, 1) := by decide +kernel
theorem dX3_uprightHas_0 : decode cX3_uprightHas 0 = .ok (.iload_n 0, 1) := by decide +kernel
theorem dX3_uprightHas_1 : decode cX3_uprightHas 1 = .ok (.invokestatic 23, 3) := by decide +kernel
theorem dX3_uprightHas_4 : decode cX3_uprightHas 4 = .ok (.ifCond .eq 21, 3) := by decide +kernel
theorem dX3_uprightHas_7 : decode cX3_uprightHas 7 = .ok (.iload_n 1, 1) := by decide +kernel
theorem dX3_uprightHas_8 : decode cX3_uprightHas 8 = .ok (.ifCond .lt 17, 3) := by decide +kernel
theorem dX3_uprightHas_11 : decode cX3_uprightHas 11 = .ok (.iload_n 1, 1) := by decide +kernel
theorem dX3_uprightHas_12 : decode cX3_uprightHas 12 = .ok (.iconst 5, 1) := by decide +kernel
theorem dX3_uprightHas_13 : decode cX3_uprightHas 13 = .ok (.if_icmp .ge 12, 3) := by decide +kernel
theorem dX3_uprightHas_16 : decode cX3_uprightHas 16 = .ok (.iload_n 2, 1) := by decide +kernel
theorem dX3_uprightHas_17 : decode cX3_uprightHas 17 = .ok (.ifCond .lt 8, 3) := by decide +kernel
theorem dX3_uprightHas_20 : decode cX3_uprightHas 20 = .ok (.iload_n 2, 1) := by decide +kernel
theorem dX3_uprightHas_21 : decode cX3_uprightHas 21 = .ok (.iconst 3, 1) := by decide +kernel
theorem dX3_uprightHas_22 : decode cX3_uprightHas 22 = .ok (.if_icmp .lt 5, 3) := by decide +kernel
theorem dX3_uprightHas_25 : decode cX3_uprightHas 25 = .ok (.iconst 0, 1) := by decide +kernel
theorem dX3_uprightHas_26 : decode cX3_uprightHas 26 = .ok (.ireturn, 1) := by decide +kernel
theorem dX3_uprightHas_27 : decode cX3_uprightHas 27 = .ok (.getstatic 52, 3) := by decide +kernel
theorem dX3_uprightHas_30 : decode cX3_uprightHas 30 = .ok (.iload_n 0, 1) := by decide +kernel
theorem dX3_uprightHas_31 : decode cX3_uprightHas 31 = .ok (.iconst 5, 1) := by decide +kernel
theorem dX3_uprightHas_32 : decode cX3_uprightHas 32 = .ok (.imul, 1) := by decide +kernel
theorem dX3_uprightHas_33 : decode cX3_uprightHas 33 = .ok (.iload_n 1, 1) := by decide +kernel
theorem dX3_uprightHas_34 : decode cX3_uprightHas 34 = .ok (.iadd, 1) := by decide +kernel
theorem dX3_uprightHas_35 : decode cX3_uprightHas 35 = .ok (.iaload, 1) := by decide +kernel
theorem dX3_uprightHas_36 : decode cX3_uprightHas 36 = .ok (.istore_n 3, 1) := by decide +kernel
theorem dX3_uprightHas_37 : decode cX3_uprightHas 37 = .ok (.iload_n 3, 1) := by decide +kernel
theorem dX3_uprightHas_38 : decode cX3_uprightHas 38 = .ok (.iconst 4, 1) := by decide +kernel
theorem dX3_uprightHas_39 : decode cX3_uprightHas 39 = .ok (.iload_n 2, 1) := by decide +kernel
theorem dX3_uprightHas_40 : decode cX3_uprightHas 40 = .ok (.ishr, 1) := by decide +kernel
theorem dX3_uprightHas_41 : decode cX3_uprightHas 41 = .ok (.iand, 1) := by decide +kernel
theorem dX3_uprightHas_42 : decode cX3_uprightHas 42 = .ok (.ifCond .eq 7, 3) := by decide +kernel
theorem dX3_uprightHas_45 : decode cX3_uprightHas 45 = .ok (.iconst 1, 1) := by decide +kernel
theorem dX3_uprightHas_46 : decode cX3_uprightHas 46 = .ok (.goto 4, 3) := by decide +kernel
theorem dX3_uprightHas_49 : decode cX3_uprightHas 49 = .ok (.iconst 0, 1) := by decide +kernel
theorem dX3_uprightHas_50 : decode cX3_uprightHas 50 = .ok (.ireturn, 1) := by decide +kernel
theorem dX4_init_0 : decode cX4_init 0 = .ok (.aload_n 0, 1) := by decide +kernel
theorem dX4_init_1 : decode cX4_init 1 = .ok (.invokespecial 3, 3) := by decide +kernel
theorem dX4_init_4 : decode cX4_init 4 = .ok (.aload_n 0, 1) := by decide +kernel
theorem dX4_init_5 : decode cX4_init 5 = .ok (.bipush 9, 2) := by decide +kernel
theorem dX4_init_7 : decode cX4_init 7 = .ok (.newarray .int, 2) := by decide +kernel
theorem dX4_init_9 : decode cX4_init 9 = .ok (.putfield 9, 3) := by decide +kernel
theorem dX4_init_12 : decode cX4_init 12 = .ok (.aload_n 0, 1) := by decide +kernel
theorem dX4_init_13 : decode cX4_init 13 = .ok (.aload_n 1, 1) := by decide +kernel
theorem dX4_init_14 : decode cX4_init 14 = .ok (.putfield 15, 3) := by decide +kernel
theorem dX4_init_17 : decode cX4_init 17 = .ok (.return_, 1) := by decide +kernel
theorem dX4_copyFrom_0 : decode cX4_copyFrom 0 = .ok (.aload_n 0, 1) := by decide +kernel
theorem dX4_copyFrom_1 : decode cX4_copyFrom 1 = .ok (.aload_n 1, 1) := by decide +kernel
theorem dX4_copyFrom_2 : decode cX4_copyFrom 2 = .ok (.getfield 19, 3) := by decide +kernel
theorem dX4_copyFrom_5 : decode cX4_copyFrom 5 = .ok (.putfield 19, 3) := by decide +kernel
theorem dX4_copyFrom_8 : decode cX4_copyFrom 8 = .ok (.aload_n 0, 1) := by decide +kernel
theorem dX4_copyFrom_9 : decode cX4_copyFrom 9 = .ok (.aload_n 1, 1) := by decide +kernel
theorem dX4_copyFrom_10 : decode cX4_copyFrom 10 = .ok (.getfield 23, 3) := by decide +kernel
theorem dX4_copyFrom_13 : decode cX4_copyFrom 13 = .ok (.putfield 23, 3) := by decide +kernel
theorem dX4_copyFrom_16 : decode cX4_copyFrom 16 = .ok (.iconst 0, 1) := by decide +kernel
theorem dX4_copyFrom_17 : decode cX4_copyFrom 17 = .ok (.istore_n 2, 1) := by decide +kernel
theorem dX4_copyFrom_18 : decode cX4_copyFrom 18 = .ok (.iload_n 2, 1) := by decide +kernel
theorem dX4_copyFrom_19 : decode cX4_copyFrom 19 = .ok (.bipush 9, 2) := by decide +kernel
theorem dX4_copyFrom_21 : decode cX4_copyFrom 21 = .ok (.if_icmp .ge 21, 3) := by decide +kernel
theorem dX4_copyFrom_24 : decode cX4_copyFrom 24 = .ok (.aload_n 0, 1) := by decide +kernel
theorem dX4_copyFrom_25 : decode cX4_copyFrom 25 = .ok (.getfield 9, 3) := by decide +kernel
theorem dX4_copyFrom_28 : decode cX4_copyFrom 28 = .ok (.iload_n 2, 1) := by decide +kernel
theorem dX4_copyFrom_29 : decode cX4_copyFrom 29 = .ok (.aload_n 1, 1) := by decide +kernel
theorem dX4_copyFrom_30 : decode cX4_copyFrom 30 = .ok (.getfield 9, 3) := by decide +kernel
theorem dX4_copyFrom_33 : decode cX4_copyFrom 33 = .ok (.iload_n 2, 1) := by decide +kernel
theorem dX4_copyFrom_34 : decode cX4_copyFrom 34 = .ok (.iaload, 1) := by decide +kernel
theorem dX4_copyFrom_35 : decode cX4_copyFrom 35 = .ok (.iastore, 1) := by decide +kernel
theorem dX4_copyFrom_36 : decode cX4_copyFrom 36 = .ok (.iinc 2 1, 3) := by decide +kernel
theorem dX4_copyFrom_39 : decode cX4_copyFrom 39 = .ok (.goto (-21), 3) := by decide +kernel
theorem dX4_copyFrom_42 : decode cX4_copyFrom 42 = .ok (.return_, 1) := by decide +kernel
theorem dX4_canCut_0 : decode cX4_canCut 0 = .ok (.iload 4, 2) := by decide +kernel
theorem dX4_canCut_2 : decode cX4_canCut 2 = .ok (.ifCond .lt 29, 3) := by decide +kernel
theorem dX4_canCut_5 : decode cX4_canCut 5 = .ok (.iload 4, 2) := by decide +kernel
theorem dX4_canCut_7 : decode cX4_canCut 7 = .ok (.bipush 14, 2) := by decide +kernel
theorem dX4_canCut_9 : decode cX4_canCut 9 = .ok (.if_icmp .ge 22, 3) := by decide +kernel
theorem dX4_canCut_12 : decode cX4_canCut 12 = .ok (.aload_n 0, 1) := by decide +kernel
theorem dX4_canCut_13 : decode cX4_canCut 13 = .ok (.iload_n 1, 1) := by decide +kernel
theorem dX4_canCut_14 : decode cX4_canCut 14 = .ok (.iload_n 2, 1) := by decide +kernel
theorem dX4_canCut_15 : decode cX4_canCut 15 = .ok (.iload_n 3, 1) := by decide +kernel
theorem dX4_canCut_16 : decode cX4_canCut 16 = .ok (.invokevirtual 27, 3) := by decide +kernel
theorem dX4_canCut_19 : decode cX4_canCut 19 = .ok (.iload 4, 2) := by decide +kernel
theorem dX4_canCut_21 : decode cX4_canCut 21 = .ok (.ishr, 1) := by decide +kernel
theorem dX4_canCut_22 : decode cX4_canCut 22 = .ok (.iconst 1, 1) := by decide +kernel
theorem dX4_canCut_23 : decode cX4_canCut 23 = .ok (.iand, 1) := by decide +kernel
theorem dX4_canCut_24 : decode cX4_canCut 24 = .ok (.ifCond .eq 7, 3) := by decide +kernel
theorem dX4_canCut_27 : decode cX4_canCut 27 = .ok (.iconst 1, 1) := by decide +kernel
theorem dX4_canCut_28 : decode cX4_canCut 28 = .ok (.goto 4, 3) := by decide +kernel
theorem dX4_canCut_31 : decode cX4_canCut 31 = .ok (.iconst 0, 1) := by decide +kernel
theorem dX4_canCut_32 : decode cX4_canCut 32 = .ok (.ireturn, 1) := by decide +kernel
theorem dX4_freeColumns_0 : decode cX4_freeColumns 0 = .ok (.aload_n 0, 1) := by decide +kernel
theorem dX4_freeColumns_1 : decode cX4_freeColumns 1 = .ok (.getfield 23, 3) := by decide +kernel
theorem dX4_freeColumns_4 : decode cX4_freeColumns 4 = .ok (.ifCond .ne 12, 3) := by decide +kernel
theorem dX4_freeColumns_7 : decode cX4_freeColumns 7 = .ok (.iload_n 2, 1) := by decide +kernel
theorem dX4_freeColumns_8 : decode cX4_freeColumns 8 = .ok (.iload_n 3, 1) := by decide +kernel
theorem dX4_freeColumns_9 : decode cX4_freeColumns 9 = .ok (.iconst 0, 1) := by decide +kernel
theorem dX4_freeColumns_10 : decode cX4_freeColumns 10 = .ok (.invokestatic 31, 3) := by decide +kernel
theorem dX4_freeColumns_13 : decode cX4_freeColumns 13 = .ok (.ifCond .ne 5, 3) := by decide +kernel
theorem dX4_freeColumns_16 : decode cX4_freeColumns 16 = .ok (.iconst 0, 1) := by decide +kernel
theorem dX4_freeColumns_17 : decode cX4_freeColumns 17 = .ok (.ireturn, 1) := by decide +kernel
theorem dX4_freeColumns_18 : decode cX4_freeColumns 18 = .ok (.iconst 1, 1) := by decide +kernel
theorem dX4_freeColumns_19 : decode cX4_freeColumns 19 = .ok (.bipush 14, 2) := by decide +kernel
theorem dX4_freeColumns_21 : decode cX4_freeColumns 21 = .ok (.iload_n 2, 1) := by decide +kernel
theorem dX4_freeColumns_22 : decode cX4_freeColumns 22 = .ok (.invokestatic 35, 3) := by decide +kernel
theorem dX4_freeColumns_25 : decode cX4_freeColumns 25 = .ok (.isub, 1) := by decide +kernel
theorem dX4_freeColumns_26 : decode cX4_freeColumns 26 = .ok (.iconst 1, 1) := by decide +kernel
theorem dX4_freeColumns_27 : decode cX4_freeColumns 27 = .ok (.iadd, 1) := by decide +kernel
theorem dX4_freeColumns_28 : decode cX4_freeColumns 28 = .ok (.ishl, 1) := by decide +kernel
theorem dX4_freeColumns_29 : decode cX4_freeColumns 29 = .ok (.iconst 1, 1) := by decide +kernel
theorem dX4_freeColumns_30 : decode cX4_freeColumns 30 = .ok (.isub, 1) := by decide +kernel
theorem dX4_freeColumns_31 : decode cX4_freeColumns 31 = .ok (.istore 4, 2) := by decide +kernel
theorem dX4_freeColumns_33 : decode cX4_freeColumns 33 = .ok (.iconst 0, 1) := by decide +kernel
theorem dX4_freeColumns_34 : decode cX4_freeColumns 34 = .ok (.istore 5, 2) := by decide +kernel
theorem dX4_freeColumns_36 : decode cX4_freeColumns 36 = .ok (.iload 5, 2) := by decide +kernel
theorem dX4_freeColumns_38 : decode cX4_freeColumns 38 = .ok (.iload_n 2, 1) := by decide +kernel
theorem dX4_freeColumns_39 : decode cX4_freeColumns 39 = .ok (.invokestatic 39, 3) := by decide +kernel
theorem dX4_freeColumns_42 : decode cX4_freeColumns 42 = .ok (.if_icmp .ge 69, 3) := by decide +kernel
theorem dX4_freeColumns_45 : decode cX4_freeColumns 45 = .ok (.aload_n 0, 1) := by decide +kernel
theorem dX4_freeColumns_46 : decode cX4_freeColumns 46 = .ok (.getfield 15, 3) := by decide +kernel
theorem dX4_freeColumns_49 : decode cX4_freeColumns 49 = .ok (.iload_n 1, 1) := by decide +kernel
theorem dX4_freeColumns_50 : decode cX4_freeColumns 50 = .ok (.iload_n 2, 1) := by decide +kernel
theorem dX4_freeColumns_51 : decode cX4_freeColumns 51 = .ok (.iload 5, 2) := by decide +kernel
theorem dX4_freeColumns_53 : decode cX4_freeColumns 53 = .ok (.invokevirtual 42, 3) := by decide +kernel
theorem dX4_freeColumns_56 : decode cX4_freeColumns 56 = .ok (.istore 6, 2) := by decide +kernel
theorem dX4_freeColumns_58 : decode cX4_freeColumns 58 = .ok (.iconst 0, 1) := by decide +kernel
theorem dX4_freeColumns_59 : decode cX4_freeColumns 59 = .ok (.istore 7, 2) := by decide +kernel
theorem dX4_freeColumns_61 : decode cX4_freeColumns 61 = .ok (.iload 7, 2) := by decide +kernel
theorem dX4_freeColumns_63 : decode cX4_freeColumns 63 = .ok (.iload_n 2, 1) := by decide +kernel
theorem dX4_freeColumns_64 : decode cX4_freeColumns 64 = .ok (.invokestatic 35, 3) := by decide +kernel
theorem dX4_freeColumns_67 : decode cX4_freeColumns 67 = .ok (.if_icmp .ge 38, 3) := by decide +kernel
theorem dX4_freeColumns_70 : decode cX4_freeColumns 70 = .ok (.iload 6, 2) := by decide +kernel
theorem dX4_freeColumns_72 : decode cX4_freeColumns 72 = .ok (.iload 7, 2) := by decide +kernel
theorem dX4_freeColumns_74 : decode cX4_freeColumns 74 = .ok (.ishr, 1) := by decide +kernel
theorem dX4_freeColumns_75 : decode cX4_freeColumns 75 = .ok (.iconst 1, 1) := by decide +kernel
theorem dX4_freeColumns_76 : decode cX4_freeColumns 76 = .ok (.iand, 1) := by decide +kernel
theorem dX4_freeColumns_77 : decode cX4_freeColumns 77 = .ok (.ifCond .eq 22, 3) := by decide +kernel
theorem dX4_freeColumns_80 : decode cX4_freeColumns 80 = .ok (.iload 4, 2) := by decide +kernel
theorem dX4_freeColumns_82 : decode cX4_freeColumns 82 = .ok (.aload_n 0, 1) := by decide +kernel
theorem dX4_freeColumns_83 : decode cX4_freeColumns 83 = .ok (.getfield 9, 3) := by decide +kernel
theorem dX4_freeColumns_86 : decode cX4_freeColumns 86 = .ok (.iload_n 3, 1) := by decide +kernel
theorem dX4_freeColumns_87 : decode cX4_freeColumns 87 = .ok (.iload 5, 2) := by decide +kernel
theorem dX4_freeColumns_89 : decode cX4_freeColumns 89 = .ok (.iadd, 1) := by decide +kernel
theorem dX4_freeColumns_90 : decode cX4_freeColumns 90 = .ok (.iaload, 1) := by decide +kernel
theorem dX4_freeColumns_91 : decode cX4_freeColumns 91 = .ok (.iload 7, 2) := by decide +kernel
theorem dX4_freeColumns_93 : decode cX4_freeColumns 93 = .ok (.ishr, 1) := by decide +kernel
theorem dX4_freeColumns_94 : decode cX4_freeColumns 94 = .ok (.iconst (-1), 1) := by decide +kernel
theorem dX4_freeColumns_95 : decode cX4_freeColumns 95 = .ok (.ixor, 1) := by decide +kernel
theorem dX4_freeColumns_96 : decode cX4_freeColumns 96 = .ok (.iand, 1) := by decide +kernel
theorem dX4_freeColumns_97 : decode cX4_freeColumns 97 = .ok (.istore 4, 2) := by decide +kernel
theorem dX4_freeColumns_99 : decode cX4_freeColumns 99 = .ok (.iinc 7 1, 3) := by decide +kernel
theorem dX4_freeColumns_102 : decode cX4_freeColumns 102 = .ok (.goto (-41), 3) := by decide +kernel
theorem dX4_freeColumns_105 : decode cX4_freeColumns 105 = .ok (.iinc 5 1, 3) := by decide +kernel
theorem dX4_freeColumns_108 : decode cX4_freeColumns 108 = .ok (.goto (-72), 3) := by decide +kernel
theorem dX4_freeColumns_111 : decode cX4_freeColumns 111 = .ok (.iload 4, 2) := by decide +kernel
theorem dX4_freeColumns_113 : decode cX4_freeColumns 113 = .ok (.ireturn, 1) := by decide +kernel
theorem dX4_cutOut_0 : decode cX4_cutOut 0 = .ok (.iload_n 2, 1) := by decide +kernel
theorem dX4_cutOut_1 : decode cX4_cutOut 1 = .ok (.iload_n 3, 1) := by decide +kernel
theorem dX4_cutOut_2 : decode cX4_cutOut 2 = .ok (.iload 4, 2) := by decide +kernel
theorem dX4_cutOut_4 : decode cX4_cutOut 4 = .ok (.invokestatic 31, 3) := by decide +kernel
theorem dX4_cutOut_7 : decode cX4_cutOut 7 = .ok (.ifCond .ne 4, 3) := by decide +kernel
theorem dX4_cutOut_10 : decode cX4_cutOut 10 = .ok (.return_, 1) := by decide +kernel
theorem dX4_cutOut_11 : decode cX4_cutOut 11 = .ok (.iconst 0, 1) := by decide +kernel
theorem dX4_cutOut_12 : decode cX4_cutOut 12 = .ok (.istore 5, 2) := by decide +kernel
theorem dX4_cutOut_14 : decode cX4_cutOut 14 = .ok (.iload 5, 2) := by decide +kernel
theorem dX4_cutOut_16 : decode cX4_cutOut 16 = .ok (.iload_n 2, 1) := by decide +kernel
theorem dX4_cutOut_17 : decode cX4_cutOut 17 = .ok (.invokestatic 39, 3) := by decide +kernel
theorem dX4_cutOut_20 : decode cX4_cutOut 20 = .ok (.if_icmp .ge 35, 3) := by decide +kernel
theorem dX4_cutOut_23 : decode cX4_cutOut 23 = .ok (.aload_n 0, 1) := by decide +kernel
theorem dX4_cutOut_24 : decode cX4_cutOut 24 = .ok (.getfield 9, 3) := by decide +kernel
theorem dX4_cutOut_27 : decode cX4_cutOut 27 = .ok (.iload_n 3, 1) := by decide +kernel
theorem dX4_cutOut_28 : decode cX4_cutOut 28 = .ok (.iload 5, 2) := by decide +kernel
theorem dX4_cutOut_30 : decode cX4_cutOut 30 = .ok (.iadd, 1) := by decide +kernel
theorem dX4_cutOut_31 : decode cX4_cutOut 31 = .ok (.dup2, 1) := by decide +kernel
theorem dX4_cutOut_32 : decode cX4_cutOut 32 = .ok (.iaload, 1) := by decide +kernel
theorem dX4_cutOut_33 : decode cX4_cutOut 33 = .ok (.aload_n 0, 1) := by decide +kernel
theorem dX4_cutOut_34 : decode cX4_cutOut 34 = .ok (.getfield 15, 3) := by decide +kernel
theorem dX4_cutOut_37 : decode cX4_cutOut 37 = .ok (.iload_n 1, 1) := by decide +kernel
theorem dX4_cutOut_38 : decode cX4_cutOut 38 = .ok (.iload_n 2, 1) := by decide +kernel
theorem dX4_cutOut_39 : decode cX4_cutOut 39 = .ok (.iload 5, 2) := by decide +kernel
theorem dX4_cutOut_41 : decode cX4_cutOut 41 = .ok (.invokevirtual 42, 3) := by decide +kernel
theorem dX4_cutOut_44 : decode cX4_cutOut 44 = .ok (.iload 4, 2) := by decide +kernel
theorem dX4_cutOut_46 : decode cX4_cutOut 46 = .ok (.ishl, 1) := by decide +kernel
theorem dX4_cutOut_47 : decode cX4_cutOut 47 = .ok (.ior, 1) := by decide +kernel
theorem dX4_cutOut_48 : decode cX4_cutOut 48 = .ok (.iastore, 1) := by decide +kernel
theorem dX4_cutOut_49 : decode cX4_cutOut 49 = .ok (.iinc 5 1, 3) := by decide +kernel
theorem dX4_cutOut_52 : decode cX4_cutOut 52 = .ok (.goto (-38), 3) := by decide +kernel
theorem dX4_cutOut_55 : decode cX4_cutOut 55 = .ok (.return_, 1) := by decide +kernel
theorem dX4_isOnSheet_0 : decode cX4_isOnSheet 0 = .ok (.iload_n 1, 1) := by decide +kernel
theorem dX4_isOnSheet_1 : decode cX4_isOnSheet 1 = .ok (.ifCond .lt 33, 3) := by decide +kernel
theorem dX4_isOnSheet_4 : decode cX4_isOnSheet 4 = .ok (.iload_n 1, 1) := by decide +kernel
theorem dX4_isOnSheet_5 : decode cX4_isOnSheet 5 = .ok (.bipush 9, 2) := by decide +kernel
theorem dX4_isOnSheet_7 : decode cX4_isOnSheet 7 = .ok (.iload_n 0, 1) := by decide +kernel
theorem dX4_isOnSheet_8 : decode cX4_isOnSheet 8 = .ok (.invokestatic 39, 3) := by decide +kernel
theorem dX4_isOnSheet_11 : decode cX4_isOnSheet 11 = .ok (.isub, 1) := by decide +kernel
theorem dX4_isOnSheet_12 : decode cX4_isOnSheet 12 = .ok (.if_icmp .gt 22, 3) := by decide +kernel
theorem dX4_isOnSheet_15 : decode cX4_isOnSheet 15 = .ok (.iload_n 2, 1) := by decide +kernel
theorem dX4_isOnSheet_16 : decode cX4_isOnSheet 16 = .ok (.ifCond .lt 18, 3) := by decide +kernel
theorem dX4_isOnSheet_19 : decode cX4_isOnSheet 19 = .ok (.iload_n 2, 1) := by decide +kernel
theorem dX4_isOnSheet_20 : decode cX4_isOnSheet 20 = .ok (.bipush 14, 2) := by decide +kernel
theorem dX4_isOnSheet_22 : decode cX4_isOnSheet 22 = .ok (.iload_n 0, 1) := by decide +kernel
theorem dX4_isOnSheet_23 : decode cX4_isOnSheet 23 = .ok (.invokestatic 35, 3) := by decide +kernel
theorem dX4_isOnSheet_26 : decode cX4_isOnSheet 26 = .ok (.isub, 1) := by decide +kernel
theorem dX4_isOnSheet_27 : decode cX4_isOnSheet 27 = .ok (.if_icmp .gt 7, 3) := by decide +kernel
theorem dX4_isOnSheet_30 : decode cX4_isOnSheet 30 = .ok (.iconst 1, 1) := by decide +kernel
theorem dX4_isOnSheet_31 : decode cX4_isOnSheet 31 = .ok (.goto 4, 3) := by decide +kernel
theorem dX4_isOnSheet_34 : decode cX4_isOnSheet 34 = .ok (.iconst 0, 1) := by decide +kernel
theorem dX4_isOnSheet_35 : decode cX4_isOnSheet 35 = .ok (.ireturn, 1) := by decide +kernel
theorem dX4_firstFit_0 : decode cX4_firstFit 0 = .ok (.iconst 0, 1) := by decide +kernel
theorem dX4_firstFit_1 : decode cX4_firstFit 1 = .ok (.istore_n 3, 1) := by decide +kernel
theorem dX4_firstFit_2 : decode cX4_firstFit 2 = .ok (.iload_n 3, 1) := by decide +kernel
theorem dX4_firstFit_3 : decode cX4_firstFit 3 = .ok (.bipush 9, 2) := by decide +kernel
theorem dX4_firstFit_5 : decode cX4_firstFit 5 = .ok (.if_icmp .ge 89, 3) := by decide +kernel
theorem dX4_firstFit_8 : decode cX4_firstFit 8 = .ok (.bipush 14, 2) := by decide +kernel
theorem dX4_firstFit_10 : decode cX4_firstFit 10 = .ok (.istore 4, 2) := by decide +kernel
theorem dX4_firstFit_12 : decode cX4_firstFit 12 = .ok (.bipush (-6), 2) := by decide +kernel
theorem dX4_firstFit_14 : decode cX4_firstFit 14 = .ok (.istore 5, 2) := by decide +kernel
theorem dX4_firstFit_16 : decode cX4_firstFit 16 = .ok (.iconst 0, 1) := by decide +kernel
theorem dX4_firstFit_17 : decode cX4_firstFit 17 = .ok (.istore 6, 2) := by decide +kernel
theorem dX4_firstFit_19 : decode cX4_firstFit 19 = .ok (.iload 6, 2) := by decide +kernel
theorem dX4_firstFit_21 : decode cX4_firstFit 21 = .ok (.iconst 4, 1) := by decide +kernel
theorem dX4_firstFit_22 : decode cX4_firstFit 22 = .ok (.if_icmp .ge 45, 3) := by decide +kernel
theorem dX4_firstFit_25 : decode cX4_firstFit 25 = .ok (.iload_n 2, 1) := by decide +kernel
theorem dX4_firstFit_26 : decode cX4_firstFit 26 = .ok (.iconst 4, 1) := by decide +kernel
theorem dX4_firstFit_27 : decode cX4_firstFit 27 = .ok (.imul, 1) := by decide +kernel
theorem dX4_firstFit_28 : decode cX4_firstFit 28 = .ok (.iload 6, 2) := by decide +kernel
theorem dX4_firstFit_30 : decode cX4_firstFit 30 = .ok (.iadd, 1) := by decide +kernel
theorem dX4_firstFit_31 : decode cX4_firstFit 31 = .ok (.istore 7, 2) := by decide +kernel
theorem dX4_firstFit_33 : decode cX4_firstFit 33 = .ok (.aload_n 0, 1) := by decide +kernel
theorem dX4_firstFit_34 : decode cX4_firstFit 34 = .ok (.iload_n 1, 1) := by decide +kernel
theorem dX4_firstFit_35 : decode cX4_firstFit 35 = .ok (.iload 7, 2) := by decide +kernel
theorem dX4_firstFit_37 : decode cX4_firstFit 37 = .ok (.iload_n 3, 1) := by decide +kernel
theorem dX4_firstFit_38 : decode cX4_firstFit 38 = .ok (.invokevirtual 27, 3) := by decide +kernel
theorem dX4_firstFit_41 : decode cX4_firstFit 41 = .ok (.invokestatic 47, 3) := by decide +kernel
theorem dX4_firstFit_44 : decode cX4_firstFit 44 = .ok (.istore 8, 2) := by decide +kernel
theorem dX4_firstFit_46 : decode cX4_firstFit 46 = .ok (.iload 8, 2) := by decide +kernel
theorem dX4_firstFit_48 : decode cX4_firstFit 48 = .ok (.iload 4, 2) := by decide +kernel
theorem dX4_firstFit_50 : decode cX4_firstFit 50 = .ok (.if_icmp .ge 11, 3) := by decide +kernel
theorem dX4_firstFit_53 : decode cX4_firstFit 53 = .ok (.iload 8, 2) := by decide +kernel
theorem dX4_firstFit_55 : decode cX4_firstFit 55 = .ok (.istore 4, 2) := by decide +kernel
theorem dX4_firstFit_57 : decode cX4_firstFit 57 = .ok (.iload 7, 2) := by decide +kernel
theorem dX4_firstFit_59 : decode cX4_firstFit 59 = .ok (.istore 5, 2) := by decide +kernel
theorem dX4_firstFit_61 : decode cX4_firstFit 61 = .ok (.iinc 6 1, 3) := by decide +kernel
theorem dX4_firstFit_64 : decode cX4_firstFit 64 = .ok (.goto (-45), 3) := by decide +kernel
theorem dX4_firstFit_67 : decode cX4_firstFit 67 = .ok (.iload 5, 2) := by decide +kernel
theorem dX4_firstFit_69 : decode cX4_firstFit 69 = .ok (.bipush (-6), 2) := by decide +kernel
theorem dX4_firstFit_71 : decode cX4_firstFit 71 = .ok (.if_icmp .eq 17, 3) := by decide +kernel
theorem dX4_firstFit_74 : decode cX4_firstFit 74 = .ok (.iload_n 3, 1) := by decide +kernel
theorem dX4_firstFit_75 : decode cX4_firstFit 75 = .ok (.bipush 14, 2) := by decide +kernel
theorem dX4_firstFit_77 : decode cX4_firstFit 77 = .ok (.imul, 1) := by decide +kernel
theorem dX4_firstFit_78 : decode cX4_firstFit 78 = .ok (.iload 4, 2) := by decide +kernel
theorem dX4_firstFit_80 : decode cX4_firstFit 80 = .ok (.iadd, 1) := by decide +kernel
theorem dX4_firstFit_81 : decode cX4_firstFit 81 = .ok (.bipush 8, 2) := by decide +kernel
theorem dX4_firstFit_83 : decode cX4_firstFit 83 = .ok (.imul, 1) := by decide +kernel
theorem dX4_firstFit_84 : decode cX4_firstFit 84 = .ok (.iload 5, 2) := by decide +kernel
theorem dX4_firstFit_86 : decode cX4_firstFit 86 = .ok (.iadd, 1) := by decide +kernel
theorem dX4_firstFit_87 : decode cX4_firstFit 87 = .ok (.ireturn, 1) := by decide +kernel
theorem dX4_firstFit_88 : decode cX4_firstFit 88 = .ok (.iinc 3 1, 3) := by decide +kernel
theorem dX4_firstFit_91 : decode cX4_firstFit 91 = .ok (.goto (-89), 3) := by decide +kernel
theorem dX4_firstFit_94 : decode cX4_firstFit 94 = .ok (.bipush (-6), 2) := by decide +kernel
theorem dX4_firstFit_96 : decode cX4_firstFit 96 = .ok (.ireturn, 1) := by decide +kernel
theorem dX4_cutUp_0 : decode cX4_cutUp 0 = .ok (.iconst 0, 1) := by decide +kernel
theorem dX4_cutUp_1 : decode cX4_cutUp 1 = .ok (.istore_n 3, 1) := by decide +kernel
theorem dX4_cutUp_2 : decode cX4_cutUp 2 = .ok (.iload_n 3, 1) := by decide +kernel
theorem dX4_cutUp_3 : decode cX4_cutUp 3 = .ok (.bipush 126, 2) := by decide +kernel
theorem dX4_cutUp_5 : decode cX4_cutUp 5 = .ok (.if_icmp .ge 46, 3) := by decide +kernel
theorem dX4_cutUp_8 : decode cX4_cutUp 8 = .ok (.aload_n 0, 1) := by decide +kernel
theorem dX4_cutUp_9 : decode cX4_cutUp 9 = .ok (.iload_n 1, 1) := by decide +kernel
theorem dX4_cutUp_10 : decode cX4_cutUp 10 = .ok (.iload_n 2, 1) := by decide +kernel
theorem dX4_cutUp_11 : decode cX4_cutUp 11 = .ok (.invokevirtual 50, 3) := by decide +kernel
theorem dX4_cutUp_14 : decode cX4_cutUp 14 = .ok (.istore 4, 2) := by decide +kernel
theorem dX4_cutUp_16 : decode cX4_cutUp 16 = .ok (.iload 4, 2) := by decide +kernel
theorem dX4_cutUp_18 : decode cX4_cutUp 18 = .ok (.bipush (-6), 2) := by decide +kernel
theorem dX4_cutUp_20 : decode cX4_cutUp 20 = .ok (.if_icmp .ne 5, 3) := by decide +kernel
theorem dX4_cutUp_23 : decode cX4_cutUp 23 = .ok (.iload_n 3, 1) := by decide +kernel
theorem dX4_cutUp_24 : decode cX4_cutUp 24 = .ok (.ireturn, 1) := by decide +kernel
theorem dX4_cutUp_25 : decode cX4_cutUp 25 = .ok (.aload_n 0, 1) := by decide +kernel
theorem dX4_cutUp_26 : decode cX4_cutUp 26 = .ok (.iload_n 1, 1) := by decide +kernel
theorem dX4_cutUp_27 : decode cX4_cutUp 27 = .ok (.iload 4, 2) := by decide +kernel
theorem dX4_cutUp_29 : decode cX4_cutUp 29 = .ok (.invokestatic 54, 3) := by decide +kernel
theorem dX4_cutUp_32 : decode cX4_cutUp 32 = .ok (.iload 4, 2) := by decide +kernel
theorem dX4_cutUp_34 : decode cX4_cutUp 34 = .ok (.invokestatic 57, 3) := by decide +kernel
theorem dX4_cutUp_37 : decode cX4_cutUp 37 = .ok (.iload 4, 2) := by decide +kernel
theorem dX4_cutUp_39 : decode cX4_cutUp 39 = .ok (.invokestatic 60, 3) := by decide +kernel
theorem dX4_cutUp_42 : decode cX4_cutUp 42 = .ok (.invokevirtual 63, 3) := by decide +kernel
theorem dX4_cutUp_45 : decode cX4_cutUp 45 = .ok (.iinc 3 1, 3) := by decide +kernel
theorem dX4_cutUp_48 : decode cX4_cutUp 48 = .ok (.goto (-46), 3) := by decide +kernel
theorem dX4_cutUp_51 : decode cX4_cutUp 51 = .ok (.iload_n 3, 1) := by decide +kernel
theorem dX4_cutUp_52 : decode cX4_cutUp 52 = .ok (.ireturn, 1) := by decide +kernel
theorem dX4_allFits_0 : decode cX4_allFits 0 = .ok (.iconst 0, 1) := by decide +kernel
theorem dX4_allFits_1 : decode cX4_allFits 1 = .ok (.istore_n 2, 1) := by decide +kernel
theorem dX4_allFits_2 : decode cX4_allFits 2 = .ok (.iconst 0, 1) := by decide +kernel
theorem dX4_allFits_3 : decode cX4_allFits 3 = .ok (.istore_n 3, 1) := by decide +kernel
theorem dX4_allFits_4 : decode cX4_allFits 4 = .ok (.iload_n 3, 1) := by decide +kernel
theorem dX4_allFits_5 : decode cX4_allFits 5 = .ok (.bipush 8, 2) := by decide +kernel
theorem dX4_allFits_7 : decode cX4_allFits 7 = .ok (.if_icmp .ge 39, 3) := by decide +kernel
theorem dX4_allFits_10 : decode cX4_allFits 10 = .ok (.iconst 0, 1) := by decide +kernel
theorem dX4_allFits_11 : decode cX4_allFits 11 = .ok (.istore 4, 2) := by decide +kernel
theorem dX4_allFits_13 : decode cX4_allFits 13 = .ok (.iload 4, 2) := by decide +kernel
theorem dX4_allFits_15 : decode cX4_allFits 15 = .ok (.bipush 9, 2) := by decide +kernel
theorem dX4_allFits_17 : decode cX4_allFits 17 = .ok (.if_icmp .ge 23, 3) := by decide +kernel
theorem dX4_allFits_20 : decode cX4_allFits 20 = .ok (.iload_n 2, 1) := by decide +kernel
theorem dX4_allFits_21 : decode cX4_allFits 21 = .ok (.aload_n 0, 1) := by decide +kernel
theorem dX4_allFits_22 : decode cX4_allFits 22 = .ok (.iload_n 1, 1) := by decide +kernel
theorem dX4_allFits_23 : decode cX4_allFits 23 = .ok (.iload_n 3, 1) := by decide +kernel
theorem dX4_allFits_24 : decode cX4_allFits 24 = .ok (.iload 4, 2) := by decide +kernel
theorem dX4_allFits_26 : decode cX4_allFits 26 = .ok (.invokevirtual 27, 3) := by decide +kernel
theorem dX4_allFits_29 : decode cX4_allFits 29 = .ok (.invokestatic 67, 3) := by decide +kernel
theorem dX4_allFits_32 : decode cX4_allFits 32 = .ok (.iadd, 1) := by decide +kernel
theorem dX4_allFits_33 : decode cX4_allFits 33 = .ok (.istore_n 2, 1) := by decide +kernel
theorem dX4_allFits_34 : decode cX4_allFits 34 = .ok (.iinc 4 1, 3) := by decide +kernel
theorem dX4_allFits_37 : decode cX4_allFits 37 = .ok (.goto (-24), 3) := by decide +kernel
theorem dX4_allFits_40 : decode cX4_allFits 40 = .ok (.iinc 3 1, 3) := by decide +kernel
theorem dX4_allFits_43 : decode cX4_allFits 43 = .ok (.goto (-39), 3) := by decide +kernel
theorem dX4_allFits_46 : decode cX4_allFits 46 = .ok (.iload_n 2, 1) := by decide +kernel
theorem dX4_allFits_47 : decode cX4_allFits 47 = .ok (.ireturn, 1) := by decide +kernel
theorem dX4_lettersThatFit_0 : decode cX4_lettersThatFit 0 = .ok (.iconst 0, 1) := by decide +kernel
theorem dX4_lettersThatFit_1 : decode cX4_lettersThatFit 1 = .ok (.istore_n 1, 1) := by decide +kernel
theorem dX4_lettersThatFit_2 : decode cX4_lettersThatFit 2 = .ok (.iconst 0, 1) := by decide +kernel
theorem dX4_lettersThatFit_3 : decode cX4_lettersThatFit 3 = .ok (.istore_n 2, 1) := by decide +kernel
theorem dX4_lettersThatFit_4 : decode cX4_lettersThatFit 4 = .ok (.iload_n 2, 1) := by decide +kernel
theorem dX4_lettersThatFit_5 : decode cX4_lettersThatFit 5 = .ok (.bipush 8, 2) := by decide +kernel
theorem dX4_lettersThatFit_7 : decode cX4_lettersThatFit 7 = .ok (.if_icmp .ge 37, 3) := by decide +kernel
theorem dX4_lettersThatFit_10 : decode cX4_lettersThatFit 10 = .ok (.aload_n 0, 1) := by decide +kernel
theorem dX4_lettersThatFit_11 : decode cX4_lettersThatFit 11 = .ok (.iload_n 2, 1) := by decide +kernel
theorem dX4_lettersThatFit_12 : decode cX4_lettersThatFit 12 = .ok (.iconst 0, 1) := by decide +kernel
theorem dX4_lettersThatFit_13 : decode cX4_lettersThatFit 13 = .ok (.invokevirtual 50, 3) := by decide +kernel
theorem dX4_lettersThatFit_16 : decode cX4_lettersThatFit 16 = .ok (.bipush (-6), 2) := by decide +kernel
theorem dX4_lettersThatFit_18 : decode cX4_lettersThatFit 18 = .ok (.if_icmp .ne 14, 3) := by decide +kernel
theorem dX4_lettersThatFit_21 : decode cX4_lettersThatFit 21 = .ok (.aload_n 0, 1) := by decide +kernel
theorem dX4_lettersThatFit_22 : decode cX4_lettersThatFit 22 = .ok (.iload_n 2, 1) := by decide +kernel
theorem dX4_lettersThatFit_23 : decode cX4_lettersThatFit 23 = .ok (.iconst 1, 1) := by decide +kernel
theorem dX4_lettersThatFit_24 : decode cX4_lettersThatFit 24 = .ok (.invokevirtual 50, 3) := by decide +kernel
theorem dX4_lettersThatFit_27 : decode cX4_lettersThatFit 27 = .ok (.bipush (-6), 2) := by decide +kernel
theorem dX4_lettersThatFit_29 : decode cX4_lettersThatFit 29 = .ok (.if_icmp .eq 9, 3) := by decide +kernel
theorem dX4_lettersThatFit_32 : decode cX4_lettersThatFit 32 = .ok (.iload_n 1, 1) := by decide +kernel
theorem dX4_lettersThatFit_33 : decode cX4_lettersThatFit 33 = .ok (.iconst 1, 1) := by decide +kernel
theorem dX4_lettersThatFit_34 : decode cX4_lettersThatFit 34 = .ok (.iload_n 2, 1) := by decide +kernel
theorem dX4_lettersThatFit_35 : decode cX4_lettersThatFit 35 = .ok (.ishl, 1) := by decide +kernel
theorem dX4_lettersThatFit_36 : decode cX4_lettersThatFit 36 = .ok (.ior, 1) := by decide +kernel
theorem dX4_lettersThatFit_37 : decode cX4_lettersThatFit 37 = .ok (.istore_n 1, 1) := by decide +kernel
theorem dX4_lettersThatFit_38 : decode cX4_lettersThatFit 38 = .ok (.iinc 2 1, 3) := by decide +kernel
theorem dX4_lettersThatFit_41 : decode cX4_lettersThatFit 41 = .ok (.goto (-37), 3) := by decide +kernel
theorem dX4_lettersThatFit_44 : decode cX4_lettersThatFit 44 = .ok (.iload_n 1, 1) := by decide +kernel
theorem dX4_lettersThatFit_45 : decode cX4_lettersThatFit 45 = .ok (.ireturn, 1) := by decide +kernel
theorem dX4_squaresLeft_0 : decode cX4_squaresLeft 0 = .ok (.bipush 126, 2) := by decide +kernel
theorem dX4_squaresLeft_2 : decode cX4_squaresLeft 2 = .ok (.istore_n 1, 1) := by decide +kernel
theorem dX4_squaresLeft_3 : decode cX4_squaresLeft 3 = .ok (.iconst 0, 1) := by decide +kernel
theorem dX4_squaresLeft_4 : decode cX4_squaresLeft 4 = .ok (.istore_n 2, 1) := by decide +kernel
theorem dX4_squaresLeft_5 : decode cX4_squaresLeft 5 = .ok (.iload_n 2, 1) := by decide +kernel
theorem dX4_squaresLeft_6 : decode cX4_squaresLeft 6 = .ok (.bipush 9, 2) := by decide +kernel
theorem dX4_squaresLeft_8 : decode cX4_squaresLeft 8 = .ok (.if_icmp .ge 21, 3) := by decide +kernel
theorem dX4_squaresLeft_11 : decode cX4_squaresLeft 11 = .ok (.iload_n 1, 1) := by decide +kernel
theorem dX4_squaresLeft_12 : decode cX4_squaresLeft 12 = .ok (.aload_n 0, 1) := by decide +kernel
theorem dX4_squaresLeft_13 : decode cX4_squaresLeft 13 = .ok (.getfield 9, 3) := by decide +kernel
theorem dX4_squaresLeft_16 : decode cX4_squaresLeft 16 = .ok (.iload_n 2, 1) := by decide +kernel
theorem dX4_squaresLeft_17 : decode cX4_squaresLeft 17 = .ok (.iaload, 1) := by decide +kernel
theorem dX4_squaresLeft_18 : decode cX4_squaresLeft 18 = .ok (.invokestatic 67, 3) := by decide +kernel
theorem dX4_squaresLeft_21 : decode cX4_squaresLeft 21 = .ok (.isub, 1) := by decide +kernel
theorem dX4_squaresLeft_22 : decode cX4_squaresLeft 22 = .ok (.istore_n 1, 1) := by decide +kernel
theorem dX4_squaresLeft_23 : decode cX4_squaresLeft 23 = .ok (.iinc 2 1, 3) := by decide +kernel
theorem dX4_squaresLeft_26 : decode cX4_squaresLeft 26 = .ok (.goto (-21), 3) := by decide +kernel
theorem dX4_squaresLeft_29 : decode cX4_squaresLeft 29 = .ok (.iload_n 1, 1) := by decide +kernel
theorem dX4_squaresLeft_30 : decode cX4_squaresLeft 30 = .ok (.ireturn, 1) := by decide +kernel
theorem dX5_init_0 : decode cX5_init 0 = .ok (.aload_n 0, 1) := by decide +kernel
theorem dX5_init_1 : decode cX5_init 1 = .ok (.invokespecial 3, 3) := by decide +kernel
theorem dX5_init_4 : decode cX5_init 4 = .ok (.aload_n 0, 1) := by decide +kernel
theorem dX5_init_5 : decode cX5_init 5 = .ok (.bipush 6, 2) := by decide +kernel
theorem dX5_init_7 : decode cX5_init 7 = .ok (.anewarray 9, 3) := by decide +kernel
theorem dX5_init_10 : decode cX5_init 10 = .ok (.putfield 11, 3) := by decide +kernel
theorem dX5_init_13 : decode cX5_init 13 = .ok (.aload_n 0, 1) := by decide +kernel
theorem dX5_init_14 : decode cX5_init 14 = .ok (.bipush 48, 2) := by decide +kernel
theorem dX5_init_16 : decode cX5_init 16 = .ok (.anewarray 17, 3) := by decide +kernel
theorem dX5_init_19 : decode cX5_init 19 = .ok (.putfield 19, 3) := by decide +kernel
theorem dX5_init_22 : decode cX5_init 22 = .ok (.aload_n 0, 1) := by decide +kernel
theorem dX5_init_23 : decode cX5_init 23 = .ok (.bipush 36, 2) := by decide +kernel
theorem dX5_init_25 : decode cX5_init 25 = .ok (.newarray .int, 2) := by decide +kernel
theorem dX5_init_27 : decode cX5_init 27 = .ok (.putfield 23, 3) := by decide +kernel
theorem dX5_init_30 : decode cX5_init 30 = .ok (.aload_n 0, 1) := by decide +kernel
theorem dX5_init_31 : decode cX5_init 31 = .ok (.aload_n 1, 1) := by decide +kernel
theorem dX5_init_32 : decode cX5_init 32 = .ok (.putfield 27, 3) := by decide +kernel
theorem dX5_init_35 : decode cX5_init 35 = .ok (.iconst 0, 1) := by decide +kernel
theorem dX5_init_36 : decode cX5_init 36 = .ok (.istore_n 2, 1) := by decide +kernel
theorem dX5_init_37 : decode cX5_init 37 = .ok (.iload_n 2, 1) := by decide +kernel
theorem dX5_init_38 : decode cX5_init 38 = .ok (.bipush 6, 2) := by decide +kernel
theorem dX5_init_40 : decode cX5_init 40 = .ok (.if_icmp .ge 23, 3) := by decide +kernel
theorem dX5_init_43 : decode cX5_init 43 = .ok (.aload_n 0, 1) := by decide +kernel
theorem dX5_init_44 : decode cX5_init 44 = .ok (.getfield 11, 3) := by decide +kernel
theorem dX5_init_47 : decode cX5_init 47 = .ok (.iload_n 2, 1) := by decide +kernel
theorem dX5_init_48 : decode cX5_init 48 = .ok (.new 9, 3) := by decide +kernel
theorem dX5_init_51 : decode cX5_init 51 = .ok (.dup, 1) := by decide +kernel
theorem dX5_init_52 : decode cX5_init 52 = .ok (.aload_n 1, 1) := by decide +kernel
theorem dX5_init_53 : decode cX5_init 53 = .ok (.invokespecial 31, 3) := by decide +kernel
theorem dX5_init_56 : decode cX5_init 56 = .ok (.aastore, 1) := by decide +kernel
theorem dX5_init_57 : decode cX5_init 57 = .ok (.iinc 2 1, 3) := by decide +kernel
theorem dX5_init_60 : decode cX5_init 60 = .ok (.goto (-23), 3) := by decide +kernel
theorem dX5_init_63 : decode cX5_init 63 = .ok (.iconst 0, 1) := by decide +kernel
theorem dX5_init_64 : decode cX5_init 64 = .ok (.istore_n 2, 1) := by decide +kernel
theorem dX5_init_65 : decode cX5_init 65 = .ok (.iload_n 2, 1) := by decide +kernel
theorem dX5_init_66 : decode cX5_init 66 = .ok (.bipush 48, 2) := by decide +kernel
theorem dX5_init_68 : decode cX5_init 68 = .ok (.if_icmp .ge 22, 3) := by decide +kernel
theorem dX5_init_71 : decode cX5_init 71 = .ok (.aload_n 0, 1) := by decide +kernel
theorem dX5_init_72 : decode cX5_init 72 = .ok (.getfield 19, 3) := by decide +kernel
theorem dX5_init_75 : decode cX5_init 75 = .ok (.iload_n 2, 1) := by decide +kernel
theorem dX5_init_76 : decode cX5_init 76 = .ok (.new 17, 3) := by decide +kernel
theorem dX5_init_79 : decode cX5_init 79 = .ok (.dup, 1) := by decide +kernel
theorem dX5_init_80 : decode cX5_init 80 = .ok (.invokespecial 34, 3) := by decide +kernel
theorem dX5_init_83 : decode cX5_init 83 = .ok (.aastore, 1) := by decide +kernel
theorem dX5_init_84 : decode cX5_init 84 = .ok (.iinc 2 1, 3) := by decide +kernel
theorem dX5_init_87 : decode cX5_init 87 = .ok (.goto (-22), 3) := by decide +kernel
theorem dX5_init_90 : decode cX5_init 90 = .ok (.iconst 0, 1) := by decide +kernel
theorem dX5_init_91 : decode cX5_init 91 = .ok (.istore_n 2, 1) := by decide +kernel
theorem dX5_init_92 : decode cX5_init 92 = .ok (.iload_n 2, 1) := by decide +kernel
theorem dX5_init_93 : decode cX5_init 93 = .ok (.bipush 36, 2) := by decide +kernel
theorem dX5_init_95 : decode cX5_init 95 = .ok (.if_icmp .ge 17, 3) := by decide +kernel
theorem dX5_init_98 : decode cX5_init 98 = .ok (.aload_n 0, 1) := by decide +kernel
theorem dX5_init_99 : decode cX5_init 99 = .ok (.getfield 23, 3) := by decide +kernel
theorem dX5_init_102 : decode cX5_init 102 = .ok (.iload_n 2, 1) := by decide +kernel
theorem dX5_init_103 : decode cX5_init 103 = .ok (.bipush (-6), 2) := by decide +kernel
theorem dX5_init_105 : decode cX5_init 105 = .ok (.iastore, 1) := by decide +kernel
theorem dX5_init_106 : decode cX5_init 106 = .ok (.iinc 2 1, 3) := by decide +kernel
theorem dX5_init_109 : decode cX5_init 109 = .ok (.goto (-17), 3) := by decide +kernel
theorem dX5_init_112 : decode cX5_init 112 = .ok (.return_, 1) := by decide +kernel
theorem dX5_copyFrom_0 : decode cX5_copyFrom 0 = .ok (.aload_n 0, 1) := by decide +kernel
theorem dX5_copyFrom_1 : decode cX5_copyFrom 1 = .ok (.aload_n 1, 1) := by decide +kernel
theorem dX5_copyFrom_2 : decode cX5_copyFrom 2 = .ok (.getfield 35, 3) := by decide +kernel
theorem dX5_copyFrom_5 : decode cX5_copyFrom 5 = .ok (.putfield 35, 3) := by decide +kernel
theorem dX5_copyFrom_8 : decode cX5_copyFrom 8 = .ok (.aload_n 0, 1) := by decide +kernel
theorem dX5_copyFrom_9 : decode cX5_copyFrom 9 = .ok (.aload_n 1, 1) := by decide +kernel
theorem dX5_copyFrom_10 : decode cX5_copyFrom 10 = .ok (.getfield 39, 3) := by decide +kernel
theorem dX5_copyFrom_13 : decode cX5_copyFrom 13 = .ok (.putfield 39, 3) := by decide +kernel
theorem dX5_copyFrom_16 : decode cX5_copyFrom 16 = .ok (.iconst 0, 1) := by decide +kernel
theorem dX5_copyFrom_17 : decode cX5_copyFrom 17 = .ok (.istore_n 2, 1) := by decide +kernel
theorem dX5_copyFrom_18 : decode cX5_copyFrom 18 = .ok (.iload_n 2, 1) := by decide +kernel
theorem dX5_copyFrom_19 : decode cX5_copyFrom 19 = .ok (.bipush 6, 2) := by decide +kernel
theorem dX5_copyFrom_21 : decode cX5_copyFrom 21 = .ok (.if_icmp .ge 24, 3) := by decide +kernel
theorem dX5_copyFrom_24 : decode cX5_copyFrom 24 = .ok (.aload_n 0, 1) := by decide +kernel
theorem dX5_copyFrom_25 : decode cX5_copyFrom 25 = .ok (.getfield 11, 3) := by decide +kernel
theorem dX5_copyFrom_28 : decode cX5_copyFrom 28 = .ok (.iload_n 2, 1) := by decide +kernel
theorem dX5_copyFrom_29 : decode cX5_copyFrom 29 = .ok (.aaload, 1) := by decide +kernel
theorem dX5_copyFrom_30 : decode cX5_copyFrom 30 = .ok (.aload_n 1, 1) := by decide +kernel
theorem dX5_copyFrom_31 : decode cX5_copyFrom 31 = .ok (.getfield 11, 3) := by decide +kernel
theorem dX5_copyFrom_34 : decode cX5_copyFrom 34 = .ok (.iload_n 2, 1) := by decide +kernel
theorem dX5_copyFrom_35 : decode cX5_copyFrom 35 = .ok (.aaload, 1) := by decide +kernel
theorem dX5_copyFrom_36 : decode cX5_copyFrom 36 = .ok (.invokevirtual 42, 3) := by decide +kernel
theorem dX5_copyFrom_39 : decode cX5_copyFrom 39 = .ok (.iinc 2 1, 3) := by decide +kernel
theorem dX5_copyFrom_42 : decode cX5_copyFrom 42 = .ok (.goto (-24), 3) := by decide +kernel
theorem dX5_copyFrom_45 : decode cX5_copyFrom 45 = .ok (.iconst 0, 1) := by decide +kernel
theorem dX5_copyFrom_46 : decode cX5_copyFrom 46 = .ok (.istore_n 2, 1) := by decide +kernel
theorem dX5_copyFrom_47 : decode cX5_copyFrom 47 = .ok (.iload_n 2, 1) := by decide +kernel
theorem dX5_copyFrom_48 : decode cX5_copyFrom 48 = .ok (.bipush 48, 2) := by decide +kernel
theorem dX5_copyFrom_50 : decode cX5_copyFrom 50 = .ok (.if_icmp .ge 24, 3) := by decide +kernel
theorem dX5_copyFrom_53 : decode cX5_copyFrom 53 = .ok (.aload_n 0, 1) := by decide +kernel
theorem dX5_copyFrom_54 : decode cX5_copyFrom 54 = .ok (.getfield 19, 3) := by decide +kernel
theorem dX5_copyFrom_57 : decode cX5_copyFrom 57 = .ok (.iload_n 2, 1) := by decide +kernel
theorem dX5_copyFrom_58 : decode cX5_copyFrom 58 = .ok (.aaload, 1) := by decide +kernel
theorem dX5_copyFrom_59 : decode cX5_copyFrom 59 = .ok (.aload_n 1, 1) := by decide +kernel
theorem dX5_copyFrom_60 : decode cX5_copyFrom 60 = .ok (.getfield 19, 3) := by decide +kernel
theorem dX5_copyFrom_63 : decode cX5_copyFrom 63 = .ok (.iload_n 2, 1) := by decide +kernel
theorem dX5_copyFrom_64 : decode cX5_copyFrom 64 = .ok (.aaload, 1) := by decide +kernel
theorem dX5_copyFrom_65 : decode cX5_copyFrom 65 = .ok (.invokevirtual 46, 3) := by decide +kernel
theorem dX5_copyFrom_68 : decode cX5_copyFrom 68 = .ok (.iinc 2 1, 3) := by decide +kernel
theorem dX5_copyFrom_71 : decode cX5_copyFrom 71 = .ok (.goto (-24), 3) := by decide +kernel
theorem dX5_copyFrom_74 : decode cX5_copyFrom 74 = .ok (.iconst 0, 1) := by decide +kernel
theorem dX5_copyFrom_75 : decode cX5_copyFrom 75 = .ok (.istore_n 2, 1) := by decide +kernel
theorem dX5_copyFrom_76 : decode cX5_copyFrom 76 = .ok (.iload_n 2, 1) := by decide +kernel
theorem dX5_copyFrom_77 : decode cX5_copyFrom 77 = .ok (.bipush 36, 2) := by decide +kernel
theorem dX5_copyFrom_79 : decode cX5_copyFrom 79 = .ok (.if_icmp .ge 21, 3) := by decide +kernel
theorem dX5_copyFrom_82 : decode cX5_copyFrom 82 = .ok (.aload_n 0, 1) := by decide +kernel
theorem dX5_copyFrom_83 : decode cX5_copyFrom 83 = .ok (.getfield 23, 3) := by decide +kernel
theorem dX5_copyFrom_86 : decode cX5_copyFrom 86 = .ok (.iload_n 2, 1) := by decide +kernel
theorem dX5_copyFrom_87 : decode cX5_copyFrom 87 = .ok (.aload_n 1, 1) := by decide +kernel
theorem dX5_copyFrom_88 : decode cX5_copyFrom 88 = .ok (.getfield 23, 3) := by decide +kernel
theorem dX5_copyFrom_91 : decode cX5_copyFrom 91 = .ok (.iload_n 2, 1) := by decide +kernel
theorem dX5_copyFrom_92 : decode cX5_copyFrom 92 = .ok (.iaload, 1) := by decide +kernel
theorem dX5_copyFrom_93 : decode cX5_copyFrom 93 = .ok (.iastore, 1) := by decide +kernel
theorem dX5_copyFrom_94 : decode cX5_copyFrom 94 = .ok (.iinc 2 1, 3) := by decide +kernel
theorem dX5_copyFrom_97 : decode cX5_copyFrom 97 = .ok (.goto (-21), 3) := by decide +kernel
theorem dX5_copyFrom_100 : decode cX5_copyFrom 100 = .ok (.return_, 1) := by decide +kernel
theorem dX5_sheetAt_0 : decode cX5_sheetAt 0 = .ok (.iload_n 1, 1) := by decide +kernel
theorem dX5_sheetAt_1 : decode cX5_sheetAt 1 = .ok (.ifCond .lt 26, 3) := by decide +kernel
theorem dX5_sheetAt_4 : decode cX5_sheetAt 4 = .ok (.iload_n 1, 1) := by decide +kernel
theorem dX5_sheetAt_5 : decode cX5_sheetAt 5 = .ok (.aload_n 0, 1) := by decide +kernel
theorem dX5_sheetAt_6 : decode cX5_sheetAt 6 = .ok (.getfield 35, 3) := by decide +kernel
theorem dX5_sheetAt_9 : decode cX5_sheetAt 9 = .ok (.if_icmp .ge 18, 3) := by decide +kernel
theorem dX5_sheetAt_12 : decode cX5_sheetAt 12 = .ok (.iload_n 1, 1) := by decide +kernel
theorem dX5_sheetAt_13 : decode cX5_sheetAt 13 = .ok (.bipush 6, 2) := by decide +kernel
theorem dX5_sheetAt_15 : decode cX5_sheetAt 15 = .ok (.if_icmp .ge 12, 3) := by decide +kernel
theorem dX5_sheetAt_18 : decode cX5_sheetAt 18 = .ok (.aload_n 0, 1) := by decide +kernel
theorem dX5_sheetAt_19 : decode cX5_sheetAt 19 = .ok (.getfield 11, 3) := by decide +kernel
theorem dX5_sheetAt_22 : decode cX5_sheetAt 22 = .ok (.iload_n 1, 1) := by decide +kernel
theorem dX5_sheetAt_23 : decode cX5_sheetAt 23 = .ok (.aaload, 1) := by decide +kernel
theorem dX5_sheetAt_24 : decode cX5_sheetAt 24 = .ok (.goto 4, 3) := by decide +kernel
theorem dX5_sheetAt_27 : decode cX5_sheetAt 27 = .ok (.aconst_null, 1) := by decide +kernel
theorem dX5_sheetAt_28 : decode cX5_sheetAt 28 = .ok (.areturn, 1) := by decide +kernel
theorem dX5_pieceAt_0 : decode cX5_pieceAt 0 = .ok (.iload_n 1, 1) := by decide +kernel
theorem dX5_pieceAt_1 : decode cX5_pieceAt 1 = .ok (.ifCond .lt 26, 3) := by decide +kernel
theorem dX5_pieceAt_4 : decode cX5_pieceAt 4 = .ok (.iload_n 1, 1) := by decide +kernel
theorem dX5_pieceAt_5 : decode cX5_pieceAt 5 = .ok (.aload_n 0, 1) := by decide +kernel
theorem dX5_pieceAt_6 : decode cX5_pieceAt 6 = .ok (.getfield 39, 3) := by decide +kernel
theorem dX5_pieceAt_9 : decode cX5_pieceAt 9 = .ok (.if_icmp .ge 18, 3) := by decide +kernel
theorem dX5_pieceAt_12 : decode cX5_pieceAt 12 = .ok (.iload_n 1, 1) := by decide +kernel
theorem dX5_pieceAt_13 : decode cX5_pieceAt 13 = .ok (.bipush 48, 2) := by decide +kernel
theorem dX5_pieceAt_15 : decode cX5_pieceAt 15 = .ok (.if_icmp .ge 12, 3) := by decide +kernel
theorem dX5_pieceAt_18 : decode cX5_pieceAt 18 = .ok (.aload_n 0, 1) := by decide +kernel
theorem dX5_pieceAt_19 : decode cX5_pieceAt 19 = .ok (.getfield 19, 3) := by decide +kernel
theorem dX5_pieceAt_22 : decode cX5_pieceAt 22 = .ok (.iload_n 1, 1) := by decide +kernel
theorem dX5_pieceAt_23 : decode cX5_pieceAt 23 = .ok (.aaload, 1) := by decide +kernel
theorem dX5_pieceAt_24 : decode cX5_pieceAt 24 = .ok (.goto 4, 3) := by decide +kernel
theorem dX5_pieceAt_27 : decode cX5_pieceAt 27 = .ok (.aconst_null, 1) := by decide +kernel
theorem dX5_pieceAt_28 : decode cX5_pieceAt 28 = .ok (.areturn, 1) := by decide +kernel
theorem dX5_addSheet_0 : decode cX5_addSheet 0 = .ok (.aload_n 0, 1) := by decide +kernel
theorem dX5_addSheet_1 : decode cX5_addSheet 1 = .ok (.getfield 35, 3) := by decide +kernel
theorem dX5_addSheet_4 : decode cX5_addSheet 4 = .ok (.istore_n 2, 1) := by decide +kernel
theorem dX5_addSheet_5 : decode cX5_addSheet 5 = .ok (.iload_n 2, 1) := by decide +kernel
theorem dX5_addSheet_6 : decode cX5_addSheet 6 = .ok (.ifCond .lt 9, 3) := by decide +kernel
theorem dX5_addSheet_9 : decode cX5_addSheet 9 = .ok (.iload_n 2, 1) := by decide +kernel
theorem dX5_addSheet_10 : decode cX5_addSheet 10 = .ok (.bipush 6, 2) := by decide +kernel
theorem dX5_addSheet_12 : decode cX5_addSheet 12 = .ok (.if_icmp .lt 6, 3) := by decide +kernel
theorem dX5_addSheet_15 : decode cX5_addSheet 15 = .ok (.bipush (-4), 2) := by decide +kernel
theorem dX5_addSheet_17 : decode cX5_addSheet 17 = .ok (.ireturn, 1) := by decide +kernel
theorem dX5_addSheet_18 : decode cX5_addSheet 18 = .ok (.aload_n 0, 1) := by decide +kernel
theorem dX5_addSheet_19 : decode cX5_addSheet 19 = .ok (.getfield 11, 3) := by decide +kernel
theorem dX5_addSheet_22 : decode cX5_addSheet 22 = .ok (.iload_n 2, 1) := by decide +kernel
theorem dX5_addSheet_23 : decode cX5_addSheet 23 = .ok (.aaload, 1) := by decide +kernel
theorem dX5_addSheet_24 : decode cX5_addSheet 24 = .ok (.iload_n 1, 1) := by decide +kernel
theorem dX5_addSheet_25 : decode cX5_addSheet 25 = .ok (.putfield 49, 3) := by decide +kernel
theorem dX5_addSheet_28 : decode cX5_addSheet 28 = .ok (.aload_n 0, 1) := by decide +kernel
theorem dX5_addSheet_29 : decode cX5_addSheet 29 = .ok (.dup, 1) := by decide +kernel
theorem dX5_addSheet_30 : decode cX5_addSheet 30 = .ok (.getfield 35, 3) := by decide +kernel
theorem dX5_addSheet_33 : decode cX5_addSheet 33 = .ok (.iconst 1, 1) := by decide +kernel
theorem dX5_addSheet_34 : decode cX5_addSheet 34 = .ok (.iadd, 1) := by decide +kernel
theorem dX5_addSheet_35 : decode cX5_addSheet 35 = .ok (.putfield 35, 3) := by decide +kernel
theorem dX5_addSheet_38 : decode cX5_addSheet 38 = .ok (.iload_n 2, 1) := by decide +kernel
theorem dX5_addSheet_39 : decode cX5_addSheet 39 = .ok (.ireturn, 1) := by decide +kernel
theorem dX5_cutPiece_0 : decode cX5_cutPiece 0 = .ok (.aload_n 0, 1) := by decide +kernel
theorem dX5_cutPiece_1 : decode cX5_cutPiece 1 = .ok (.iload_n 1, 1) := by decide +kernel
theorem dX5_cutPiece_2 : decode cX5_cutPiece 2 = .ok (.invokevirtual 52, 3) := by decide +kernel
theorem dX5_cutPiece_5 : decode cX5_cutPiece 5 = .ok (.astore 6, 2) := by decide +kernel
theorem dX5_cutPiece_7 : decode cX5_cutPiece 7 = .ok (.aload 6, 2) := by decide +kernel
theorem dX5_cutPiece_9 : decode cX5_cutPiece 9 = .ok (.ifnull 17, 3) := by decide +kernel
theorem dX5_cutPiece_12 : decode cX5_cutPiece 12 = .ok (.aload 6, 2) := by decide +kernel
theorem dX5_cutPiece_14 : decode cX5_cutPiece 14 = .ok (.iload_n 2, 1) := by decide +kernel
theorem dX5_cutPiece_15 : decode cX5_cutPiece 15 = .ok (.iload_n 3, 1) := by decide +kernel
theorem dX5_cutPiece_16 : decode cX5_cutPiece 16 = .ok (.iload 4, 2) := by decide +kernel
theorem dX5_cutPiece_18 : decode cX5_cutPiece 18 = .ok (.iload 5, 2) := by decide +kernel
theorem dX5_cutPiece_20 : decode cX5_cutPiece 20 = .ok (.invokevirtual 56, 3) := by decide +kernel
theorem dX5_cutPiece_23 : decode cX5_cutPiece 23 = .ok (.ifCond .ne 6, 3) := by decide +kernel
theorem dX5_cutPiece_26 : decode cX5_cutPiece 26 = .ok (.bipush (-5), 2) := by decide +kernel
theorem dX5_cutPiece_28 : decode cX5_cutPiece 28 = .ok (.ireturn, 1) := by decide +kernel
theorem dX5_cutPiece_29 : decode cX5_cutPiece 29 = .ok (.aload_n 0, 1) := by decide +kernel
theorem dX5_cutPiece_30 : decode cX5_cutPiece 30 = .ok (.iload_n 1, 1) := by decide +kernel
theorem dX5_cutPiece_31 : decode cX5_cutPiece 31 = .ok (.iload_n 2, 1) := by decide +kernel
theorem dX5_cutPiece_32 : decode cX5_cutPiece 32 = .ok (.iload_n 3, 1) := by decide +kernel
theorem dX5_cutPiece_33 : decode cX5_cutPiece 33 = .ok (.iload 4, 2) := by decide +kernel
theorem dX5_cutPiece_35 : decode cX5_cutPiece 35 = .ok (.iload 5, 2) := by decide +kernel
theorem dX5_cutPiece_37 : decode cX5_cutPiece 37 = .ok (.invokevirtual 60, 3) := by decide +kernel
theorem dX5_cutPiece_40 : decode cX5_cutPiece 40 = .ok (.ireturn, 1) := by decide +kernel
theorem dX5_addPiece_0 : decode cX5_addPiece 0 = .ok (.aload_n 0, 1) := by decide +kernel
theorem dX5_addPiece_1 : decode cX5_addPiece 1 = .ok (.getfield 39, 3) := by decide +kernel
theorem dX5_addPiece_4 : decode cX5_addPiece 4 = .ok (.istore 6, 2) := by decide +kernel
theorem dX5_addPiece_6 : decode cX5_addPiece 6 = .ok (.iload 6, 2) := by decide +kernel
theorem dX5_addPiece_8 : decode cX5_addPiece 8 = .ok (.ifCond .lt 10, 3) := by decide +kernel
theorem dX5_addPiece_11 : decode cX5_addPiece 11 = .ok (.iload 6, 2) := by decide +kernel
theorem dX5_addPiece_13 : decode cX5_addPiece 13 = .ok (.bipush 48, 2) := by decide +kernel
theorem dX5_addPiece_15 : decode cX5_addPiece 15 = .ok (.if_icmp .lt 6, 3) := by decide +kernel
theorem dX5_addPiece_18 : decode cX5_addPiece 18 = .ok (.bipush (-4), 2) := by decide +kernel
theorem dX5_addPiece_20 : decode cX5_addPiece 20 = .ok (.ireturn, 1) := by decide +kernel
theorem dX5_addPiece_21 : decode cX5_addPiece 21 = .ok (.aload_n 0, 1) := by decide +kernel
theorem dX5_addPiece_22 : decode cX5_addPiece 22 = .ok (.iload_n 1, 1) := by decide +kernel
theorem dX5_addPiece_23 : decode cX5_addPiece 23 = .ok (.invokevirtual 52, 3) := by decide +kernel
theorem dX5_addPiece_26 : decode cX5_addPiece 26 = .ok (.astore 7, 2) := by decide +kernel
theorem dX5_addPiece_28 : decode cX5_addPiece 28 = .ok (.aload 7, 2) := by decide +kernel
theorem dX5_addPiece_30 : decode cX5_addPiece 30 = .ok (.ifnonnull 6, 3) := by decide +kernel
theorem dX5_addPiece_33 : decode cX5_addPiece 33 = .ok (.bipush (-5), 2) := by decide +kernel
theorem dX5_addPiece_35 : decode cX5_addPiece 35 = .ok (.ireturn, 1) := by decide +kernel
theorem dX5_addPiece_36 : decode cX5_addPiece 36 = .ok (.aload 7, 2) := by decide +kernel
theorem dX5_addPiece_38 : decode cX5_addPiece 38 = .ok (.iload_n 2, 1) := by decide +kernel
theorem dX5_addPiece_39 : decode cX5_addPiece 39 = .ok (.iload_n 3, 1) := by decide +kernel
theorem dX5_addPiece_40 : decode cX5_addPiece 40 = .ok (.iload 4, 2) := by decide +kernel
theorem dX5_addPiece_42 : decode cX5_addPiece 42 = .ok (.iload 5, 2) := by decide +kernel
theorem dX5_addPiece_44 : decode cX5_addPiece 44 = .ok (.invokevirtual 64, 3) := by decide +kernel
theorem dX5_addPiece_47 : decode cX5_addPiece 47 = .ok (.aload_n 0, 1) := by decide +kernel
theorem dX5_addPiece_48 : decode cX5_addPiece 48 = .ok (.getfield 19, 3) := by decide +kernel
theorem dX5_addPiece_51 : decode cX5_addPiece 51 = .ok (.iload 6, 2) := by decide +kernel
theorem dX5_addPiece_53 : decode cX5_addPiece 53 = .ok (.aaload, 1) := by decide +kernel
theorem dX5_addPiece_54 : decode cX5_addPiece 54 = .ok (.astore 8, 2) := by decide +kernel
theorem dX5_addPiece_56 : decode cX5_addPiece 56 = .ok (.aload 8, 2) := by decide +kernel
theorem dX5_addPiece_58 : decode cX5_addPiece 58 = .ok (.iload_n 2, 1) := by decide +kernel
theorem dX5_addPiece_59 : decode cX5_addPiece 59 = .ok (.putfield 68, 3) := by decide +kernel
theorem dX5_addPiece_62 : decode cX5_addPiece 62 = .ok (.aload 8, 2) := by decide +kernel
theorem dX5_addPiece_64 : decode cX5_addPiece 64 = .ok (.aload 7, 2) := by decide +kernel
theorem dX5_addPiece_66 : decode cX5_addPiece 66 = .ok (.getfield 49, 3) := by decide +kernel
theorem dX5_addPiece_69 : decode cX5_addPiece 69 = .ok (.putfield 71, 3) := by decide +kernel
theorem dX5_addPiece_72 : decode cX5_addPiece 72 = .ok (.aload 8, 2) := by decide +kernel
theorem dX5_addPiece_74 : decode cX5_addPiece 74 = .ok (.iload_n 3, 1) := by decide +kernel
theorem dX5_addPiece_75 : decode cX5_addPiece 75 = .ok (.putfield 72, 3) := by decide +kernel
theorem dX5_addPiece_78 : decode cX5_addPiece 78 = .ok (.aload 8, 2) := by decide +kernel
theorem dX5_addPiece_80 : decode cX5_addPiece 80 = .ok (.iload_n 1, 1) := by decide +kernel
theorem dX5_addPiece_81 : decode cX5_addPiece 81 = .ok (.putfield 75, 3) := by decide +kernel
theorem dX5_addPiece_84 : decode cX5_addPiece 84 = .ok (.aload 8, 2) := by decide +kernel
theorem dX5_addPiece_86 : decode cX5_addPiece 86 = .ok (.iload 4, 2) := by decide +kernel
theorem dX5_addPiece_88 : decode cX5_addPiece 88 = .ok (.bipush 14, 2) := by decide +kernel
theorem dX5_addPiece_90 : decode cX5_addPiece 90 = .ok (.imul, 1) := by decide +kernel
theorem dX5_addPiece_91 : decode cX5_addPiece 91 = .ok (.iload 5, 2) := by decide +kernel
theorem dX5_addPiece_93 : decode cX5_addPiece 93 = .ok (.iadd, 1) := by decide +kernel
theorem dX5_addPiece_94 : decode cX5_addPiece 94 = .ok (.putfield 78, 3) := by decide +kernel
theorem dX5_addPiece_97 : decode cX5_addPiece 97 = .ok (.aload 8, 2) := by decide +kernel
theorem dX5_addPiece_99 : decode cX5_addPiece 99 = .ok (.invokevirtual 81, 3) := by decide +kernel
theorem dX5_addPiece_102 : decode cX5_addPiece 102 = .ok (.aload_n 0, 1) := by decide +kernel
theorem dX5_addPiece_103 : decode cX5_addPiece 103 = .ok (.dup, 1) := by decide +kernel
theorem dX5_addPiece_104 : decode cX5_addPiece 104 = .ok (.getfield 39, 3) := by decide +kernel
theorem dX5_addPiece_107 : decode cX5_addPiece 107 = .ok (.iconst 1, 1) := by decide +kernel
theorem dX5_addPiece_108 : decode cX5_addPiece 108 = .ok (.iadd, 1) := by decide +kernel
theorem dX5_addPiece_109 : decode cX5_addPiece 109 = .ok (.putfield 39, 3) := by decide +kernel
theorem dX5_addPiece_112 : decode cX5_addPiece 112 = .ok (.iload 6, 2) := by decide +kernel
theorem dX5_addPiece_114 : decode cX5_addPiece 114 = .ok (.ireturn, 1) := by decide +kernel
theorem dX5_makePiece_0 : decode cX5_makePiece 0 = .ok (.iconst 0, 1) := by decide +kernel
theorem dX5_makePiece_1 : decode cX5_makePiece 1 = .ok (.istore 4, 2) := by decide +kernel
theorem dX5_makePiece_3 : decode cX5_makePiece 3 = .ok (.iload 4, 2) := by decide +kernel
theorem dX5_makePiece_5 : decode cX5_makePiece 5 = .ok (.aload_n 0, 1) := by decide +kernel
theorem dX5_makePiece_6 : decode cX5_makePiece 6 = .ok (.getfield 35, 3) := by decide +kernel
theorem dX5_makePiece_9 : decode cX5_makePiece 9 = .ok (.if_icmp .ge 73, 3) := by decide +kernel
theorem dX5_makePiece_12 : decode cX5_makePiece 12 = .ok (.aload_n 0, 1) := by decide +kernel
theorem dX5_makePiece_13 : decode cX5_makePiece 13 = .ok (.iload 4, 2) := by decide +kernel
theorem dX5_makePiece_15 : decode cX5_makePiece 15 = .ok (.invokevirtual 52, 3) := by decide +kernel
theorem dX5_makePiece_18 : decode cX5_makePiece 18 = .ok (.astore 5, 2) := by decide +kernel
theorem dX5_makePiece_20 : decode cX5_makePiece 20 = .ok (.aload 5, 2) := by decide +kernel
theorem dX5_makePiece_22 : decode cX5_makePiece 22 = .ok (.ifnull 54, 3) := by decide +kernel
theorem dX5_makePiece_25 : decode cX5_makePiece 25 = .ok (.aload 5, 2) := by decide +kernel
theorem dX5_makePiece_27 : decode cX5_makePiece 27 = .ok (.getfield 49, 3) := by decide +kernel
theorem dX5_makePiece_30 : decode cX5_makePiece 30 = .ok (.iload_n 1, 1) := by decide +kernel
theorem dX5_makePiece_31 : decode cX5_makePiece 31 = .ok (.if_icmp .eq 6, 3) := by decide +kernel
theorem dX5_makePiece_34 : decode cX5_makePiece 34 = .ok (.goto 42, 3) := by decide +kernel
theorem dX5_makePiece_37 : decode cX5_makePiece 37 = .ok (.aload 5, 2) := by decide +kernel
theorem dX5_makePiece_39 : decode cX5_makePiece 39 = .ok (.iload_n 2, 1) := by decide +kernel
theorem dX5_makePiece_40 : decode cX5_makePiece 40 = .ok (.iload_n 3, 1) := by decide +kernel
theorem dX5_makePiece_41 : decode cX5_makePiece 41 = .ok (.invokevirtual 84, 3) := by decide +kernel
theorem dX5_makePiece_44 : decode cX5_makePiece 44 = .ok (.istore 6, 2) := by decide +kernel
theorem dX5_makePiece_46 : decode cX5_makePiece 46 = .ok (.iload 6, 2) := by decide +kernel
theorem dX5_makePiece_48 : decode cX5_makePiece 48 = .ok (.bipush (-6), 2) := by decide +kernel
theorem dX5_makePiece_50 : decode cX5_makePiece 50 = .ok (.if_icmp .eq 26, 3) := by decide +kernel
theorem dX5_makePiece_53 : decode cX5_makePiece 53 = .ok (.aload_n 0, 1) := by decide +kernel
theorem dX5_makePiece_54 : decode cX5_makePiece 54 = .ok (.iload 4, 2) := by decide +kernel
theorem dX5_makePiece_56 : decode cX5_makePiece 56 = .ok (.iload_n 2, 1) := by decide +kernel
theorem dX5_makePiece_57 : decode cX5_makePiece 57 = .ok (.iload 6, 2) := by decide +kernel
theorem dX5_makePiece_59 : decode cX5_makePiece 59 = .ok (.invokestatic 88, 3) := by decide +kernel
theorem dX5_makePiece_62 : decode cX5_makePiece 62 = .ok (.iload 6, 2) := by decide +kernel
theorem dX5_makePiece_64 : decode cX5_makePiece 64 = .ok (.invokestatic 92, 3) := by decide +kernel
theorem dX5_makePiece_67 : decode cX5_makePiece 67 = .ok (.iload 6, 2) := by decide +kernel
theorem dX5_makePiece_69 : decode cX5_makePiece 69 = .ok (.invokestatic 95, 3) := by decide +kernel
theorem dX5_makePiece_72 : decode cX5_makePiece 72 = .ok (.invokevirtual 60, 3) := by decide +kernel
theorem dX5_makePiece_75 : decode cX5_makePiece 75 = .ok (.ireturn, 1) := by decide +kernel
theorem dX5_makePiece_76 : decode cX5_makePiece 76 = .ok (.iinc 4 1, 3) := by decide +kernel
theorem dX5_makePiece_79 : decode cX5_makePiece 79 = .ok (.goto (-76), 3) := by decide +kernel
theorem dX5_makePiece_82 : decode cX5_makePiece 82 = .ok (.bipush (-5), 2) := by decide +kernel
theorem dX5_makePiece_84 : decode cX5_makePiece 84 = .ok (.ireturn, 1) := by decide +kernel
theorem dX5_writeName_0 : decode cX5_writeName 0 = .ok (.iconst 0, 1) := by decide +kernel
theorem dX5_writeName_1 : decode cX5_writeName 1 = .ok (.istore 6, 2) := by decide +kernel
theorem dX5_writeName_3 : decode cX5_writeName 3 = .ok (.iconst 0, 1) := by decide +kernel
theorem dX5_writeName_4 : decode cX5_writeName 4 = .ok (.istore 7, 2) := by decide +kernel
theorem dX5_writeName_6 : decode cX5_writeName 6 = .ok (.iload 7, 2) := by decide +kernel
theorem dX5_writeName_8 : decode cX5_writeName 8 = .ok (.aload_n 1, 1) := by decide +kernel
theorem dX5_writeName_9 : decode cX5_writeName 9 = .ok (.getfield 98, 3) := by decide +kernel
theorem dX5_writeName_12 : decode cX5_writeName 12 = .ok (.if_icmp .ge 86, 3) := by decide +kernel
theorem dX5_writeName_15 : decode cX5_writeName 15 = .ok (.aload_n 1, 1) := by decide +kernel
theorem dX5_writeName_16 : decode cX5_writeName 16 = .ok (.iload 5, 2) := by decide +kernel
theorem dX5_writeName_18 : decode cX5_writeName 18 = .ok (.iconst 1, 1) := by decide +kernel
theorem dX5_writeName_19 : decode cX5_writeName 19 = .ok (.if_icmp .ne 15, 3) := by decide +kernel
theorem dX5_writeName_22 : decode cX5_writeName 22 = .ok (.aload_n 1, 1) := by decide +kernel
theorem dX5_writeName_23 : decode cX5_writeName 23 = .ok (.getfield 98, 3) := by decide +kernel
theorem dX5_writeName_26 : decode cX5_writeName 26 = .ok (.iconst 1, 1) := by decide +kernel
theorem dX5_writeName_27 : decode cX5_writeName 27 = .ok (.isub, 1) := by decide +kernel
theorem dX5_writeName_28 : decode cX5_writeName 28 = .ok (.iload 7, 2) := by decide +kernel
theorem dX5_writeName_30 : decode cX5_writeName 30 = .ok (.isub, 1) := by decide +kernel
theorem dX5_writeName_31 : decode cX5_writeName 31 = .ok (.goto 5, 3) := by decide +kernel
theorem dX5_writeName_34 : decode cX5_writeName 34 = .ok (.iload 7, 2) := by decide +kernel
theorem dX5_writeName_36 : decode cX5_writeName 36 = .ok (.invokevirtual 103, 3) := by decide +kernel
theorem dX5_writeName_39 : decode cX5_writeName 39 = .ok (.istore 8, 2) := by decide +kernel
theorem dX5_writeName_41 : decode cX5_writeName 41 = .ok (.aload_n 0, 1) := by decide +kernel
theorem dX5_writeName_42 : decode cX5_writeName 42 = .ok (.iload 8, 2) := by decide +kernel
theorem dX5_writeName_44 : decode cX5_writeName 44 = .ok (.iload 4, 2) := by decide +kernel
theorem dX5_writeName_46 : decode cX5_writeName 46 = .ok (.iload 5, 2) := by decide +kernel
theorem dX5_writeName_48 : decode cX5_writeName 48 = .ok (.invokevirtual 106, 3) := by decide +kernel
theorem dX5_writeName_51 : decode cX5_writeName 51 = .ok (.istore 9, 2) := by decide +kernel
theorem dX5_writeName_53 : decode cX5_writeName 53 = .ok (.iload 9, 2) := by decide +kernel
theorem dX5_writeName_55 : decode cX5_writeName 55 = .ok (.bipush (-6), 2) := by decide +kernel
theorem dX5_writeName_57 : decode cX5_writeName 57 = .ok (.if_icmp .ne 18, 3) := by decide +kernel
theorem dX5_writeName_60 : decode cX5_writeName 60 = .ok (.aload_n 0, 1) := by decide +kernel
theorem dX5_writeName_61 : decode cX5_writeName 61 = .ok (.iload 4, 2) := by decide +kernel
theorem dX5_writeName_63 : decode cX5_writeName 63 = .ok (.iload 8, 2) := by decide +kernel
theorem dX5_writeName_65 : decode cX5_writeName 65 = .ok (.iload 5, 2) := by decide +kernel
theorem dX5_writeName_67 : decode cX5_writeName 67 = .ok (.invokevirtual 110, 3) := by decide +kernel
theorem dX5_writeName_70 : decode cX5_writeName 70 = .ok (.istore 9, 2) := by decide +kernel
theorem dX5_writeName_72 : decode cX5_writeName 72 = .ok (.iinc 6 1, 3) := by decide +kernel
theorem dX5_writeName_75 : decode cX5_writeName 75 = .ok (.aload_n 0, 1) := by decide +kernel
theorem dX5_writeName_76 : decode cX5_writeName 76 = .ok (.iload 9, 2) := by decide +kernel
theorem dX5_writeName_78 : decode cX5_writeName 78 = .ok (.iload_n 2, 1) := by decide +kernel
theorem dX5_writeName_79 : decode cX5_writeName 79 = .ok (.iload_n 3, 1) := by decide +kernel
theorem dX5_writeName_80 : decode cX5_writeName 80 = .ok (.iload 7, 2) := by decide +kernel
theorem dX5_writeName_82 : decode cX5_writeName 82 = .ok (.iadd, 1) := by decide +kernel
theorem dX5_writeName_83 : decode cX5_writeName 83 = .ok (.invokevirtual 113, 3) := by decide +kernel
theorem dX5_writeName_86 : decode cX5_writeName 86 = .ok (.ifCond .ge 6, 3) := by decide +kernel
theorem dX5_writeName_89 : decode cX5_writeName 89 = .ok (.bipush (-5), 2) := by decide +kernel
theorem dX5_writeName_91 : decode cX5_writeName 91 = .ok (.ireturn, 1) := by decide +kernel
theorem dX5_writeName_92 : decode cX5_writeName 92 = .ok (.iinc 7 1, 3) := by decide +kernel
theorem dX5_writeName_95 : decode cX5_writeName 95 = .ok (.goto (-89), 3) := by decide +kernel
theorem dX5_writeName_98 : decode cX5_writeName 98 = .ok (.iload 6, 2) := by decide +kernel
theorem dX5_writeName_100 : decode cX5_writeName 100 = .ok (.ireturn, 1) := by decide +kernel
theorem dX5_lowestLoose_0 : decode cX5_lowestLoose 0 = .ok (.iconst 0, 1) := by decide +kernel
theorem dX5_lowestLoose_1 : decode cX5_lowestLoose 1 = .ok (.istore 4, 2) := by decide +kernel
theorem dX5_lowestLoose_3 : decode cX5_lowestLoose 3 = .ok (.iload 4, 2) := by decide +kernel
theorem dX5_lowestLoose_5 : decode cX5_lowestLoose 5 = .ok (.aload_n 0, 1) := by decide +kernel
theorem dX5_lowestLoose_6 : decode cX5_lowestLoose 6 = .ok (.getfield 39, 3) := by decide +kernel
theorem dX5_lowestLoose_9 : decode cX5_lowestLoose 9 = .ok (.if_icmp .ge 63, 3) := by decide +kernel
theorem dX5_lowestLoose_12 : decode cX5_lowestLoose 12 = .ok (.aload_n 0, 1) := by decide +kernel
theorem dX5_lowestLoose_13 : decode cX5_lowestLoose 13 = .ok (.iload 4, 2) := by decide +kernel
theorem dX5_lowestLoose_15 : decode cX5_lowestLoose 15 = .ok (.invokevirtual 116, 3) := by decide +kernel
theorem dX5_lowestLoose_18 : decode cX5_lowestLoose 18 = .ok (.astore 5, 2) := by decide +kernel
theorem dX5_lowestLoose_20 : decode cX5_lowestLoose 20 = .ok (.aload 5, 2) := by decide +kernel
theorem dX5_lowestLoose_22 : decode cX5_lowestLoose 22 = .ok (.ifnull 44, 3) := by decide +kernel
theorem dX5_lowestLoose_25 : decode cX5_lowestLoose 25 = .ok (.aload 5, 2) := by decide +kernel
theorem dX5_lowestLoose_27 : decode cX5_lowestLoose 27 = .ok (.getfield 120, 3) := by decide +kernel
theorem dX5_lowestLoose_30 : decode cX5_lowestLoose 30 = .ok (.ifCond .ne 36, 3) := by decide +kernel
theorem dX5_lowestLoose_33 : decode cX5_lowestLoose 33 = .ok (.aload 5, 2) := by decide +kernel
theorem dX5_lowestLoose_35 : decode cX5_lowestLoose 35 = .ok (.getfield 68, 3) := by decide +kernel
theorem dX5_lowestLoose_38 : decode cX5_lowestLoose 38 = .ok (.iload_n 1, 1) := by decide +kernel
theorem dX5_lowestLoose_39 : decode cX5_lowestLoose 39 = .ok (.if_icmp .ne 27, 3) := by decide +kernel
theorem dX5_lowestLoose_42 : decode cX5_lowestLoose 42 = .ok (.aload 5, 2) := by decide +kernel
theorem dX5_lowestLoose_44 : decode cX5_lowestLoose 44 = .ok (.getfield 71, 3) := by decide +kernel
theorem dX5_lowestLoose_47 : decode cX5_lowestLoose 47 = .ok (.iload_n 2, 1) := by decide +kernel
theorem dX5_lowestLoose_48 : decode cX5_lowestLoose 48 = .ok (.if_icmp .ne 18, 3) := by decide +kernel
theorem dX5_lowestLoose_51 : decode cX5_lowestLoose 51 = .ok (.aload 5, 2) := by decide +kernel
theorem dX5_lowestLoose_53 : decode cX5_lowestLoose 53 = .ok (.getfield 72, 3) := by decide +kernel
theorem dX5_lowestLoose_56 : decode cX5_lowestLoose 56 = .ok (.invokestatic 123, 3) := by decide +kernel
theorem dX5_lowestLoose_59 : decode cX5_lowestLoose 59 = .ok (.iload_n 3, 1) := by decide +kernel
theorem dX5_lowestLoose_60 : decode cX5_lowestLoose 60 = .ok (.if_icmp .ne 6, 3) := by decide +kernel
theorem dX5_lowestLoose_63 : decode cX5_lowestLoose 63 = .ok (.iload 4, 2) := by decide +kernel
theorem dX5_lowestLoose_65 : decode cX5_lowestLoose 65 = .ok (.ireturn, 1) := by decide +kernel
theorem dX5_lowestLoose_66 : decode cX5_lowestLoose 66 = .ok (.iinc 4 1, 3) := by decide +kernel
theorem dX5_lowestLoose_69 : decode cX5_lowestLoose 69 = .ok (.goto (-66), 3) := by decide +kernel
theorem dX5_lowestLoose_72 : decode cX5_lowestLoose 72 = .ok (.bipush (-6), 2) := by decide +kernel
theorem dX5_lowestLoose_74 : decode cX5_lowestLoose 74 = .ok (.ireturn, 1) := by decide +kernel
theorem dX5_putIntoPane_0 : decode cX5_putIntoPane 0 = .ok (.aload_n 0, 1) := by decide +kernel
theorem dX5_putIntoPane_1 : decode cX5_putIntoPane 1 = .ok (.iload_n 1, 1) := by decide +kernel
theorem dX5_putIntoPane_2 : decode cX5_putIntoPane 2 = .ok (.invokevirtual 116, 3) := by decide +kernel
theorem dX5_putIntoPane_5 : decode cX5_putIntoPane 5 = .ok (.astore 4, 2) := by decide +kernel
theorem dX5_putIntoPane_7 : decode cX5_putIntoPane 7 = .ok (.aload 4, 2) := by decide +kernel
theorem dX5_putIntoPane_9 : decode cX5_putIntoPane 9 = .ok (.ifnull 25, 3) := by decide +kernel
theorem dX5_putIntoPane_12 : decode cX5_putIntoPane 12 = .ok (.aload 4, 2) := by decide +kernel
theorem dX5_putIntoPane_14 : decode cX5_putIntoPane 14 = .ok (.getfield 120, 3) := by decide +kernel
theorem dX5_putIntoPane_17 : decode cX5_putIntoPane 17 = .ok (.ifCond .ne 17, 3) := by decide +kernel
theorem dX5_putIntoPane_20 : decode cX5_putIntoPane 20 = .ok (.iload_n 2, 1) := by decide +kernel
theorem dX5_putIntoPane_21 : decode cX5_putIntoPane 21 = .ok (.invokestatic 126, 3) := by decide +kernel
theorem dX5_putIntoPane_24 : decode cX5_putIntoPane 24 = .ok (.ifCond .eq 10, 3) := by decide +kernel
theorem dX5_putIntoPane_27 : decode cX5_putIntoPane 27 = .ok (.iload_n 3, 1) := by decide +kernel
theorem dX5_putIntoPane_28 : decode cX5_putIntoPane 28 = .ok (.invokestatic 130, 3) := by decide +kernel
theorem dX5_putIntoPane_31 : decode cX5_putIntoPane 31 = .ok (.ifCond .ne 6, 3) := by decide +kernel
theorem dX5_putIntoPane_34 : decode cX5_putIntoPane 34 = .ok (.bipush (-5), 2) := by decide +kernel
theorem dX5_putIntoPane_36 : decode cX5_putIntoPane 36 = .ok (.ireturn, 1) := by decide +kernel
theorem dX5_putIntoPane_37 : decode cX5_putIntoPane 37 = .ok (.iload_n 2, 1) := by decide +kernel
theorem dX5_putIntoPane_38 : decode cX5_putIntoPane 38 = .ok (.bipush 12, 2) := by decide +kernel
theorem dX5_putIntoPane_40 : decode cX5_putIntoPane 40 = .ok (.imul, 1) := by decide +kernel
theorem dX5_putIntoPane_41 : decode cX5_putIntoPane 41 = .ok (.iload_n 3, 1) := by decide +kernel
theorem dX5_putIntoPane_42 : decode cX5_putIntoPane 42 = .ok (.iadd, 1) := by decide +kernel
theorem dX5_putIntoPane_43 : decode cX5_putIntoPane 43 = .ok (.istore 5, 2) := by decide +kernel
theorem dX5_putIntoPane_45 : decode cX5_putIntoPane 45 = .ok (.aload_n 0, 1) := by decide +kernel
theorem dX5_putIntoPane_46 : decode cX5_putIntoPane 46 = .ok (.getfield 23, 3) := by decide +kernel
theorem dX5_putIntoPane_49 : decode cX5_putIntoPane 49 = .ok (.iload 5, 2) := by decide +kernel
theorem dX5_putIntoPane_51 : decode cX5_putIntoPane 51 = .ok (.iaload, 1) := by decide +kernel
theorem dX5_putIntoPane_52 : decode cX5_putIntoPane 52 = .ok (.bipush (-6), 2) := by decide +kernel
theorem dX5_putIntoPane_54 : decode cX5_putIntoPane 54 = .ok (.if_icmp .eq 6, 3) := by decide +kernel
theorem dX5_putIntoPane_57 : decode cX5_putIntoPane 57 = .ok (.bipush (-5), 2) := by decide +kernel
theorem dX5_putIntoPane_59 : decode cX5_putIntoPane 59 = .ok (.ireturn, 1) := by decide +kernel
theorem dX5_putIntoPane_60 : decode cX5_putIntoPane 60 = .ok (.aload_n 0, 1) := by decide +kernel
theorem dX5_putIntoPane_61 : decode cX5_putIntoPane 61 = .ok (.getfield 23, 3) := by decide +kernel
theorem dX5_putIntoPane_64 : decode cX5_putIntoPane 64 = .ok (.iload 5, 2) := by decide +kernel
theorem dX5_putIntoPane_66 : decode cX5_putIntoPane 66 = .ok (.iload_n 1, 1) := by decide +kernel
theorem dX5_putIntoPane_67 : decode cX5_putIntoPane 67 = .ok (.iastore, 1) := by decide +kernel
theorem dX5_putIntoPane_68 : decode cX5_putIntoPane 68 = .ok (.aload 4, 2) := by decide +kernel
theorem dX5_putIntoPane_70 : decode cX5_putIntoPane 70 = .ok (.iconst 1, 1) := by decide +kernel
theorem dX5_putIntoPane_71 : decode cX5_putIntoPane 71 = .ok (.putfield 120, 3) := by decide +kernel
theorem dX5_putIntoPane_74 : decode cX5_putIntoPane 74 = .ok (.aload 4, 2) := by decide +kernel
theorem dX5_putIntoPane_76 : decode cX5_putIntoPane 76 = .ok (.iload 5, 2) := by decide +kernel
theorem dX5_putIntoPane_78 : decode cX5_putIntoPane 78 = .ok (.putfield 133, 3) := by decide +kernel
theorem dX5_putIntoPane_81 : decode cX5_putIntoPane 81 = .ok (.aload_n 0, 1) := by decide +kernel
theorem dX5_putIntoPane_82 : decode cX5_putIntoPane 82 = .ok (.iload_n 2, 1) := by decide +kernel
theorem dX5_putIntoPane_83 : decode cX5_putIntoPane 83 = .ok (.invokevirtual 136, 3) := by decide +kernel
theorem dX5_putIntoPane_86 : decode cX5_putIntoPane 86 = .ok (.ireturn, 1) := by decide +kernel
theorem dX5_clearPane_0 : decode cX5_clearPane 0 = .ok (.iload_n 1, 1) := by decide +kernel
theorem dX5_clearPane_1 : decode cX5_clearPane 1 = .ok (.invokestatic 126, 3) := by decide +kernel
theorem dX5_clearPane_4 : decode cX5_clearPane 4 = .ok (.ifCond .ne 5, 3) := by decide +kernel
theorem dX5_clearPane_7 : decode cX5_clearPane 7 = .ok (.iconst (-1), 1) := by decide +kernel
theorem dX5_clearPane_8 : decode cX5_clearPane 8 = .ok (.ireturn, 1) := by decide +kernel
theorem dX5_clearPane_9 : decode cX5_clearPane 9 = .ok (.iconst 0, 1) := by decide +kernel
theorem dX5_clearPane_10 : decode cX5_clearPane 10 = .ok (.istore_n 2, 1) := by decide +kernel
theorem dX5_clearPane_11 : decode cX5_clearPane 11 = .ok (.iconst 0, 1) := by decide +kernel
theorem dX5_clearPane_12 : decode cX5_clearPane 12 = .ok (.istore_n 3, 1) := by decide +kernel
theorem dX5_clearPane_13 : decode cX5_clearPane 13 = .ok (.iload_n 3, 1) := by decide +kernel
theorem dX5_clearPane_14 : decode cX5_clearPane 14 = .ok (.bipush 12, 2) := by decide +kernel
theorem dX5_clearPane_16 : decode cX5_clearPane 16 = .ok (.if_icmp .ge 52, 3) := by decide +kernel
theorem dX5_clearPane_19 : decode cX5_clearPane 19 = .ok (.aload_n 0, 1) := by decide +kernel
theorem dX5_clearPane_20 : decode cX5_clearPane 20 = .ok (.aload_n 0, 1) := by decide +kernel
theorem dX5_clearPane_21 : decode cX5_clearPane 21 = .ok (.getfield 23, 3) := by decide +kernel
theorem dX5_clearPane_24 : decode cX5_clearPane 24 = .ok (.iload_n 1, 1) := by decide +kernel
theorem dX5_clearPane_25 : decode cX5_clearPane 25 = .ok (.bipush 12, 2) := by decide +kernel
theorem dX5_clearPane_27 : decode cX5_clearPane 27 = .ok (.imul, 1) := by decide +kernel
theorem dX5_clearPane_28 : decode cX5_clearPane 28 = .ok (.iload_n 3, 1) := by decide +kernel
theorem dX5_clearPane_29 : decode cX5_clearPane 29 = .ok (.iadd, 1) := by decide +kernel
theorem dX5_clearPane_30 : decode cX5_clearPane 30 = .ok (.iaload, 1) := by decide +kernel
theorem dX5_clearPane_31 : decode cX5_clearPane 31 = .ok (.invokevirtual 116, 3) := by decide +kernel
theorem dX5_clearPane_34 : decode cX5_clearPane 34 = .ok (.astore 4, 2) := by decide +kernel
theorem dX5_clearPane_36 : decode cX5_clearPane 36 = .ok (.aload 4, 2) := by decide +kernel
theorem dX5_clearPane_38 : decode cX5_clearPane 38 = .ok (.ifnull 24, 3) := by decide +kernel
theorem dX5_clearPane_41 : decode cX5_clearPane 41 = .ok (.aload 4, 2) := by decide +kernel
theorem dX5_clearPane_43 : decode cX5_clearPane 43 = .ok (.invokevirtual 81, 3) := by decide +kernel
theorem dX5_clearPane_46 : decode cX5_clearPane 46 = .ok (.aload_n 0, 1) := by decide +kernel
theorem dX5_clearPane_47 : decode cX5_clearPane 47 = .ok (.getfield 23, 3) := by decide +kernel
theorem dX5_clearPane_50 : decode cX5_clearPane 50 = .ok (.iload_n 1, 1) := by decide +kernel
theorem dX5_clearPane_51 : decode cX5_clearPane 51 = .ok (.bipush 12, 2) := by decide +kernel
theorem dX5_clearPane_53 : decode cX5_clearPane 53 = .ok (.imul, 1) := by decide +kernel
theorem dX5_clearPane_54 : decode cX5_clearPane 54 = .ok (.iload_n 3, 1) := by decide +kernel
theorem dX5_clearPane_55 : decode cX5_clearPane 55 = .ok (.iadd, 1) := by decide +kernel
theorem dX5_clearPane_56 : decode cX5_clearPane 56 = .ok (.bipush (-6), 2) := by decide +kernel
theorem dX5_clearPane_58 : decode cX5_clearPane 58 = .ok (.iastore, 1) := by decide +kernel
theorem dX5_clearPane_59 : decode cX5_clearPane 59 = .ok (.iinc 2 1, 3) := by decide +kernel
theorem dX5_clearPane_62 : decode cX5_clearPane 62 = .ok (.iinc 3 1, 3) := by decide +kernel
theorem dX5_clearPane_65 : decode cX5_clearPane 65 = .ok (.goto (-52), 3) := by decide +kernel
theorem dX5_clearPane_68 : decode cX5_clearPane 68 = .ok (.iload_n 2, 1) := by decide +kernel
theorem dX5_clearPane_69 : decode cX5_clearPane 69 = .ok (.ireturn, 1) := by decide +kernel
theorem dX5_wastePiece_0 : decode cX5_wastePiece 0 = .ok (.aload_n 0, 1) := by decide +kernel
theorem dX5_wastePiece_1 : decode cX5_wastePiece 1 = .ok (.iload_n 1, 1) := by decide +kernel
theorem dX5_wastePiece_2 : decode cX5_wastePiece 2 = .ok (.invokevirtual 116, 3) := by decide +kernel
theorem dX5_wastePiece_5 : decode cX5_wastePiece 5 = .ok (.astore_n 2, 1) := by decide +kernel
theorem dX5_wastePiece_6 : decode cX5_wastePiece 6 = .ok (.aload_n 2, 1) := by decide +kernel
theorem dX5_wastePiece_7 : decode cX5_wastePiece 7 = .ok (.ifnull 10, 3) := by decide +kernel
theorem dX5_wastePiece_10 : decode cX5_wastePiece 10 = .ok (.aload_n 2, 1) := by decide +kernel
theorem dX5_wastePiece_11 : decode cX5_wastePiece 11 = .ok (.getfield 120, 3) := by decide +kernel
theorem dX5_wastePiece_14 : decode cX5_wastePiece 14 = .ok (.ifCond .eq 6, 3) := by decide +kernel
theorem dX5_wastePiece_17 : decode cX5_wastePiece 17 = .ok (.bipush (-5), 2) := by decide +kernel
theorem dX5_wastePiece_19 : decode cX5_wastePiece 19 = .ok (.ireturn, 1) := by decide +kernel
theorem dX5_wastePiece_20 : decode cX5_wastePiece 20 = .ok (.aload_n 2, 1) := by decide +kernel
theorem dX5_wastePiece_21 : decode cX5_wastePiece 21 = .ok (.iconst 2, 1) := by decide +kernel
theorem dX5_wastePiece_22 : decode cX5_wastePiece 22 = .ok (.putfield 120, 3) := by decide +kernel
theorem dX5_wastePiece_25 : decode cX5_wastePiece 25 = .ok (.aload_n 0, 1) := by decide +kernel
theorem dX5_wastePiece_26 : decode cX5_wastePiece 26 = .ok (.getfield 27, 3) := by decide +kernel
theorem dX5_wastePiece_29 : decode cX5_wastePiece 29 = .ok (.aload_n 2, 1) := by decide +kernel
theorem dX5_wastePiece_30 : decode cX5_wastePiece 30 = .ok (.getfield 68, 3) := by decide +kernel
theorem dX5_wastePiece_33 : decode cX5_wastePiece 33 = .ok (.invokevirtual 139, 3) := by decide +kernel
theorem dX5_wastePiece_36 : decode cX5_wastePiece 36 = .ok (.ireturn, 1) := by decide +kernel
theorem dX5_scrapSheet_0 : decode cX5_scrapSheet 0 = .ok (.aload_n 0, 1) := by decide +kernel
theorem dX5_scrapSheet_1 : decode cX5_scrapSheet 1 = .ok (.iload_n 1, 1) := by decide +kernel
theorem dX5_scrapSheet_2 : decode cX5_scrapSheet 2 = .ok (.invokevirtual 52, 3) := by decide +kernel
theorem dX5_scrapSheet_5 : decode cX5_scrapSheet 5 = .ok (.astore_n 2, 1) := by decide +kernel
theorem dX5_scrapSheet_6 : decode cX5_scrapSheet 6 = .ok (.aload_n 2, 1) := by decide +kernel
theorem dX5_scrapSheet_7 : decode cX5_scrapSheet 7 = .ok (.ifnull 10, 3) := by decide +kernel
theorem dX5_scrapSheet_10 : decode cX5_scrapSheet 10 = .ok (.aload_n 2, 1) := by decide +kernel
theorem dX5_scrapSheet_11 : decode cX5_scrapSheet 11 = .ok (.getfield 144, 3) := by decide +kernel
theorem dX5_scrapSheet_14 : decode cX5_scrapSheet 14 = .ok (.ifCond .eq 6, 3) := by decide +kernel
theorem dX5_scrapSheet_17 : decode cX5_scrapSheet 17 = .ok (.bipush (-5), 2) := by decide +kernel
theorem dX5_scrapSheet_19 : decode cX5_scrapSheet 19 = .ok (.ireturn, 1) := by decide +kernel
theorem dX5_scrapSheet_20 : decode cX5_scrapSheet 20 = .ok (.aload_n 2, 1) := by decide +kernel
theorem dX5_scrapSheet_21 : decode cX5_scrapSheet 21 = .ok (.iconst 1, 1) := by decide +kernel
theorem dX5_scrapSheet_22 : decode cX5_scrapSheet 22 = .ok (.putfield 144, 3) := by decide +kernel
theorem dX5_scrapSheet_25 : decode cX5_scrapSheet 25 = .ok (.aload_n 2, 1) := by decide +kernel
theorem dX5_scrapSheet_26 : decode cX5_scrapSheet 26 = .ok (.invokevirtual 148, 3) := by decide +kernel
theorem dX5_scrapSheet_29 : decode cX5_scrapSheet 29 = .ok (.ireturn, 1) := by decide +kernel
theorem dX5_piecesIn_0 : decode cX5_piecesIn 0 = .ok (.iconst 0, 1) := by decide +kernel
theorem dX5_piecesIn_1 : decode cX5_piecesIn 1 = .ok (.istore_n 2, 1) := by decide +kernel
theorem dX5_piecesIn_2 : decode cX5_piecesIn 2 = .ok (.iconst 0, 1) := by decide +kernel
theorem dX5_piecesIn_3 : decode cX5_piecesIn 3 = .ok (.istore_n 3, 1) := by decide +kernel
theorem dX5_piecesIn_4 : decode cX5_piecesIn 4 = .ok (.iload_n 3, 1) := by decide +kernel
theorem dX5_piecesIn_5 : decode cX5_piecesIn 5 = .ok (.aload_n 0, 1) := by decide +kernel
theorem dX5_piecesIn_6 : decode cX5_piecesIn 6 = .ok (.getfield 39, 3) := by decide +kernel
theorem dX5_piecesIn_9 : decode cX5_piecesIn 9 = .ok (.if_icmp .ge 45, 3) := by decide +kernel
theorem dX5_piecesIn_12 : decode cX5_piecesIn 12 = .ok (.aload_n 0, 1) := by decide +kernel
theorem dX5_piecesIn_13 : decode cX5_piecesIn 13 = .ok (.iload_n 3, 1) := by decide +kernel
theorem dX5_piecesIn_14 : decode cX5_piecesIn 14 = .ok (.invokevirtual 116, 3) := by decide +kernel
theorem dX5_piecesIn_17 : decode cX5_piecesIn 17 = .ok (.astore 4, 2) := by decide +kernel
theorem dX5_piecesIn_19 : decode cX5_piecesIn 19 = .ok (.aload 4, 2) := by decide +kernel
theorem dX5_piecesIn_21 : decode cX5_piecesIn 21 = .ok (.ifnull 27, 3) := by decide +kernel
theorem dX5_piecesIn_24 : decode cX5_piecesIn 24 = .ok (.aload 4, 2) := by decide +kernel
theorem dX5_piecesIn_26 : decode cX5_piecesIn 26 = .ok (.getfield 120, 3) := by decide +kernel
theorem dX5_piecesIn_29 : decode cX5_piecesIn 29 = .ok (.iconst 1, 1) := by decide +kernel
theorem dX5_piecesIn_30 : decode cX5_piecesIn 30 = .ok (.if_icmp .ne 18, 3) := by decide +kernel
theorem dX5_piecesIn_33 : decode cX5_piecesIn 33 = .ok (.aload 4, 2) := by decide +kernel
theorem dX5_piecesIn_35 : decode cX5_piecesIn 35 = .ok (.getfield 133, 3) := by decide +kernel
theorem dX5_piecesIn_38 : decode cX5_piecesIn 38 = .ok (.bipush 12, 2) := by decide +kernel
theorem dX5_piecesIn_40 : decode cX5_piecesIn 40 = .ok (.idiv, 1) := by decide +kernel
theorem dX5_piecesIn_41 : decode cX5_piecesIn 41 = .ok (.iload_n 1, 1) := by decide +kernel
theorem dX5_piecesIn_42 : decode cX5_piecesIn 42 = .ok (.if_icmp .ne 6, 3) := by decide +kernel
theorem dX5_piecesIn_45 : decode cX5_piecesIn 45 = .ok (.iinc 2 1, 3) := by decide +kernel
theorem dX5_piecesIn_48 : decode cX5_piecesIn 48 = .ok (.iinc 3 1, 3) := by decide +kernel
theorem dX5_piecesIn_51 : decode cX5_piecesIn 51 = .ok (.goto (-47), 3) := by decide +kernel
theorem dX5_piecesIn_54 : decode cX5_piecesIn 54 = .ok (.iload_n 2, 1) := by decide +kernel
theorem dX5_piecesIn_55 : decode cX5_piecesIn 55 = .ok (.ireturn, 1) := by decide +kernel
theorem dX5_piecesFrom_0 : decode cX5_piecesFrom 0 = .ok (.iconst 0, 1) := by decide +kernel
theorem dX5_piecesFrom_1 : decode cX5_piecesFrom 1 = .ok (.istore_n 2, 1) := by decide +kernel
theorem dX5_piecesFrom_2 : decode cX5_piecesFrom 2 = .ok (.iconst 0, 1) := by decide +kernel
theorem dX5_piecesFrom_3 : decode cX5_piecesFrom 3 = .ok (.istore_n 3, 1) := by decide +kernel
theorem dX5_piecesFrom_4 : decode cX5_piecesFrom 4 = .ok (.iload_n 3, 1) := by decide +kernel
theorem dX5_piecesFrom_5 : decode cX5_piecesFrom 5 = .ok (.aload_n 0, 1) := by decide +kernel
theorem dX5_piecesFrom_6 : decode cX5_piecesFrom 6 = .ok (.getfield 39, 3) := by decide +kernel
theorem dX5_piecesFrom_9 : decode cX5_piecesFrom 9 = .ok (.if_icmp .ge 33, 3) := by decide +kernel
theorem dX5_piecesFrom_12 : decode cX5_piecesFrom 12 = .ok (.aload_n 0, 1) := by decide +kernel
theorem dX5_piecesFrom_13 : decode cX5_piecesFrom 13 = .ok (.iload_n 3, 1) := by decide +kernel
theorem dX5_piecesFrom_14 : decode cX5_piecesFrom 14 = .ok (.invokevirtual 116, 3) := by decide +kernel
theorem dX5_piecesFrom_17 : decode cX5_piecesFrom 17 = .ok (.astore 4, 2) := by decide +kernel
theorem dX5_piecesFrom_19 : decode cX5_piecesFrom 19 = .ok (.aload 4, 2) := by decide +kernel
theorem dX5_piecesFrom_21 : decode cX5_piecesFrom 21 = .ok (.ifnull 15, 3) := by decide +kernel
theorem dX5_piecesFrom_24 : decode cX5_piecesFrom 24 = .ok (.aload 4, 2) := by decide +kernel
theorem dX5_piecesFrom_26 : decode cX5_piecesFrom 26 = .ok (.getfield 75, 3) := by decide +kernel
theorem dX5_piecesFrom_29 : decode cX5_piecesFrom 29 = .ok (.iload_n 1, 1) := by decide +kernel
theorem dX5_piecesFrom_30 : decode cX5_piecesFrom 30 = .ok (.if_icmp .ne 6, 3) := by decide +kernel
theorem dX5_piecesFrom_33 : decode cX5_piecesFrom 33 = .ok (.iinc 2 1, 3) := by decide +kernel
theorem dX5_piecesFrom_36 : decode cX5_piecesFrom 36 = .ok (.iinc 3 1, 3) := by decide +kernel
theorem dX5_piecesFrom_39 : decode cX5_piecesFrom 39 = .ok (.goto (-35), 3) := by decide +kernel
theorem dX5_piecesFrom_42 : decode cX5_piecesFrom 42 = .ok (.iload_n 2, 1) := by decide +kernel
theorem dX5_piecesFrom_43 : decode cX5_piecesFrom 43 = .ok (.ireturn, 1) := by decide +kernel
theorem dX5_piecesThatAre_0 : decode cX5_piecesThatAre 0 = .ok (.iconst 0, 1) := by decide +kernel
theorem dX5_piecesThatAre_1 : decode cX5_piecesThatAre 1 = .ok (.istore_n 2, 1) := by decide +kernel
theorem dX5_piecesThatAre_2 : decode cX5_piecesThatAre 2 = .ok (.iconst 0, 1) := by decide +kernel
theorem dX5_piecesThatAre_3 : decode cX5_piecesThatAre 3 = .ok (.istore_n 3, 1) := by decide +kernel
theorem dX5_piecesThatAre_4 : decode cX5_piecesThatAre 4 = .ok (.iload_n 3, 1) := by decide +kernel
theorem dX5_piecesThatAre_5 : decode cX5_piecesThatAre 5 = .ok (.aload_n 0, 1) := by decide +kernel
theorem dX5_piecesThatAre_6 : decode cX5_piecesThatAre 6 = .ok (.getfield 39, 3) := by decide +kernel
theorem dX5_piecesThatAre_9 : decode cX5_piecesThatAre 9 = .ok (.if_icmp .ge 33, 3) := by decide +kernel
theorem dX5_piecesThatAre_12 : decode cX5_piecesThatAre 12 = .ok (.aload_n 0, 1) := by decide +kernel
theorem dX5_piecesThatAre_13 : decode cX5_piecesThatAre 13 = .ok (.iload_n 3, 1) := by decide +kernel
theorem dX5_piecesThatAre_14 : decode cX5_piecesThatAre 14 = .ok (.invokevirtual 116, 3) := by decide +kernel
theorem dX5_piecesThatAre_17 : decode cX5_piecesThatAre 17 = .ok (.astore 4, 2) := by decide +kernel
theorem dX5_piecesThatAre_19 : decode cX5_piecesThatAre 19 = .ok (.aload 4, 2) := by decide +kernel
theorem dX5_piecesThatAre_21 : decode cX5_piecesThatAre 21 = .ok (.ifnull 15, 3) := by decide +kernel
theorem dX5_piecesThatAre_24 : decode cX5_piecesThatAre 24 = .ok (.aload 4, 2) := by decide +kernel
theorem dX5_piecesThatAre_26 : decode cX5_piecesThatAre 26 = .ok (.getfield 120, 3) := by decide +kernel
theorem dX5_piecesThatAre_29 : decode cX5_piecesThatAre 29 = .ok (.iload_n 1, 1) := by decide +kernel
theorem dX5_piecesThatAre_30 : decode cX5_piecesThatAre 30 = .ok (.if_icmp .ne 6, 3) := by decide +kernel
theorem dX5_piecesThatAre_33 : decode cX5_piecesThatAre 33 = .ok (.iinc 2 1, 3) := by decide +kernel
theorem dX5_piecesThatAre_36 : decode cX5_piecesThatAre 36 = .ok (.iinc 3 1, 3) := by decide +kernel
theorem dX5_piecesThatAre_39 : decode cX5_piecesThatAre 39 = .ok (.goto (-35), 3) := by decide +kernel
theorem dX5_piecesThatAre_42 : decode cX5_piecesThatAre 42 = .ok (.iload_n 2, 1) := by decide +kernel
theorem dX5_piecesThatAre_43 : decode cX5_piecesThatAre 43 = .ok (.ireturn, 1) := by decide +kernel
theorem dX5_squaresOfPieces_0 : decode cX5_squaresOfPieces 0 = .ok (.iconst 0, 1) := by decide +kernel
theorem dX5_squaresOfPieces_1 : decode cX5_squaresOfPieces 1 = .ok (.istore_n 2, 1) := by decide +kernel
theorem dX5_squaresOfPieces_2 : decode cX5_squaresOfPieces 2 = .ok (.iconst 0, 1) := by decide +kernel
theorem dX5_squaresOfPieces_3 : decode cX5_squaresOfPieces 3 = .ok (.istore_n 3, 1) := by decide +kernel
theorem dX5_squaresOfPieces_4 : decode cX5_squaresOfPieces 4 = .ok (.iload_n 3, 1) := by decide +kernel
theorem dX5_squaresOfPieces_5 : decode cX5_squaresOfPieces 5 = .ok (.aload_n 0, 1) := by decide +kernel
theorem dX5_squaresOfPieces_6 : decode cX5_squaresOfPieces 6 = .ok (.getfield 39, 3) := by decide +kernel
theorem dX5_squaresOfPieces_9 : decode cX5_squaresOfPieces 9 = .ok (.if_icmp .ge 45, 3) := by decide +kernel
theorem dX5_squaresOfPieces_12 : decode cX5_squaresOfPieces 12 = .ok (.aload_n 0, 1) := by decide +kernel
theorem dX5_squaresOfPieces_13 : decode cX5_squaresOfPieces 13 = .ok (.iload_n 3, 1) := by decide +kernel
theorem dX5_squaresOfPieces_14 : decode cX5_squaresOfPieces 14 = .ok (.invokevirtual 116, 3) := by decide +kernel
theorem dX5_squaresOfPieces_17 : decode cX5_squaresOfPieces 17 = .ok (.astore 4, 2) := by decide +kernel
theorem dX5_squaresOfPieces_19 : decode cX5_squaresOfPieces 19 = .ok (.aload 4, 2) := by decide +kernel
theorem dX5_squaresOfPieces_21 : decode cX5_squaresOfPieces 21 = .ok (.ifnull 27, 3) := by decide +kernel
theorem dX5_squaresOfPieces_24 : decode cX5_squaresOfPieces 24 = .ok (.aload 4, 2) := by decide +kernel
theorem dX5_squaresOfPieces_26 : decode cX5_squaresOfPieces 26 = .ok (.getfield 120, 3) := by decide +kernel
theorem dX5_squaresOfPieces_29 : decode cX5_squaresOfPieces 29 = .ok (.iload_n 1, 1) := by decide +kernel
theorem dX5_squaresOfPieces_30 : decode cX5_squaresOfPieces 30 = .ok (.if_icmp .ne 18, 3) := by decide +kernel
theorem dX5_squaresOfPieces_33 : decode cX5_squaresOfPieces 33 = .ok (.iload_n 2, 1) := by decide +kernel
theorem dX5_squaresOfPieces_34 : decode cX5_squaresOfPieces 34 = .ok (.aload_n 0, 1) := by decide +kernel
theorem dX5_squaresOfPieces_35 : decode cX5_squaresOfPieces 35 = .ok (.getfield 27, 3) := by decide +kernel
theorem dX5_squaresOfPieces_38 : decode cX5_squaresOfPieces 38 = .ok (.aload 4, 2) := by decide +kernel
theorem dX5_squaresOfPieces_40 : decode cX5_squaresOfPieces 40 = .ok (.getfield 68, 3) := by decide +kernel
theorem dX5_squaresOfPieces_43 : decode cX5_squaresOfPieces 43 = .ok (.invokevirtual 139, 3) := by decide +kernel
theorem dX5_squaresOfPieces_46 : decode cX5_squaresOfPieces 46 = .ok (.iadd, 1) := by decide +kernel
theorem dX5_squaresOfPieces_47 : decode cX5_squaresOfPieces 47 = .ok (.istore_n 2, 1) := by decide +kernel
theorem dX5_squaresOfPieces_48 : decode cX5_squaresOfPieces 48 = .ok (.iinc 3 1, 3) := by decide +kernel
theorem dX5_squaresOfPieces_51 : decode cX5_squaresOfPieces 51 = .ok (.goto (-47), 3) := by decide +kernel
theorem dX5_squaresOfPieces_54 : decode cX5_squaresOfPieces 54 = .ok (.iload_n 2, 1) := by decide +kernel
theorem dX5_squaresOfPieces_55 : decode cX5_squaresOfPieces 55 = .ok (.ireturn, 1) := by decide +kernel
theorem dX5_squaresOfSheets_0 : decode cX5_squaresOfSheets 0 = .ok (.iconst 0, 1) := by decide +kernel
theorem dX5_squaresOfSheets_1 : decode cX5_squaresOfSheets 1 = .ok (.istore_n 2, 1) := by decide +kernel
theorem dX5_squaresOfSheets_2 : decode cX5_squaresOfSheets 2 = .ok (.iconst 0, 1) := by decide +kernel
theorem dX5_squaresOfSheets_3 : decode cX5_squaresOfSheets 3 = .ok (.istore_n 3, 1) := by decide +kernel
theorem dX5_squaresOfSheets_4 : decode cX5_squaresOfSheets 4 = .ok (.iload_n 3, 1) := by decide +kernel
theorem dX5_squaresOfSheets_5 : decode cX5_squaresOfSheets 5 = .ok (.aload_n 0, 1) := by decide +kernel
theorem dX5_squaresOfSheets_6 : decode cX5_squaresOfSheets 6 = .ok (.getfield 35, 3) := by decide +kernel
theorem dX5_squaresOfSheets_9 : decode cX5_squaresOfSheets 9 = .ok (.if_icmp .ge 38, 3) := by decide +kernel
theorem dX5_squaresOfSheets_12 : decode cX5_squaresOfSheets 12 = .ok (.aload_n 0, 1) := by decide +kernel
theorem dX5_squaresOfSheets_13 : decode cX5_squaresOfSheets 13 = .ok (.iload_n 3, 1) := by decide +kernel
theorem dX5_squaresOfSheets_14 : decode cX5_squaresOfSheets 14 = .ok (.invokevirtual 52, 3) := by decide +kernel
theorem dX5_squaresOfSheets_17 : decode cX5_squaresOfSheets 17 = .ok (.astore 4, 2) := by decide +kernel
theorem dX5_squaresOfSheets_19 : decode cX5_squaresOfSheets 19 = .ok (.aload 4, 2) := by decide +kernel
theorem dX5_squaresOfSheets_21 : decode cX5_squaresOfSheets 21 = .ok (.ifnull 20, 3) := by decide +kernel
theorem dX5_squaresOfSheets_24 : decode cX5_squaresOfSheets 24 = .ok (.aload 4, 2) := by decide +kernel
theorem dX5_squaresOfSheets_26 : decode cX5_squaresOfSheets 26 = .ok (.getfield 144, 3) := by decide +kernel
theorem dX5_squaresOfSheets_29 : decode cX5_squaresOfSheets 29 = .ok (.iload_n 1, 1) := by decide +kernel
theorem dX5_squaresOfSheets_30 : decode cX5_squaresOfSheets 30 = .ok (.if_icmp .ne 11, 3) := by decide +kernel
theorem dX5_squaresOfSheets_33 : decode cX5_squaresOfSheets 33 = .ok (.iload_n 2, 1) := by decide +kernel
theorem dX5_squaresOfSheets_34 : decode cX5_squaresOfSheets 34 = .ok (.aload 4, 2) := by decide +kernel
theorem dX5_squaresOfSheets_36 : decode cX5_squaresOfSheets 36 = .ok (.invokevirtual 148, 3) := by decide +kernel
theorem dX5_squaresOfSheets_39 : decode cX5_squaresOfSheets 39 = .ok (.iadd, 1) := by decide +kernel
theorem dX5_squaresOfSheets_40 : decode cX5_squaresOfSheets 40 = .ok (.istore_n 2, 1) := by decide +kernel
theorem dX5_squaresOfSheets_41 : decode cX5_squaresOfSheets 41 = .ok (.iinc 3 1, 3) := by decide +kernel
theorem dX5_squaresOfSheets_44 : decode cX5_squaresOfSheets 44 = .ok (.goto (-40), 3) := by decide +kernel
theorem dX5_squaresOfSheets_47 : decode cX5_squaresOfSheets 47 = .ok (.iload_n 2, 1) := by decide +kernel
theorem dX5_squaresOfSheets_48 : decode cX5_squaresOfSheets 48 = .ok (.ireturn, 1) := by decide +kernel
theorem dX6_init_0 : decode cX6_init 0 = .ok (.aload_n 0, 1) := by decide +kernel
theorem dX6_init_1 : decode cX6_init 1 = .ok (.invokespecial 1, 3) := by decide +kernel
theorem dX6_init_4 : decode cX6_init 4 = .ok (.aload_n 0, 1) := by decide +kernel
theorem dX6_init_5 : decode cX6_init 5 = .ok (.new 7, 3) := by decide +kernel
theorem dX6_init_8 : decode cX6_init 8 = .ok (.dup, 1) := by decide +kernel
theorem dX6_init_9 : decode cX6_init 9 = .ok (.invokespecial 9, 3) := by decide +kernel
theorem dX6_init_12 : decode cX6_init 12 = .ok (.putfield 10, 3) := by decide +kernel
theorem dX6_init_15 : decode cX6_init 15 = .ok (.aload_n 0, 1) := by decide +kernel
theorem dX6_init_16 : decode cX6_init 16 = .ok (.new 16, 3) := by decide +kernel
theorem dX6_init_19 : decode cX6_init 19 = .ok (.dup, 1) := by decide +kernel
theorem dX6_init_20 : decode cX6_init 20 = .ok (.aload_n 0, 1) := by decide +kernel
theorem dX6_init_21 : decode cX6_init 21 = .ok (.getfield 10, 3) := by decide +kernel
theorem dX6_init_24 : decode cX6_init 24 = .ok (.invokespecial 18, 3) := by decide +kernel
theorem dX6_init_27 : decode cX6_init 27 = .ok (.putfield 21, 3) := by decide +kernel
theorem dX6_init_30 : decode cX6_init 30 = .ok (.aload_n 0, 1) := by decide +kernel
theorem dX6_init_31 : decode cX6_init 31 = .ok (.new 16, 3) := by decide +kernel
theorem dX6_init_34 : decode cX6_init 34 = .ok (.dup, 1) := by decide +kernel
theorem dX6_init_35 : decode cX6_init 35 = .ok (.aload_n 0, 1) := by decide +kernel
theorem dX6_init_36 : decode cX6_init 36 = .ok (.getfield 10, 3) := by decide +kernel
theorem dX6_init_39 : decode cX6_init 39 = .ok (.invokespecial 18, 3) := by decide +kernel
theorem dX6_init_42 : decode cX6_init 42 = .ok (.putfield 25, 3) := by decide +kernel
theorem dX6_init_45 : decode cX6_init 45 = .ok (.aload_n 0, 1) := by decide +kernel
theorem dX6_init_46 : decode cX6_init 46 = .ok (.new 28, 3) := by decide +kernel
theorem dX6_init_49 : decode cX6_init 49 = .ok (.dup, 1) := by decide +kernel
theorem dX6_init_50 : decode cX6_init 50 = .ok (.aload_n 0, 1) := by decide +kernel
theorem dX6_init_51 : decode cX6_init 51 = .ok (.getfield 10, 3) := by decide +kernel
theorem dX6_init_54 : decode cX6_init 54 = .ok (.invokespecial 30, 3) := by decide +kernel
theorem dX6_init_57 : decode cX6_init 57 = .ok (.putfield 31, 3) := by decide +kernel
theorem dX6_init_60 : decode cX6_init 60 = .ok (.aload_n 0, 1) := by decide +kernel
theorem dX6_init_61 : decode cX6_init 61 = .ok (.iconst 2, 1) := by decide +kernel
theorem dX6_init_62 : decode cX6_init 62 = .ok (.anewarray 16, 3) := by decide +kernel
theorem dX6_init_65 : decode cX6_init 65 = .ok (.putfield 35, 3) := by decide +kernel
theorem dX6_init_68 : decode cX6_init 68 = .ok (.aload_n 0, 1) := by decide +kernel
theorem dX6_init_69 : decode cX6_init 69 = .ok (.new 39, 3) := by decide +kernel
theorem dX6_init_72 : decode cX6_init 72 = .ok (.dup, 1) := by decide +kernel
theorem dX6_init_73 : decode cX6_init 73 = .ok (.aload_n 0, 1) := by decide +kernel
theorem dX6_init_74 : decode cX6_init 74 = .ok (.getfield 10, 3) := by decide +kernel
theorem dX6_init_77 : decode cX6_init 77 = .ok (.invokespecial 41, 3) := by decide +kernel
theorem dX6_init_80 : decode cX6_init 80 = .ok (.putfield 42, 3) := by decide +kernel
theorem dX6_init_83 : decode cX6_init 83 = .ok (.aload_n 0, 1) := by decide +kernel
theorem dX6_init_84 : decode cX6_init 84 = .ok (.new 46, 3) := by decide +kernel
theorem dX6_init_87 : decode cX6_init 87 = .ok (.dup, 1) := by decide +kernel
theorem dX6_init_88 : decode cX6_init 88 = .ok (.invokespecial 48, 3) := by decide +kernel
theorem dX6_init_91 : decode cX6_init 91 = .ok (.putfield 49, 3) := by decide +kernel
theorem dX6_init_94 : decode cX6_init 94 = .ok (.return_, 1) := by decide +kernel
theorem dX6_sheet_0 : decode cX6_sheet 0 = .ok (.iload_n 1, 1) := by decide +kernel
theorem dX6_sheet_1 : decode cX6_sheet 1 = .ok (.invokestatic 53, 3) := by decide +kernel
theorem dX6_sheet_4 : decode cX6_sheet 4 = .ok (.ifCond .ne 6, 3) := by decide +kernel
theorem dX6_sheet_7 : decode cX6_sheet 7 = .ok (.bipush (-2), 2) := by decide +kernel
theorem dX6_sheet_9 : decode cX6_sheet 9 = .ok (.ireturn, 1) := by decide +kernel
theorem dX6_sheet_10 : decode cX6_sheet 10 = .ok (.aload_n 0, 1) := by decide +kernel
theorem dX6_sheet_11 : decode cX6_sheet 11 = .ok (.aload_n 0, 1) := by decide +kernel
theorem dX6_sheet_12 : decode cX6_sheet 12 = .ok (.invokevirtual 57, 3) := by decide +kernel
theorem dX6_sheet_15 : decode cX6_sheet 15 = .ok (.iload_n 1, 1) := by decide +kernel
theorem dX6_sheet_16 : decode cX6_sheet 16 = .ok (.invokevirtual 61, 3) := by decide +kernel
theorem dX6_sheet_19 : decode cX6_sheet 19 = .ok (.invokevirtual 65, 3) := by decide +kernel
theorem dX6_sheet_22 : decode cX6_sheet 22 = .ok (.ireturn, 1) := by decide +kernel
theorem dX6_cut_0 : decode cX6_cut 0 = .ok (.aload_n 0, 1) := by decide +kernel
theorem dX6_cut_1 : decode cX6_cut 1 = .ok (.getfield 21, 3) := by decide +kernel
theorem dX6_cut_4 : decode cX6_cut 4 = .ok (.iload_n 1, 1) := by decide +kernel
theorem dX6_cut_5 : decode cX6_cut 5 = .ok (.invokevirtual 68, 3) := by decide +kernel
theorem dX6_cut_8 : decode cX6_cut 8 = .ok (.ifnull 10, 3) := by decide +kernel
theorem dX6_cut_11 : decode cX6_cut 11 = .ok (.iload_n 2, 1) := by decide +kernel
theorem dX6_cut_12 : decode cX6_cut 12 = .ok (.invokestatic 72, 3) := by decide +kernel
theorem dX6_cut_15 : decode cX6_cut 15 = .ok (.ifCond .ne 5, 3) := by decide +kernel
theorem dX6_cut_18 : decode cX6_cut 18 = .ok (.iconst (-1), 1) := by decide +kernel
theorem dX6_cut_19 : decode cX6_cut 19 = .ok (.ireturn, 1) := by decide +kernel
theorem dX6_cut_20 : decode cX6_cut 20 = .ok (.iload_n 3, 1) := by decide +kernel
theorem dX6_cut_21 : decode cX6_cut 21 = .ok (.invokestatic 75, 3) := by decide +kernel
theorem dX6_cut_24 : decode cX6_cut 24 = .ok (.ifCond .ne 6, 3) := by decide +kernel
theorem dX6_cut_27 : decode cX6_cut 27 = .ok (.bipush (-2), 2) := by decide +kernel
theorem dX6_cut_29 : decode cX6_cut 29 = .ok (.ireturn, 1) := by decide +kernel
theorem dX6_cut_30 : decode cX6_cut 30 = .ok (.aload_n 0, 1) := by decide +kernel
theorem dX6_cut_31 : decode cX6_cut 31 = .ok (.aload_n 0, 1) := by decide +kernel
theorem dX6_cut_32 : decode cX6_cut 32 = .ok (.invokevirtual 57, 3) := by decide +kernel
theorem dX6_cut_35 : decode cX6_cut 35 = .ok (.iload_n 1, 1) := by decide +kernel
theorem dX6_cut_36 : decode cX6_cut 36 = .ok (.iload_n 2, 1) := by decide +kernel
theorem dX6_cut_37 : decode cX6_cut 37 = .ok (.iload_n 3, 1) := by decide +kernel
theorem dX6_cut_38 : decode cX6_cut 38 = .ok (.iload 4, 2) := by decide +kernel
theorem dX6_cut_40 : decode cX6_cut 40 = .ok (.iload 5, 2) := by decide +kernel
theorem dX6_cut_42 : decode cX6_cut 42 = .ok (.invokevirtual 78, 3) := by decide +kernel
theorem dX6_cut_45 : decode cX6_cut 45 = .ok (.invokevirtual 65, 3) := by decide +kernel
theorem dX6_cut_48 : decode cX6_cut 48 = .ok (.ireturn, 1) := by decide +kernel
theorem dX6_make_0 : decode cX6_make 0 = .ok (.iload_n 2, 1) := by decide +kernel
theorem dX6_make_1 : decode cX6_make 1 = .ok (.invokestatic 72, 3) := by decide +kernel
theorem dX6_make_4 : decode cX6_make 4 = .ok (.ifCond .ne 5, 3) := by decide +kernel
theorem dX6_make_7 : decode cX6_make 7 = .ok (.iconst (-1), 1) := by decide +kernel
theorem dX6_make_8 : decode cX6_make 8 = .ok (.ireturn, 1) := by decide +kernel
theorem dX6_make_9 : decode cX6_make 9 = .ok (.iload_n 1, 1) := by decide +kernel
theorem dX6_make_10 : decode cX6_make 10 = .ok (.invokestatic 53, 3) := by decide +kernel
theorem dX6_make_13 : decode cX6_make 13 = .ok (.ifCond .eq 10, 3) := by decide +kernel
theorem dX6_make_16 : decode cX6_make 16 = .ok (.iload_n 3, 1) := by decide +kernel
theorem dX6_make_17 : decode cX6_make 17 = .ok (.invokestatic 82, 3) := by decide +kernel
theorem dX6_make_20 : decode cX6_make 20 = .ok (.ifCond .ne 6, 3) := by decide +kernel
theorem dX6_make_23 : decode cX6_make 23 = .ok (.bipush (-2), 2) := by decide +kernel
theorem dX6_make_25 : decode cX6_make 25 = .ok (.ireturn, 1) := by decide +kernel
theorem dX6_make_26 : decode cX6_make 26 = .ok (.aload_n 0, 1) := by decide +kernel
theorem dX6_make_27 : decode cX6_make 27 = .ok (.aload_n 0, 1) := by decide +kernel
theorem dX6_make_28 : decode cX6_make 28 = .ok (.invokevirtual 57, 3) := by decide +kernel
theorem dX6_make_31 : decode cX6_make 31 = .ok (.iload_n 1, 1) := by decide +kernel
theorem dX6_make_32 : decode cX6_make 32 = .ok (.iload_n 2, 1) := by decide +kernel
theorem dX6_make_33 : decode cX6_make 33 = .ok (.iload_n 3, 1) := by decide +kernel
theorem dX6_make_34 : decode cX6_make 34 = .ok (.invokevirtual 85, 3) := by decide +kernel
theorem dX6_make_37 : decode cX6_make 37 = .ok (.invokevirtual 65, 3) := by decide +kernel
theorem dX6_make_40 : decode cX6_make 40 = .ok (.ireturn, 1) := by decide +kernel
theorem dX6_write_0 : decode cX6_write 0 = .ok (.iload_n 1, 1) := by decide +kernel
theorem dX6_write_1 : decode cX6_write 1 = .ok (.invokestatic 89, 3) := by decide +kernel
theorem dX6_write_4 : decode cX6_write 4 = .ok (.ifCond .eq 10, 3) := by decide +kernel
theorem dX6_write_7 : decode cX6_write 7 = .ok (.iload_n 2, 1) := by decide +kernel
theorem dX6_write_8 : decode cX6_write 8 = .ok (.invokestatic 92, 3) := by decide +kernel
theorem dX6_write_11 : decode cX6_write 11 = .ok (.ifCond .ne 5, 3) := by decide +kernel
theorem dX6_write_14 : decode cX6_write 14 = .ok (.iconst (-1), 1) := by decide +kernel
theorem dX6_write_15 : decode cX6_write 15 = .ok (.ireturn, 1) := by decide +kernel
theorem dX6_write_16 : decode cX6_write 16 = .ok (.aload_n 0, 1) := by decide +kernel
theorem dX6_write_17 : decode cX6_write 17 = .ok (.getfield 49, 3) := by decide +kernel
theorem dX6_write_20 : decode cX6_write 20 = .ok (.invokevirtual 95, 3) := by decide +kernel
theorem dX6_write_23 : decode cX6_write 23 = .ok (.bipush (-6), 2) := by decide +kernel
theorem dX6_write_25 : decode cX6_write 25 = .ok (.if_icmp .eq 6, 3) := by decide +kernel
theorem dX6_write_28 : decode cX6_write 28 = .ok (.bipush (-3), 2) := by decide +kernel
theorem dX6_write_30 : decode cX6_write 30 = .ok (.ireturn, 1) := by decide +kernel
theorem dX6_write_31 : decode cX6_write 31 = .ok (.iload_n 3, 1) := by decide +kernel
theorem dX6_write_32 : decode cX6_write 32 = .ok (.invokestatic 53, 3) := by decide +kernel
theorem dX6_write_35 : decode cX6_write 35 = .ok (.ifCond .eq 11, 3) := by decide +kernel
theorem dX6_write_38 : decode cX6_write 38 = .ok (.iload 4, 2) := by decide +kernel
theorem dX6_write_40 : decode cX6_write 40 = .ok (.invokestatic 82, 3) := by decide +kernel
theorem dX6_write_43 : decode cX6_write 43 = .ok (.ifCond .ne 6, 3) := by decide +kernel
theorem dX6_write_46 : decode cX6_write 46 = .ok (.bipush (-2), 2) := by decide +kernel
theorem dX6_write_48 : decode cX6_write 48 = .ok (.ireturn, 1) := by decide +kernel
theorem dX6_write_49 : decode cX6_write 49 = .ok (.aload_n 0, 1) := by decide +kernel
theorem dX6_write_50 : decode cX6_write 50 = .ok (.aload_n 0, 1) := by decide +kernel
theorem dX6_write_51 : decode cX6_write 51 = .ok (.invokevirtual 57, 3) := by decide +kernel
theorem dX6_write_54 : decode cX6_write 54 = .ok (.aload_n 0, 1) := by decide +kernel
theorem dX6_write_55 : decode cX6_write 55 = .ok (.getfield 49, 3) := by decide +kernel
theorem dX6_write_58 : decode cX6_write 58 = .ok (.iload_n 1, 1) := by decide +kernel
theorem dX6_write_59 : decode cX6_write 59 = .ok (.iload_n 2, 1) := by decide +kernel
theorem dX6_write_60 : decode cX6_write 60 = .ok (.iload_n 3, 1) := by decide +kernel
theorem dX6_write_61 : decode cX6_write 61 = .ok (.iload 4, 2) := by decide +kernel
theorem dX6_write_63 : decode cX6_write 63 = .ok (.invokevirtual 99, 3) := by decide +kernel
theorem dX6_write_66 : decode cX6_write 66 = .ok (.invokevirtual 65, 3) := by decide +kernel
theorem dX6_write_69 : decode cX6_write 69 = .ok (.istore 5, 2) := by decide +kernel
theorem dX6_write_71 : decode cX6_write 71 = .ok (.iload 5, 2) := by decide +kernel
theorem dX6_write_73 : decode cX6_write 73 = .ok (.ifCond .lt 10, 3) := by decide +kernel
theorem dX6_write_76 : decode cX6_write 76 = .ok (.aload_n 0, 1) := by decide +kernel
theorem dX6_write_77 : decode cX6_write 77 = .ok (.getfield 49, 3) := by decide +kernel
theorem dX6_write_80 : decode cX6_write 80 = .ok (.invokevirtual 103, 3) := by decide +kernel
theorem dX6_write_83 : decode cX6_write 83 = .ok (.iload 5, 2) := by decide +kernel
theorem dX6_write_85 : decode cX6_write 85 = .ok (.ireturn, 1) := by decide +kernel
theorem dX6_place_0 : decode cX6_place 0 = .ok (.aload_n 0, 1) := by decide +kernel
theorem dX6_place_1 : decode cX6_place 1 = .ok (.getfield 21, 3) := by decide +kernel
theorem dX6_place_4 : decode cX6_place 4 = .ok (.iload_n 1, 1) := by decide +kernel
theorem dX6_place_5 : decode cX6_place 5 = .ok (.invokevirtual 106, 3) := by decide +kernel
theorem dX6_place_8 : decode cX6_place 8 = .ok (.ifnull 17, 3) := by decide +kernel
theorem dX6_place_11 : decode cX6_place 11 = .ok (.iload_n 2, 1) := by decide +kernel
theorem dX6_place_12 : decode cX6_place 12 = .ok (.invokestatic 89, 3) := by decide +kernel
theorem dX6_place_15 : decode cX6_place 15 = .ok (.ifCond .eq 10, 3) := by decide +kernel
theorem dX6_place_18 : decode cX6_place 18 = .ok (.iload_n 3, 1) := by decide +kernel
theorem dX6_place_19 : decode cX6_place 19 = .ok (.invokestatic 92, 3) := by decide +kernel
theorem dX6_place_22 : decode cX6_place 22 = .ok (.ifCond .ne 5, 3) := by decide +kernel
theorem dX6_place_25 : decode cX6_place 25 = .ok (.iconst (-1), 1) := by decide +kernel
theorem dX6_place_26 : decode cX6_place 26 = .ok (.ireturn, 1) := by decide +kernel
theorem dX6_place_27 : decode cX6_place 27 = .ok (.aload_n 0, 1) := by decide +kernel
theorem dX6_place_28 : decode cX6_place 28 = .ok (.aload_n 0, 1) := by decide +kernel
theorem dX6_place_29 : decode cX6_place 29 = .ok (.invokevirtual 57, 3) := by decide +kernel
theorem dX6_place_32 : decode cX6_place 32 = .ok (.iload_n 1, 1) := by decide +kernel
theorem dX6_place_33 : decode cX6_place 33 = .ok (.iload_n 2, 1) := by decide +kernel
theorem dX6_place_34 : decode cX6_place 34 = .ok (.iload_n 3, 1) := by decide +kernel
theorem dX6_place_35 : decode cX6_place 35 = .ok (.invokevirtual 110, 3) := by decide +kernel
theorem dX6_place_38 : decode cX6_place 38 = .ok (.invokevirtual 65, 3) := by decide +kernel
theorem dX6_place_41 : decode cX6_place 41 = .ok (.ireturn, 1) := by decide +kernel
theorem dX6_clear_0 : decode cX6_clear 0 = .ok (.iload_n 1, 1) := by decide +kernel
theorem dX6_clear_1 : decode cX6_clear 1 = .ok (.invokestatic 89, 3) := by decide +kernel
theorem dX6_clear_4 : decode cX6_clear 4 = .ok (.ifCond .ne 5, 3) := by decide +kernel
theorem dX6_clear_7 : decode cX6_clear 7 = .ok (.iconst (-1), 1) := by decide +kernel
theorem dX6_clear_8 : decode cX6_clear 8 = .ok (.ireturn, 1) := by decide +kernel
theorem dX6_clear_9 : decode cX6_clear 9 = .ok (.aload_n 0, 1) := by decide +kernel
theorem dX6_clear_10 : decode cX6_clear 10 = .ok (.aload_n 0, 1) := by decide +kernel
theorem dX6_clear_11 : decode cX6_clear 11 = .ok (.invokevirtual 57, 3) := by decide +kernel
theorem dX6_clear_14 : decode cX6_clear 14 = .ok (.iload_n 1, 1) := by decide +kernel
theorem dX6_clear_15 : decode cX6_clear 15 = .ok (.invokevirtual 113, 3) := by decide +kernel
theorem dX6_clear_18 : decode cX6_clear 18 = .ok (.invokevirtual 65, 3) := by decide +kernel
theorem dX6_clear_21 : decode cX6_clear 21 = .ok (.ireturn, 1) := by decide +kernel
theorem dX6_throwAway_0 : decode cX6_throwAway 0 = .ok (.aload_n 0, 1) := by decide +kernel
theorem dX6_throwAway_1 : decode cX6_throwAway 1 = .ok (.getfield 21, 3) := by decide +kernel
theorem dX6_throwAway_4 : decode cX6_throwAway 4 = .ok (.iload_n 1, 1) := by decide +kernel
theorem dX6_throwAway_5 : decode cX6_throwAway 5 = .ok (.invokevirtual 106, 3) := by decide +kernel
theorem dX6_throwAway_8 : decode cX6_throwAway 8 = .ok (.ifnonnull 5, 3) := by decide +kernel
theorem dX6_throwAway_11 : decode cX6_throwAway 11 = .ok (.iconst (-1), 1) := by decide +kernel
theorem dX6_throwAway_12 : decode cX6_throwAway 12 = .ok (.ireturn, 1) := by decide +kernel
theorem dX6_throwAway_13 : decode cX6_throwAway 13 = .ok (.aload_n 0, 1) := by decide +kernel
theorem dX6_throwAway_14 : decode cX6_throwAway 14 = .ok (.aload_n 0, 1) := by decide +kernel
theorem dX6_throwAway_15 : decode cX6_throwAway 15 = .ok (.invokevirtual 57, 3) := by decide +kernel
theorem dX6_throwAway_18 : decode cX6_throwAway 18 = .ok (.iload_n 1, 1) := by decide +kernel
theorem dX6_throwAway_19 : decode cX6_throwAway 19 = .ok (.invokevirtual 116, 3) := by decide +kernel
theorem dX6_throwAway_22 : decode cX6_throwAway 22 = .ok (.invokevirtual 65, 3) := by decide +kernel
theorem dX6_throwAway_25 : decode cX6_throwAway 25 = .ok (.ireturn, 1) := by decide +kernel
theorem dX6_scrap_0 : decode cX6_scrap 0 = .ok (.aload_n 0, 1) := by decide +kernel
theorem dX6_scrap_1 : decode cX6_scrap 1 = .ok (.getfield 21, 3) := by decide +kernel
theorem dX6_scrap_4 : decode cX6_scrap 4 = .ok (.iload_n 1, 1) := by decide +kernel
theorem dX6_scrap_5 : decode cX6_scrap 5 = .ok (.invokevirtual 68, 3) := by decide +kernel
theorem dX6_scrap_8 : decode cX6_scrap 8 = .ok (.ifnonnull 5, 3) := by decide +kernel
theorem dX6_scrap_11 : decode cX6_scrap 11 = .ok (.iconst (-1), 1) := by decide +kernel
theorem dX6_scrap_12 : decode cX6_scrap 12 = .ok (.ireturn, 1) := by decide +kernel
theorem dX6_scrap_13 : decode cX6_scrap 13 = .ok (.aload_n 0, 1) := by decide +kernel
theorem dX6_scrap_14 : decode cX6_scrap 14 = .ok (.aload_n 0, 1) := by decide +kernel
theorem dX6_scrap_15 : decode cX6_scrap 15 = .ok (.invokevirtual 57, 3) := by decide +kernel
theorem dX6_scrap_18 : decode cX6_scrap 18 = .ok (.iload_n 1, 1) := by decide +kernel
theorem dX6_scrap_19 : decode cX6_scrap 19 = .ok (.invokevirtual 119, 3) := by decide +kernel
theorem dX6_scrap_22 : decode cX6_scrap 22 = .ok (.invokevirtual 65, 3) := by decide +kernel
theorem dX6_scrap_25 : decode cX6_scrap 25 = .ok (.ireturn, 1) := by decide +kernel
theorem dX6_of_0 : decode cX6_of 0 = .ok (.aload_n 0, 1) := by decide +kernel
theorem dX6_of_1 : decode cX6_of 1 = .ok (.getfield 21, 3) := by decide +kernel
theorem dX6_of_4 : decode cX6_of 4 = .ok (.iload_n 1, 1) := by decide +kernel
theorem dX6_of_5 : decode cX6_of 5 = .ok (.invokevirtual 106, 3) := by decide +kernel
theorem dX6_of_8 : decode cX6_of 8 = .ok (.astore_n 3, 1) := by decide +kernel
theorem dX6_of_9 : decode cX6_of 9 = .ok (.aload_n 3, 1) := by decide +kernel
theorem dX6_of_10 : decode cX6_of 10 = .ok (.ifnonnull 5, 3) := by decide +kernel
theorem dX6_of_13 : decode cX6_of 13 = .ok (.iconst (-1), 1) := by decide +kernel
theorem dX6_of_14 : decode cX6_of 14 = .ok (.ireturn, 1) := by decide +kernel
theorem dX6_of_15 : decode cX6_of 15 = .ok (.iload_n 2, 1) := by decide +kernel
theorem dX6_of_16 : decode cX6_of 16 = .ok (.tableswitch 91 0 7 #[48, 53, 58, 66, 71, 76, 81, 86], 48) := by decide +kernel
theorem dX6_of_64 : decode cX6_of 64 = .ok (.aload_n 3, 1) := by decide +kernel
theorem dX6_of_65 : decode cX6_of 65 = .ok (.getfield 122, 3) := by decide +kernel
theorem dX6_of_68 : decode cX6_of 68 = .ok (.ireturn, 1) := by decide +kernel
theorem dX6_of_69 : decode cX6_of 69 = .ok (.aload_n 3, 1) := by decide +kernel
theorem dX6_of_70 : decode cX6_of 70 = .ok (.getfield 128, 3) := by decide +kernel
theorem dX6_of_73 : decode cX6_of 73 = .ok (.ireturn, 1) := by decide +kernel
theorem dX6_of_74 : decode cX6_of 74 = .ok (.aload_n 3, 1) := by decide +kernel
theorem dX6_of_75 : decode cX6_of 75 = .ok (.getfield 131, 3) := by decide +kernel
theorem dX6_of_78 : decode cX6_of 78 = .ok (.invokestatic 134, 3) := by decide +kernel
theorem dX6_of_81 : decode cX6_of 81 = .ok (.ireturn, 1) := by decide +kernel
theorem dX6_of_82 : decode cX6_of 82 = .ok (.aload_n 3, 1) := by decide +kernel
theorem dX6_of_83 : decode cX6_of 83 = .ok (.getfield 137, 3) := by decide +kernel
theorem dX6_of_86 : decode cX6_of 86 = .ok (.ireturn, 1) := by decide +kernel
theorem dX6_of_87 : decode cX6_of 87 = .ok (.aload_n 3, 1) := by decide +kernel
theorem dX6_of_88 : decode cX6_of 88 = .ok (.getfield 140, 3) := by decide +kernel
theorem dX6_of_91 : decode cX6_of 91 = .ok (.ireturn, 1) := by decide +kernel
theorem dX6_of_92 : decode cX6_of 92 = .ok (.aload_n 3, 1) := by decide +kernel
theorem dX6_of_93 : decode cX6_of 93 = .ok (.getfield 143, 3) := by decide +kernel
theorem dX6_of_96 : decode cX6_of 96 = .ok (.ireturn, 1) := by decide +kernel
theorem dX6_of_97 : decode cX6_of 97 = .ok (.aload_n 3, 1) := by decide +kernel
theorem dX6_of_98 : decode cX6_of 98 = .ok (.getfield 146, 3) := by decide +kernel
theorem dX6_of_101 : decode cX6_of 101 = .ok (.ireturn, 1) := by decide +kernel
theorem dX6_of_102 : decode cX6_of 102 = .ok (.aload_n 3, 1) := by decide +kernel
theorem dX6_of_103 : decode cX6_of 103 = .ok (.getfield 131, 3) := by decide +kernel
theorem dX6_of_106 : decode cX6_of 106 = .ok (.ireturn, 1) := by decide +kernel
theorem dX6_of_107 : decode cX6_of 107 = .ok (.bipush (-2), 2) := by decide +kernel
theorem dX6_of_109 : decode cX6_of 109 = .ok (.ireturn, 1) := by decide +kernel
theorem dX6_ofSheet_0 : decode cX6_ofSheet 0 = .ok (.aload_n 0, 1) := by decide +kernel
theorem dX6_ofSheet_1 : decode cX6_ofSheet 1 = .ok (.getfield 21, 3) := by decide +kernel
theorem dX6_ofSheet_4 : decode cX6_ofSheet 4 = .ok (.iload_n 1, 1) := by decide +kernel
theorem dX6_ofSheet_5 : decode cX6_ofSheet 5 = .ok (.invokevirtual 68, 3) := by decide +kernel
theorem dX6_ofSheet_8 : decode cX6_ofSheet 8 = .ok (.astore_n 3, 1) := by decide +kernel
theorem dX6_ofSheet_9 : decode cX6_ofSheet 9 = .ok (.aload_n 3, 1) := by decide +kernel
theorem dX6_ofSheet_10 : decode cX6_ofSheet 10 = .ok (.ifnonnull 5, 3) := by decide +kernel
theorem dX6_ofSheet_13 : decode cX6_ofSheet 13 = .ok (.iconst (-1), 1) := by decide +kernel
theorem dX6_ofSheet_14 : decode cX6_ofSheet 14 = .ok (.ireturn, 1) := by decide +kernel
theorem dX6_ofSheet_15 : decode cX6_ofSheet 15 = .ok (.iload_n 2, 1) := by decide +kernel
theorem dX6_ofSheet_16 : decode cX6_ofSheet 16 = .ok (.tableswitch 73 0 4 #[36, 41, 46, 55, 68], 36) := by decide +kernel
theorem dX6_ofSheet_52 : decode cX6_ofSheet 52 = .ok (.aload_n 3, 1) := by decide +kernel
theorem dX6_ofSheet_53 : decode cX6_ofSheet 53 = .ok (.getfield 149, 3) := by decide +kernel
theorem dX6_ofSheet_56 : decode cX6_ofSheet 56 = .ok (.ireturn, 1) := by decide +kernel
theorem dX6_ofSheet_57 : decode cX6_ofSheet 57 = .ok (.aload_n 3, 1) := by decide +kernel
theorem dX6_ofSheet_58 : decode cX6_ofSheet 58 = .ok (.invokevirtual 150, 3) := by decide +kernel
theorem dX6_ofSheet_61 : decode cX6_ofSheet 61 = .ok (.ireturn, 1) := by decide +kernel
theorem dX6_ofSheet_62 : decode cX6_ofSheet 62 = .ok (.aload_n 0, 1) := by decide +kernel
theorem dX6_ofSheet_63 : decode cX6_ofSheet 63 = .ok (.getfield 21, 3) := by decide +kernel
theorem dX6_ofSheet_66 : decode cX6_ofSheet 66 = .ok (.iload_n 1, 1) := by decide +kernel
theorem dX6_ofSheet_67 : decode cX6_ofSheet 67 = .ok (.invokevirtual 153, 3) := by decide +kernel
theorem dX6_ofSheet_70 : decode cX6_ofSheet 70 = .ok (.ireturn, 1) := by decide +kernel
theorem dX6_ofSheet_71 : decode cX6_ofSheet 71 = .ok (.aload_n 3, 1) := by decide +kernel
theorem dX6_ofSheet_72 : decode cX6_ofSheet 72 = .ok (.getfield 156, 3) := by decide +kernel
theorem dX6_ofSheet_75 : decode cX6_ofSheet 75 = .ok (.ifCond .eq 7, 3) := by decide +kernel
theorem dX6_ofSheet_78 : decode cX6_ofSheet 78 = .ok (.iconst 1, 1) := by decide +kernel
theorem dX6_ofSheet_79 : decode cX6_ofSheet 79 = .ok (.goto 4, 3) := by decide +kernel
theorem dX6_ofSheet_82 : decode cX6_ofSheet 82 = .ok (.iconst 0, 1) := by decide +kernel
theorem dX6_ofSheet_83 : decode cX6_ofSheet 83 = .ok (.ireturn, 1) := by decide +kernel
theorem dX6_ofSheet_84 : decode cX6_ofSheet 84 = .ok (.aload_n 3, 1) := by decide +kernel
theorem dX6_ofSheet_85 : decode cX6_ofSheet 85 = .ok (.invokevirtual 160, 3) := by decide +kernel
theorem dX6_ofSheet_88 : decode cX6_ofSheet 88 = .ok (.ireturn, 1) := by decide +kernel
theorem dX6_ofSheet_89 : decode cX6_ofSheet 89 = .ok (.bipush (-2), 2) := by decide +kernel
theorem dX6_ofSheet_91 : decode cX6_ofSheet 91 = .ok (.ireturn, 1) := by decide +kernel
theorem dX6_row_0 : decode cX6_row 0 = .ok (.aload_n 0, 1) := by decide +kernel
theorem dX6_row_1 : decode cX6_row 1 = .ok (.getfield 21, 3) := by decide +kernel
theorem dX6_row_4 : decode cX6_row 4 = .ok (.iload_n 1, 1) := by decide +kernel
theorem dX6_row_5 : decode cX6_row 5 = .ok (.invokevirtual 68, 3) := by decide +kernel
theorem dX6_row_8 : decode cX6_row 8 = .ok (.astore_n 3, 1) := by decide +kernel
theorem dX6_row_9 : decode cX6_row 9 = .ok (.aload_n 3, 1) := by decide +kernel
theorem dX6_row_10 : decode cX6_row 10 = .ok (.ifnull 13, 3) := by decide +kernel
theorem dX6_row_13 : decode cX6_row 13 = .ok (.iload_n 2, 1) := by decide +kernel
theorem dX6_row_14 : decode cX6_row 14 = .ok (.ifCond .lt 9, 3) := by decide +kernel
theorem dX6_row_17 : decode cX6_row 17 = .ok (.iload_n 2, 1) := by decide +kernel
theorem dX6_row_18 : decode cX6_row 18 = .ok (.bipush 9, 2) := by decide +kernel
theorem dX6_row_20 : decode cX6_row 20 = .ok (.if_icmp .lt 5, 3) := by decide +kernel
theorem dX6_row_23 : decode cX6_row 23 = .ok (.iconst (-1), 1) := by decide +kernel
theorem dX6_row_24 : decode cX6_row 24 = .ok (.ireturn, 1) := by decide +kernel
theorem dX6_row_25 : decode cX6_row 25 = .ok (.aload_n 3, 1) := by decide +kernel
theorem dX6_row_26 : decode cX6_row 26 = .ok (.getfield 163, 3) := by decide +kernel
theorem dX6_row_29 : decode cX6_row 29 = .ok (.iload_n 2, 1) := by decide +kernel
theorem dX6_row_30 : decode cX6_row 30 = .ok (.iaload, 1) := by decide +kernel
theorem dX6_row_31 : decode cX6_row 31 = .ok (.ireturn, 1) := by decide +kernel
theorem dX6_pane_0 : decode cX6_pane 0 = .ok (.iload_n 1, 1) := by decide +kernel
theorem dX6_pane_1 : decode cX6_pane 1 = .ok (.invokestatic 89, 3) := by decide +kernel
theorem dX6_pane_4 : decode cX6_pane 4 = .ok (.ifCond .eq 10, 3) := by decide +kernel
theorem dX6_pane_7 : decode cX6_pane 7 = .ok (.iload_n 2, 1) := by decide +kernel
theorem dX6_pane_8 : decode cX6_pane 8 = .ok (.invokestatic 92, 3) := by decide +kernel
theorem dX6_pane_11 : decode cX6_pane 11 = .ok (.ifCond .ne 5, 3) := by decide +kernel
theorem dX6_pane_14 : decode cX6_pane 14 = .ok (.iconst (-1), 1) := by decide +kernel
theorem dX6_pane_15 : decode cX6_pane 15 = .ok (.ireturn, 1) := by decide +kernel
theorem dX6_pane_16 : decode cX6_pane 16 = .ok (.aload_n 0, 1) := by decide +kernel
theorem dX6_pane_17 : decode cX6_pane 17 = .ok (.getfield 21, 3) := by decide +kernel
theorem dX6_pane_20 : decode cX6_pane 20 = .ok (.getfield 167, 3) := by decide +kernel
theorem dX6_pane_23 : decode cX6_pane 23 = .ok (.iload_n 1, 1) := by decide +kernel
theorem dX6_pane_24 : decode cX6_pane 24 = .ok (.bipush 12, 2) := by decide +kernel
theorem dX6_pane_26 : decode cX6_pane 26 = .ok (.imul, 1) := by decide +kernel
theorem dX6_pane_27 : decode cX6_pane 27 = .ok (.iload_n 2, 1) := by decide +kernel
theorem dX6_pane_28 : decode cX6_pane 28 = .ok (.iadd, 1) := by decide +kernel
theorem dX6_pane_29 : decode cX6_pane 29 = .ok (.iaload, 1) := by decide +kernel
theorem dX6_pane_30 : decode cX6_pane 30 = .ok (.ireturn, 1) := by decide +kernel
theorem dX6_shape_0 : decode cX6_shape 0 = .ok (.iload_n 1, 1) := by decide +kernel
theorem dX6_shape_1 : decode cX6_shape 1 = .ok (.invokestatic 72, 3) := by decide +kernel
theorem dX6_shape_4 : decode cX6_shape 4 = .ok (.ifCond .ne 5, 3) := by decide +kernel
theorem dX6_shape_7 : decode cX6_shape 7 = .ok (.iconst (-1), 1) := by decide +kernel
theorem dX6_shape_8 : decode cX6_shape 8 = .ok (.ireturn, 1) := by decide +kernel
theorem dX6_shape_9 : decode cX6_shape 9 = .ok (.iload_n 2, 1) := by decide +kernel
theorem dX6_shape_10 : decode cX6_shape 10 = .ok (.invokestatic 75, 3) := by decide +kernel
theorem dX6_shape_13 : decode cX6_shape 13 = .ok (.ifCond .eq 12, 3) := by decide +kernel
theorem dX6_shape_16 : decode cX6_shape 16 = .ok (.iload_n 3, 1) := by decide +kernel
theorem dX6_shape_17 : decode cX6_shape 17 = .ok (.ifCond .lt 8, 3) := by decide +kernel
theorem dX6_shape_20 : decode cX6_shape 20 = .ok (.iload_n 3, 1) := by decide +kernel
theorem dX6_shape_21 : decode cX6_shape 21 = .ok (.iconst 5, 1) := by decide +kernel
theorem dX6_shape_22 : decode cX6_shape 22 = .ok (.if_icmp .lt 6, 3) := by decide +kernel
theorem dX6_shape_25 : decode cX6_shape 25 = .ok (.bipush (-2), 2) := by decide +kernel
theorem dX6_shape_27 : decode cX6_shape 27 = .ok (.ireturn, 1) := by decide +kernel
theorem dX6_shape_28 : decode cX6_shape 28 = .ok (.aload_n 0, 1) := by decide +kernel
theorem dX6_shape_29 : decode cX6_shape 29 = .ok (.getfield 10, 3) := by decide +kernel
theorem dX6_shape_32 : decode cX6_shape 32 = .ok (.iload_n 1, 1) := by decide +kernel
theorem dX6_shape_33 : decode cX6_shape 33 = .ok (.iload_n 2, 1) := by decide +kernel
theorem dX6_shape_34 : decode cX6_shape 34 = .ok (.iload_n 3, 1) := by decide +kernel
theorem dX6_shape_35 : decode cX6_shape 35 = .ok (.invokevirtual 170, 3) := by decide +kernel
theorem dX6_shape_38 : decode cX6_shape 38 = .ok (.ireturn, 1) := by decide +kernel
theorem dX6_count_0 : decode cX6_count 0 = .ok (.iload_n 1, 1) := by decide +kernel
theorem dX6_count_1 : decode cX6_count 1 = .ok (.tableswitch 159 0 9 #[55, 63, 71, 80, 89, 98, 116, 125, 143, 151], 55) := by decide +kernel
theorem dX6_count_56 : decode cX6_count 56 = .ok (.aload_n 0, 1) := by decide +kernel
theorem dX6_count_57 : decode cX6_count 57 = .ok (.getfield 21, 3) := by decide +kernel
theorem dX6_count_60 : decode cX6_count 60 = .ok (.getfield 173, 3) := by decide +kernel
theorem dX6_count_63 : decode cX6_count 63 = .ok (.ireturn, 1) := by decide +kernel
theorem dX6_count_64 : decode cX6_count 64 = .ok (.aload_n 0, 1) := by decide +kernel
theorem dX6_count_65 : decode cX6_count 65 = .ok (.getfield 21, 3) := by decide +kernel
theorem dX6_count_68 : decode cX6_count 68 = .ok (.getfield 176, 3) := by decide +kernel
theorem dX6_count_71 : decode cX6_count 71 = .ok (.ireturn, 1) := by decide +kernel
theorem dX6_count_72 : decode cX6_count 72 = .ok (.aload_n 0, 1) := by decide +kernel
theorem dX6_count_73 : decode cX6_count 73 = .ok (.getfield 21, 3) := by decide +kernel
theorem dX6_count_76 : decode cX6_count 76 = .ok (.iconst 0, 1) := by decide +kernel
theorem dX6_count_77 : decode cX6_count 77 = .ok (.invokevirtual 179, 3) := by decide +kernel
theorem dX6_count_80 : decode cX6_count 80 = .ok (.ireturn, 1) := by decide +kernel
theorem dX6_count_81 : decode cX6_count 81 = .ok (.aload_n 0, 1) := by decide +kernel
theorem dX6_count_82 : decode cX6_count 82 = .ok (.getfield 21, 3) := by decide +kernel
theorem dX6_count_85 : decode cX6_count 85 = .ok (.iconst 1, 1) := by decide +kernel
theorem dX6_count_86 : decode cX6_count 86 = .ok (.invokevirtual 179, 3) := by decide +kernel
theorem dX6_count_89 : decode cX6_count 89 = .ok (.ireturn, 1) := by decide +kernel
theorem dX6_count_90 : decode cX6_count 90 = .ok (.aload_n 0, 1) := by decide +kernel
theorem dX6_count_91 : decode cX6_count 91 = .ok (.getfield 21, 3) := by decide +kernel
theorem dX6_count_94 : decode cX6_count 94 = .ok (.iconst 2, 1) := by decide +kernel
theorem dX6_count_95 : decode cX6_count 95 = .ok (.invokevirtual 179, 3) := by decide +kernel
theorem dX6_count_98 : decode cX6_count 98 = .ok (.ireturn, 1) := by decide +kernel
theorem dX6_count_99 : decode cX6_count 99 = .ok (.aload_n 0, 1) := by decide +kernel
theorem dX6_count_100 : decode cX6_count 100 = .ok (.getfield 21, 3) := by decide +kernel
theorem dX6_count_103 : decode cX6_count 103 = .ok (.iconst 2, 1) := by decide +kernel
theorem dX6_count_104 : decode cX6_count 104 = .ok (.invokevirtual 182, 3) := by decide +kernel
theorem dX6_count_107 : decode cX6_count 107 = .ok (.aload_n 0, 1) := by decide +kernel
theorem dX6_count_108 : decode cX6_count 108 = .ok (.getfield 21, 3) := by decide +kernel
theorem dX6_count_111 : decode cX6_count 111 = .ok (.iconst 1, 1) := by decide +kernel
theorem dX6_count_112 : decode cX6_count 112 = .ok (.invokevirtual 185, 3) := by decide +kernel
theorem dX6_count_115 : decode cX6_count 115 = .ok (.iadd, 1) := by decide +kernel
theorem dX6_count_116 : decode cX6_count 116 = .ok (.ireturn, 1) := by decide +kernel
theorem dX6_count_117 : decode cX6_count 117 = .ok (.aload_n 0, 1) := by decide +kernel
theorem dX6_count_118 : decode cX6_count 118 = .ok (.getfield 21, 3) := by decide +kernel
theorem dX6_count_121 : decode cX6_count 121 = .ok (.iconst 0, 1) := by decide +kernel
theorem dX6_count_122 : decode cX6_count 122 = .ok (.invokevirtual 185, 3) := by decide +kernel
theorem dX6_count_125 : decode cX6_count 125 = .ok (.ireturn, 1) := by decide +kernel
theorem dX6_count_126 : decode cX6_count 126 = .ok (.aload_n 0, 1) := by decide +kernel
theorem dX6_count_127 : decode cX6_count 127 = .ok (.getfield 21, 3) := by decide +kernel
theorem dX6_count_130 : decode cX6_count 130 = .ok (.iconst 0, 1) := by decide +kernel
theorem dX6_count_131 : decode cX6_count 131 = .ok (.invokevirtual 182, 3) := by decide +kernel
theorem dX6_count_134 : decode cX6_count 134 = .ok (.aload_n 0, 1) := by decide +kernel
theorem dX6_count_135 : decode cX6_count 135 = .ok (.getfield 21, 3) := by decide +kernel
theorem dX6_count_138 : decode cX6_count 138 = .ok (.iconst 1, 1) := by decide +kernel
theorem dX6_count_139 : decode cX6_count 139 = .ok (.invokevirtual 182, 3) := by decide +kernel
theorem dX6_count_142 : decode cX6_count 142 = .ok (.iadd, 1) := by decide +kernel
theorem dX6_count_143 : decode cX6_count 143 = .ok (.ireturn, 1) := by decide +kernel
theorem dX6_count_144 : decode cX6_count 144 = .ok (.aload_n 0, 1) := by decide +kernel
theorem dX6_count_145 : decode cX6_count 145 = .ok (.getfield 49, 3) := by decide +kernel
theorem dX6_count_148 : decode cX6_count 148 = .ok (.getfield 189, 3) := by decide +kernel
theorem dX6_count_151 : decode cX6_count 151 = .ok (.ireturn, 1) := by decide +kernel
theorem dX6_count_152 : decode cX6_count 152 = .ok (.aload_n 0, 1) := by decide +kernel
theorem dX6_count_153 : decode cX6_count 153 = .ok (.getfield 42, 3) := by decide +kernel
theorem dX6_count_156 : decode cX6_count 156 = .ok (.getfield 192, 3) := by decide +kernel
theorem dX6_count_159 : decode cX6_count 159 = .ok (.ireturn, 1) := by decide +kernel
theorem dX6_count_160 : decode cX6_count 160 = .ok (.bipush (-2), 2) := by decide +kernel
theorem dX6_count_162 : decode cX6_count 162 = .ok (.ireturn, 1) := by decide +kernel
theorem dX6_fit_0 : decode cX6_fit 0 = .ok (.aload_n 0, 1) := by decide +kernel
theorem dX6_fit_1 : decode cX6_fit 1 = .ok (.getfield 21, 3) := by decide +kernel
theorem dX6_fit_4 : decode cX6_fit 4 = .ok (.iload_n 1, 1) := by decide +kernel
theorem dX6_fit_5 : decode cX6_fit 5 = .ok (.invokevirtual 68, 3) := by decide +kernel
theorem dX6_fit_8 : decode cX6_fit 8 = .ok (.astore 5, 2) := by decide +kernel
theorem dX6_fit_10 : decode cX6_fit 10 = .ok (.aload 5, 2) := by decide +kernel
theorem dX6_fit_12 : decode cX6_fit 12 = .ok (.ifnull 10, 3) := by decide +kernel
theorem dX6_fit_15 : decode cX6_fit 15 = .ok (.iload_n 2, 1) := by decide +kernel
theorem dX6_fit_16 : decode cX6_fit 16 = .ok (.invokestatic 72, 3) := by decide +kernel
theorem dX6_fit_19 : decode cX6_fit 19 = .ok (.ifCond .ne 5, 3) := by decide +kernel
theorem dX6_fit_22 : decode cX6_fit 22 = .ok (.iconst (-1), 1) := by decide +kernel
theorem dX6_fit_23 : decode cX6_fit 23 = .ok (.ireturn, 1) := by decide +kernel
theorem dX6_fit_24 : decode cX6_fit 24 = .ok (.iload_n 3, 1) := by decide +kernel
theorem dX6_fit_25 : decode cX6_fit 25 = .ok (.invokestatic 82, 3) := by decide +kernel
theorem dX6_fit_28 : decode cX6_fit 28 = .ok (.ifCond .eq 14, 3) := by decide +kernel
theorem dX6_fit_31 : decode cX6_fit 31 = .ok (.iload 4, 2) := by decide +kernel
theorem dX6_fit_33 : decode cX6_fit 33 = .ok (.ifCond .lt 9, 3) := by decide +kernel
theorem dX6_fit_36 : decode cX6_fit 36 = .ok (.iload 4, 2) := by decide +kernel
theorem dX6_fit_38 : decode cX6_fit 38 = .ok (.iconst 2, 1) := by decide +kernel
theorem dX6_fit_39 : decode cX6_fit 39 = .ok (.if_icmp .le 6, 3) := by decide +kernel
theorem dX6_fit_42 : decode cX6_fit 42 = .ok (.bipush (-2), 2) := by decide +kernel
theorem dX6_fit_44 : decode cX6_fit 44 = .ok (.ireturn, 1) := by decide +kernel
theorem dX6_fit_45 : decode cX6_fit 45 = .ok (.aload 5, 2) := by decide +kernel
theorem dX6_fit_47 : decode cX6_fit 47 = .ok (.iload_n 2, 1) := by decide +kernel
theorem dX6_fit_48 : decode cX6_fit 48 = .ok (.iload_n 3, 1) := by decide +kernel
theorem dX6_fit_49 : decode cX6_fit 49 = .ok (.invokevirtual 193, 3) := by decide +kernel
theorem dX6_fit_52 : decode cX6_fit 52 = .ok (.istore 6, 2) := by decide +kernel
theorem dX6_fit_54 : decode cX6_fit 54 = .ok (.iload 6, 2) := by decide +kernel
theorem dX6_fit_56 : decode cX6_fit 56 = .ok (.bipush (-6), 2) := by decide +kernel
theorem dX6_fit_58 : decode cX6_fit 58 = .ok (.if_icmp .ne 6, 3) := by decide +kernel
theorem dX6_fit_61 : decode cX6_fit 61 = .ok (.bipush (-6), 2) := by decide +kernel
theorem dX6_fit_63 : decode cX6_fit 63 = .ok (.ireturn, 1) := by decide +kernel
theorem dX6_fit_64 : decode cX6_fit 64 = .ok (.iload 4, 2) := by decide +kernel
theorem dX6_fit_66 : decode cX6_fit 66 = .ok (.lookupswitch 38 #[(0, 26), (1, 32)], 26) := by decide +kernel
theorem dX6_fit_92 : decode cX6_fit 92 = .ok (.iload 6, 2) := by decide +kernel
theorem dX6_fit_94 : decode cX6_fit 94 = .ok (.invokestatic 197, 3) := by decide +kernel
theorem dX6_fit_97 : decode cX6_fit 97 = .ok (.ireturn, 1) := by decide +kernel
theorem dX6_fit_98 : decode cX6_fit 98 = .ok (.iload 6, 2) := by decide +kernel
theorem dX6_fit_100 : decode cX6_fit 100 = .ok (.invokestatic 200, 3) := by decide +kernel
theorem dX6_fit_103 : decode cX6_fit 103 = .ok (.ireturn, 1) := by decide +kernel
theorem dX6_fit_104 : decode cX6_fit 104 = .ok (.iload 6, 2) := by decide +kernel
theorem dX6_fit_106 : decode cX6_fit 106 = .ok (.invokestatic 203, 3) := by decide +kernel
theorem dX6_fit_109 : decode cX6_fit 109 = .ok (.ireturn, 1) := by decide +kernel
theorem dX6_manyOf_0 : decode cX6_manyOf 0 = .ok (.aload_n 0, 1) := by decide +kernel
theorem dX6_manyOf_1 : decode cX6_manyOf 1 = .ok (.getfield 21, 3) := by decide +kernel
theorem dX6_manyOf_4 : decode cX6_manyOf 4 = .ok (.iload_n 1, 1) := by decide +kernel
theorem dX6_manyOf_5 : decode cX6_manyOf 5 = .ok (.invokevirtual 68, 3) := by decide +kernel
theorem dX6_manyOf_8 : decode cX6_manyOf 8 = .ok (.astore 4, 2) := by decide +kernel
theorem dX6_manyOf_10 : decode cX6_manyOf 10 = .ok (.aload 4, 2) := by decide +kernel
theorem dX6_manyOf_12 : decode cX6_manyOf 12 = .ok (.ifnull 10, 3) := by decide +kernel
theorem dX6_manyOf_15 : decode cX6_manyOf 15 = .ok (.iload_n 2, 1) := by decide +kernel
theorem dX6_manyOf_16 : decode cX6_manyOf 16 = .ok (.invokestatic 72, 3) := by decide +kernel
theorem dX6_manyOf_19 : decode cX6_manyOf 19 = .ok (.ifCond .ne 5, 3) := by decide +kernel
theorem dX6_manyOf_22 : decode cX6_manyOf 22 = .ok (.iconst (-1), 1) := by decide +kernel
theorem dX6_manyOf_23 : decode cX6_manyOf 23 = .ok (.ireturn, 1) := by decide +kernel
theorem dX6_manyOf_24 : decode cX6_manyOf 24 = .ok (.iload_n 3, 1) := by decide +kernel
theorem dX6_manyOf_25 : decode cX6_manyOf 25 = .ok (.invokestatic 82, 3) := by decide +kernel
theorem dX6_manyOf_28 : decode cX6_manyOf 28 = .ok (.ifCond .ne 6, 3) := by decide +kernel
theorem dX6_manyOf_31 : decode cX6_manyOf 31 = .ok (.bipush (-2), 2) := by decide +kernel
theorem dX6_manyOf_33 : decode cX6_manyOf 33 = .ok (.ireturn, 1) := by decide +kernel
theorem dX6_manyOf_34 : decode cX6_manyOf 34 = .ok (.aload_n 0, 1) := by decide +kernel
theorem dX6_manyOf_35 : decode cX6_manyOf 35 = .ok (.getfield 31, 3) := by decide +kernel
theorem dX6_manyOf_38 : decode cX6_manyOf 38 = .ok (.aload 4, 2) := by decide +kernel
theorem dX6_manyOf_40 : decode cX6_manyOf 40 = .ok (.invokevirtual 206, 3) := by decide +kernel
theorem dX6_manyOf_43 : decode cX6_manyOf 43 = .ok (.aload_n 0, 1) := by decide +kernel
theorem dX6_manyOf_44 : decode cX6_manyOf 44 = .ok (.getfield 31, 3) := by decide +kernel
theorem dX6_manyOf_47 : decode cX6_manyOf 47 = .ok (.iload_n 2, 1) := by decide +kernel
theorem dX6_manyOf_48 : decode cX6_manyOf 48 = .ok (.iload_n 3, 1) := by decide +kernel
theorem dX6_manyOf_49 : decode cX6_manyOf 49 = .ok (.invokevirtual 210, 3) := by decide +kernel
theorem dX6_manyOf_52 : decode cX6_manyOf 52 = .ok (.ireturn, 1) := by decide +kernel
theorem dX6_fits_0 : decode cX6_fits 0 = .ok (.aload_n 0, 1) := by decide +kernel
theorem dX6_fits_1 : decode cX6_fits 1 = .ok (.getfield 21, 3) := by decide +kernel
theorem dX6_fits_4 : decode cX6_fits 4 = .ok (.iload_n 1, 1) := by decide +kernel
theorem dX6_fits_5 : decode cX6_fits 5 = .ok (.invokevirtual 68, 3) := by decide +kernel
theorem dX6_fits_8 : decode cX6_fits 8 = .ok (.astore_n 3, 1) := by decide +kernel
theorem dX6_fits_9 : decode cX6_fits 9 = .ok (.aload_n 3, 1) := by decide +kernel
theorem dX6_fits_10 : decode cX6_fits 10 = .ok (.ifnull 10, 3) := by decide +kernel
theorem dX6_fits_13 : decode cX6_fits 13 = .ok (.iload_n 2, 1) := by decide +kernel
theorem dX6_fits_14 : decode cX6_fits 14 = .ok (.invokestatic 72, 3) := by decide +kernel
theorem dX6_fits_17 : decode cX6_fits 17 = .ok (.ifCond .ne 5, 3) := by decide +kernel
theorem dX6_fits_20 : decode cX6_fits 20 = .ok (.iconst (-1), 1) := by decide +kernel
theorem dX6_fits_21 : decode cX6_fits 21 = .ok (.ireturn, 1) := by decide +kernel
theorem dX6_fits_22 : decode cX6_fits 22 = .ok (.aload_n 3, 1) := by decide +kernel
theorem dX6_fits_23 : decode cX6_fits 23 = .ok (.iload_n 2, 1) := by decide +kernel
theorem dX6_fits_24 : decode cX6_fits 24 = .ok (.invokevirtual 213, 3) := by decide +kernel
theorem dX6_fits_27 : decode cX6_fits 27 = .ok (.ireturn, 1) := by decide +kernel
theorem dX6_colours_0 : decode cX6_colours 0 = .ok (.iload_n 1, 1) := by decide +kernel
theorem dX6_colours_1 : decode cX6_colours 1 = .ok (.invokestatic 89, 3) := by decide +kernel
theorem dX6_colours_4 : decode cX6_colours 4 = .ok (.ifCond .eq 10, 3) := by decide +kernel
theorem dX6_colours_7 : decode cX6_colours 7 = .ok (.iload_n 2, 1) := by decide +kernel
theorem dX6_colours_8 : decode cX6_colours 8 = .ok (.invokestatic 92, 3) := by decide +kernel
theorem dX6_colours_11 : decode cX6_colours 11 = .ok (.ifCond .ne 5, 3) := by decide +kernel
theorem dX6_colours_14 : decode cX6_colours 14 = .ok (.iconst (-1), 1) := by decide +kernel
theorem dX6_colours_15 : decode cX6_colours 15 = .ok (.ireturn, 1) := by decide +kernel
theorem dX6_colours_16 : decode cX6_colours 16 = .ok (.aload_n 0, 1) := by decide +kernel
theorem dX6_colours_17 : decode cX6_colours 17 = .ok (.getfield 49, 3) := by decide +kernel
theorem dX6_colours_20 : decode cX6_colours 20 = .ok (.invokevirtual 95, 3) := by decide +kernel
theorem dX6_colours_23 : decode cX6_colours 23 = .ok (.bipush (-6), 2) := by decide +kernel
theorem dX6_colours_25 : decode cX6_colours 25 = .ok (.if_icmp .eq 6, 3) := by decide +kernel
theorem dX6_colours_28 : decode cX6_colours 28 = .ok (.bipush (-3), 2) := by decide +kernel
theorem dX6_colours_30 : decode cX6_colours 30 = .ok (.ireturn, 1) := by decide +kernel
theorem dX6_colours_31 : decode cX6_colours 31 = .ok (.iload_n 3, 1) := by decide +kernel
theorem dX6_colours_32 : decode cX6_colours 32 = .ok (.invokestatic 82, 3) := by decide +kernel
theorem dX6_colours_35 : decode cX6_colours 35 = .ok (.ifCond .ne 6, 3) := by decide +kernel
theorem dX6_colours_38 : decode cX6_colours 38 = .ok (.bipush (-2), 2) := by decide +kernel
theorem dX6_colours_40 : decode cX6_colours 40 = .ok (.ireturn, 1) := by decide +kernel
theorem dX6_colours_41 : decode cX6_colours 41 = .ok (.iconst 0, 1) := by decide +kernel
theorem dX6_colours_42 : decode cX6_colours 42 = .ok (.istore 4, 2) := by decide +kernel
theorem dX6_colours_44 : decode cX6_colours 44 = .ok (.iconst 1, 1) := by decide +kernel
theorem dX6_colours_45 : decode cX6_colours 45 = .ok (.istore 5, 2) := by decide +kernel
theorem dX6_colours_47 : decode cX6_colours 47 = .ok (.iload 5, 2) := by decide +kernel
theorem dX6_colours_49 : decode cX6_colours 49 = .ok (.iconst 4, 1) := by decide +kernel
theorem dX6_colours_50 : decode cX6_colours 50 = .ok (.if_icmp .gt 37, 3) := by decide +kernel
theorem dX6_colours_53 : decode cX6_colours 53 = .ok (.aload_n 0, 1) := by decide +kernel
theorem dX6_colours_54 : decode cX6_colours 54 = .ok (.invokevirtual 57, 3) := by decide +kernel
theorem dX6_colours_57 : decode cX6_colours 57 = .ok (.aload_n 0, 1) := by decide +kernel
theorem dX6_colours_58 : decode cX6_colours 58 = .ok (.getfield 49, 3) := by decide +kernel
theorem dX6_colours_61 : decode cX6_colours 61 = .ok (.iload_n 1, 1) := by decide +kernel
theorem dX6_colours_62 : decode cX6_colours 62 = .ok (.iload_n 2, 1) := by decide +kernel
theorem dX6_colours_63 : decode cX6_colours 63 = .ok (.iload 5, 2) := by decide +kernel
theorem dX6_colours_65 : decode cX6_colours 65 = .ok (.iload_n 3, 1) := by decide +kernel
theorem dX6_colours_66 : decode cX6_colours 66 = .ok (.invokevirtual 99, 3) := by decide +kernel
theorem dX6_colours_69 : decode cX6_colours 69 = .ok (.ifCond .lt 12, 3) := by decide +kernel
theorem dX6_colours_72 : decode cX6_colours 72 = .ok (.iload 4, 2) := by decide +kernel
theorem dX6_colours_74 : decode cX6_colours 74 = .ok (.iconst 1, 1) := by decide +kernel
theorem dX6_colours_75 : decode cX6_colours 75 = .ok (.iload 5, 2) := by decide +kernel
theorem dX6_colours_77 : decode cX6_colours 77 = .ok (.ishl, 1) := by decide +kernel
theorem dX6_colours_78 : decode cX6_colours 78 = .ok (.ior, 1) := by decide +kernel
theorem dX6_colours_79 : decode cX6_colours 79 = .ok (.istore 4, 2) := by decide +kernel
theorem dX6_colours_81 : decode cX6_colours 81 = .ok (.iinc 5 1, 3) := by decide +kernel
theorem dX6_colours_84 : decode cX6_colours 84 = .ok (.goto (-37), 3) := by decide +kernel
theorem dX6_colours_87 : decode cX6_colours 87 = .ok (.iload 4, 2) := by decide +kernel
theorem dX6_colours_89 : decode cX6_colours 89 = .ok (.ireturn, 1) := by decide +kernel
theorem dX6_put_0 : decode cX6_put 0 = .ok (.aload_n 0, 1) := by decide +kernel
theorem dX6_put_1 : decode cX6_put 1 = .ok (.getfield 49, 3) := by decide +kernel
theorem dX6_put_4 : decode cX6_put 4 = .ok (.lload_n 1, 1) := by decide +kernel
theorem dX6_put_5 : decode cX6_put 5 = .ok (.invokevirtual 216, 3) := by decide +kernel
theorem dX6_put_8 : decode cX6_put 8 = .ok (.ireturn, 1) := by decide +kernel
theorem dX6_wipe_0 : decode cX6_wipe 0 = .ok (.aload_n 0, 1) := by decide +kernel
theorem dX6_wipe_1 : decode cX6_wipe 1 = .ok (.getfield 49, 3) := by decide +kernel
theorem dX6_wipe_4 : decode cX6_wipe 4 = .ok (.getfield 189, 3) := by decide +kernel
theorem dX6_wipe_7 : decode cX6_wipe 7 = .ok (.istore_n 1, 1) := by decide +kernel
theorem dX6_wipe_8 : decode cX6_wipe 8 = .ok (.aload_n 0, 1) := by decide +kernel
theorem dX6_wipe_9 : decode cX6_wipe 9 = .ok (.getfield 49, 3) := by decide +kernel
theorem dX6_wipe_12 : decode cX6_wipe 12 = .ok (.invokevirtual 103, 3) := by decide +kernel
theorem dX6_wipe_15 : decode cX6_wipe 15 = .ok (.iload_n 1, 1) := by decide +kernel
theorem dX6_wipe_16 : decode cX6_wipe 16 = .ok (.ireturn, 1) := by decide +kernel
theorem dX6_fault_0 : decode cX6_fault 0 = .ok (.aload_n 0, 1) := by decide +kernel
theorem dX6_fault_1 : decode cX6_fault 1 = .ok (.getfield 49, 3) := by decide +kernel
theorem dX6_fault_4 : decode cX6_fault 4 = .ok (.invokevirtual 95, 3) := by decide +kernel
theorem dX6_fault_7 : decode cX6_fault 7 = .ok (.ireturn, 1) := by decide +kernel
theorem dX6_undo_0 : decode cX6_undo 0 = .ok (.aload_n 0, 1) := by decide +kernel
theorem dX6_undo_1 : decode cX6_undo 1 = .ok (.getfield 42, 3) := by decide +kernel
theorem dX6_undo_4 : decode cX6_undo 4 = .ok (.aload_n 0, 1) := by decide +kernel
theorem dX6_undo_5 : decode cX6_undo 5 = .ok (.getfield 21, 3) := by decide +kernel
theorem dX6_undo_8 : decode cX6_undo 8 = .ok (.invokevirtual 220, 3) := by decide +kernel
theorem dX6_undo_11 : decode cX6_undo 11 = .ok (.ifCond .eq 13, 3) := by decide +kernel
theorem dX6_undo_14 : decode cX6_undo 14 = .ok (.aload_n 0, 1) := by decide +kernel
theorem dX6_undo_15 : decode cX6_undo 15 = .ok (.getfield 42, 3) := by decide +kernel
theorem dX6_undo_18 : decode cX6_undo 18 = .ok (.getfield 192, 3) := by decide +kernel
theorem dX6_undo_21 : decode cX6_undo 21 = .ok (.goto 5, 3) := by decide +kernel
theorem dX6_undo_24 : decode cX6_undo 24 = .ok (.bipush (-5), 2) := by decide +kernel
theorem dX6_undo_26 : decode cX6_undo 26 = .ok (.ireturn, 1) := by decide +kernel
theorem dX6_save_0 : decode cX6_save 0 = .ok (.iload_n 1, 1) := by decide +kernel
theorem dX6_save_1 : decode cX6_save 1 = .ok (.invokestatic 224, 3) := by decide +kernel
theorem dX6_save_4 : decode cX6_save 4 = .ok (.ifCond .ne 6, 3) := by decide +kernel
theorem dX6_save_7 : decode cX6_save 7 = .ok (.bipush (-2), 2) := by decide +kernel
theorem dX6_save_9 : decode cX6_save 9 = .ok (.ireturn, 1) := by decide +kernel
theorem dX6_save_10 : decode cX6_save 10 = .ok (.aload_n 0, 1) := by decide +kernel
theorem dX6_save_11 : decode cX6_save 11 = .ok (.getfield 35, 3) := by decide +kernel
theorem dX6_save_14 : decode cX6_save 14 = .ok (.iload_n 1, 1) := by decide +kernel
theorem dX6_save_15 : decode cX6_save 15 = .ok (.aaload, 1) := by decide +kernel
theorem dX6_save_16 : decode cX6_save 16 = .ok (.astore_n 2, 1) := by decide +kernel
theorem dX6_save_17 : decode cX6_save 17 = .ok (.aload_n 2, 1) := by decide +kernel
theorem dX6_save_18 : decode cX6_save 18 = .ok (.ifnonnull 22, 3) := by decide +kernel
theorem dX6_save_21 : decode cX6_save 21 = .ok (.new 16, 3) := by decide +kernel
theorem dX6_save_24 : decode cX6_save 24 = .ok (.dup, 1) := by decide +kernel
theorem dX6_save_25 : decode cX6_save 25 = .ok (.aload_n 0, 1) := by decide +kernel
theorem dX6_save_26 : decode cX6_save 26 = .ok (.getfield 10, 3) := by decide +kernel
theorem dX6_save_29 : decode cX6_save 29 = .ok (.invokespecial 18, 3) := by decide +kernel
theorem dX6_save_32 : decode cX6_save 32 = .ok (.astore_n 2, 1) := by decide +kernel
theorem dX6_save_33 : decode cX6_save 33 = .ok (.aload_n 0, 1) := by decide +kernel
theorem dX6_save_34 : decode cX6_save 34 = .ok (.getfield 35, 3) := by decide +kernel
theorem dX6_save_37 : decode cX6_save 37 = .ok (.iload_n 1, 1) := by decide +kernel
theorem dX6_save_38 : decode cX6_save 38 = .ok (.aload_n 2, 1) := by decide +kernel
theorem dX6_save_39 : decode cX6_save 39 = .ok (.aastore, 1) := by decide +kernel
theorem dX6_save_40 : decode cX6_save 40 = .ok (.aload_n 2, 1) := by decide +kernel
theorem dX6_save_41 : decode cX6_save 41 = .ok (.aload_n 0, 1) := by decide +kernel
theorem dX6_save_42 : decode cX6_save 42 = .ok (.getfield 21, 3) := by decide +kernel
theorem dX6_save_45 : decode cX6_save 45 = .ok (.invokevirtual 227, 3) := by decide +kernel
theorem dX6_save_48 : decode cX6_save 48 = .ok (.aload_n 0, 1) := by decide +kernel
theorem dX6_save_49 : decode cX6_save 49 = .ok (.getfield 21, 3) := by decide +kernel
theorem dX6_save_52 : decode cX6_save 52 = .ok (.getfield 176, 3) := by decide +kernel
theorem dX6_save_55 : decode cX6_save 55 = .ok (.ireturn, 1) := by decide +kernel
theorem dX6_restore_0 : decode cX6_restore 0 = .ok (.iload_n 1, 1) := by decide +kernel
theorem dX6_restore_1 : decode cX6_restore 1 = .ok (.invokestatic 224, 3) := by decide +kernel
theorem dX6_restore_4 : decode cX6_restore 4 = .ok (.ifCond .ne 6, 3) := by decide +kernel
theorem dX6_restore_7 : decode cX6_restore 7 = .ok (.bipush (-2), 2) := by decide +kernel
theorem dX6_restore_9 : decode cX6_restore 9 = .ok (.ireturn, 1) := by decide +kernel
theorem dX6_restore_10 : decode cX6_restore 10 = .ok (.aload_n 0, 1) := by decide +kernel
theorem dX6_restore_11 : decode cX6_restore 11 = .ok (.getfield 35, 3) := by decide +kernel
theorem dX6_restore_14 : decode cX6_restore 14 = .ok (.iload_n 1, 1) := by decide +kernel
theorem dX6_restore_15 : decode cX6_restore 15 = .ok (.aaload, 1) := by decide +kernel
theorem dX6_restore_16 : decode cX6_restore 16 = .ok (.astore_n 2, 1) := by decide +kernel
theorem dX6_restore_17 : decode cX6_restore 17 = .ok (.aload_n 2, 1) := by decide +kernel
theorem dX6_restore_18 : decode cX6_restore 18 = .ok (.ifnonnull 6, 3) := by decide +kernel
theorem dX6_restore_21 : decode cX6_restore 21 = .ok (.bipush (-5), 2) := by decide +kernel
theorem dX6_restore_23 : decode cX6_restore 23 = .ok (.ireturn, 1) := by decide +kernel
theorem dX6_restore_24 : decode cX6_restore 24 = .ok (.aload_n 0, 1) := by decide +kernel
theorem dX6_restore_25 : decode cX6_restore 25 = .ok (.getfield 25, 3) := by decide +kernel
theorem dX6_restore_28 : decode cX6_restore 28 = .ok (.aload_n 2, 1) := by decide +kernel
theorem dX6_restore_29 : decode cX6_restore 29 = .ok (.invokevirtual 227, 3) := by decide +kernel
theorem dX6_restore_32 : decode cX6_restore 32 = .ok (.aload_n 0, 1) := by decide +kernel
theorem dX6_restore_33 : decode cX6_restore 33 = .ok (.aload_n 0, 1) := by decide +kernel
theorem dX6_restore_34 : decode cX6_restore 34 = .ok (.getfield 25, 3) := by decide +kernel
theorem dX6_restore_37 : decode cX6_restore 37 = .ok (.getfield 176, 3) := by decide +kernel
theorem dX6_restore_40 : decode cX6_restore 40 = .ok (.invokevirtual 65, 3) := by decide +kernel
theorem dX6_restore_43 : decode cX6_restore 43 = .ok (.ireturn, 1) := by decide +kernel
theorem dX6_newDraft_0 : decode cX6_newDraft 0 = .ok (.aload_n 0, 1) := by decide +kernel
theorem dX6_newDraft_1 : decode cX6_newDraft 1 = .ok (.getfield 25, 3) := by decide +kernel
theorem dX6_newDraft_4 : decode cX6_newDraft 4 = .ok (.aload_n 0, 1) := by decide +kernel
theorem dX6_newDraft_5 : decode cX6_newDraft 5 = .ok (.getfield 21, 3) := by decide +kernel
theorem dX6_newDraft_8 : decode cX6_newDraft 8 = .ok (.invokevirtual 227, 3) := by decide +kernel
theorem dX6_newDraft_11 : decode cX6_newDraft 11 = .ok (.aload_n 0, 1) := by decide +kernel
theorem dX6_newDraft_12 : decode cX6_newDraft 12 = .ok (.getfield 25, 3) := by decide +kernel
theorem dX6_newDraft_15 : decode cX6_newDraft 15 = .ok (.areturn, 1) := by decide +kernel
theorem dX6_settle_0 : decode cX6_settle 0 = .ok (.iload_n 1, 1) := by decide +kernel
theorem dX6_settle_1 : decode cX6_settle 1 = .ok (.ifCond .lt 25, 3) := by decide +kernel
theorem dX6_settle_4 : decode cX6_settle 4 = .ok (.aload_n 0, 1) := by decide +kernel
theorem dX6_settle_5 : decode cX6_settle 5 = .ok (.getfield 42, 3) := by decide +kernel
theorem dX6_settle_8 : decode cX6_settle 8 = .ok (.aload_n 0, 1) := by decide +kernel
theorem dX6_settle_9 : decode cX6_settle 9 = .ok (.getfield 21, 3) := by decide +kernel
theorem dX6_settle_12 : decode cX6_settle 12 = .ok (.invokevirtual 230, 3) := by decide +kernel
theorem dX6_settle_15 : decode cX6_settle 15 = .ok (.aload_n 0, 1) := by decide +kernel
theorem dX6_settle_16 : decode cX6_settle 16 = .ok (.getfield 21, 3) := by decide +kernel
theorem dX6_settle_19 : decode cX6_settle 19 = .ok (.aload_n 0, 1) := by decide +kernel
theorem dX6_settle_20 : decode cX6_settle 20 = .ok (.getfield 25, 3) := by decide +kernel
theorem dX6_settle_23 : decode cX6_settle 23 = .ok (.invokevirtual 227, 3) := by decide +kernel
theorem dX6_settle_26 : decode cX6_settle 26 = .ok (.iload_n 1, 1) := by decide +kernel
theorem dX6_settle_27 : decode cX6_settle 27 = .ok (.ireturn, 1) := by decide +kernel
theorem dX6_isColour_0 : decode cX6_isColour 0 = .ok (.iload_n 0, 1) := by decide +kernel
theorem dX6_isColour_1 : decode cX6_isColour 1 = .ok (.iconst 1, 1) := by decide +kernel
theorem dX6_isColour_2 : decode cX6_isColour 2 = .ok (.if_icmp .lt 12, 3) := by decide +kernel
theorem dX6_isColour_5 : decode cX6_isColour 5 = .ok (.iload_n 0, 1) := by decide +kernel
theorem dX6_isColour_6 : decode cX6_isColour 6 = .ok (.iconst 4, 1) := by decide +kernel
theorem dX6_isColour_7 : decode cX6_isColour 7 = .ok (.if_icmp .gt 7, 3) := by decide +kernel
theorem dX6_isColour_10 : decode cX6_isColour 10 = .ok (.iconst 1, 1) := by decide +kernel
theorem dX6_isColour_11 : decode cX6_isColour 11 = .ok (.goto 4, 3) := by decide +kernel
theorem dX6_isColour_14 : decode cX6_isColour 14 = .ok (.iconst 0, 1) := by decide +kernel
theorem dX6_isColour_15 : decode cX6_isColour 15 = .ok (.ireturn, 1) := by decide +kernel
theorem dX6_isLetter_0 : decode cX6_isLetter 0 = .ok (.iload_n 0, 1) := by decide +kernel
theorem dX6_isLetter_1 : decode cX6_isLetter 1 = .ok (.ifCond .lt 13, 3) := by decide +kernel
theorem dX6_isLetter_4 : decode cX6_isLetter 4 = .ok (.iload_n 0, 1) := by decide +kernel
theorem dX6_isLetter_5 : decode cX6_isLetter 5 = .ok (.bipush 8, 2) := by decide +kernel
theorem dX6_isLetter_7 : decode cX6_isLetter 7 = .ok (.if_icmp .ge 7, 3) := by decide +kernel
theorem dX6_isLetter_10 : decode cX6_isLetter 10 = .ok (.iconst 1, 1) := by decide +kernel
theorem dX6_isLetter_11 : decode cX6_isLetter 11 = .ok (.goto 4, 3) := by decide +kernel
theorem dX6_isLetter_14 : decode cX6_isLetter 14 = .ok (.iconst 0, 1) := by decide +kernel
theorem dX6_isLetter_15 : decode cX6_isLetter 15 = .ok (.ireturn, 1) := by decide +kernel
theorem dX6_isWay_0 : decode cX6_isWay 0 = .ok (.iload_n 0, 1) := by decide +kernel
theorem dX6_isWay_1 : decode cX6_isWay 1 = .ok (.ifCond .lt 13, 3) := by decide +kernel
theorem dX6_isWay_4 : decode cX6_isWay 4 = .ok (.iload_n 0, 1) := by decide +kernel
theorem dX6_isWay_5 : decode cX6_isWay 5 = .ok (.bipush 8, 2) := by decide +kernel
theorem dX6_isWay_7 : decode cX6_isWay 7 = .ok (.if_icmp .ge 7, 3) := by decide +kernel
theorem dX6_isWay_10 : decode cX6_isWay 10 = .ok (.iconst 1, 1) := by decide +kernel
theorem dX6_isWay_11 : decode cX6_isWay 11 = .ok (.goto 4, 3) := by decide +kernel
theorem dX6_isWay_14 : decode cX6_isWay 14 = .ok (.iconst 0, 1) := by decide +kernel
theorem dX6_isWay_15 : decode cX6_isWay 15 = .ok (.ireturn, 1) := by decide +kernel
theorem dX6_isMirroring_0 : decode cX6_isMirroring 0 = .ok (.iload_n 0, 1) := by decide +kernel
theorem dX6_isMirroring_1 : decode cX6_isMirroring 1 = .ok (.ifCond .eq 8, 3) := by decide +kernel
theorem dX6_isMirroring_4 : decode cX6_isMirroring 4 = .ok (.iload_n 0, 1) := by decide +kernel
theorem dX6_isMirroring_5 : decode cX6_isMirroring 5 = .ok (.iconst 1, 1) := by decide +kernel
theorem dX6_isMirroring_6 : decode cX6_isMirroring 6 = .ok (.if_icmp .ne 7, 3) := by decide +kernel
theorem dX6_isMirroring_9 : decode cX6_isMirroring 9 = .ok (.iconst 1, 1) := by decide +kernel
theorem dX6_isMirroring_10 : decode cX6_isMirroring 10 = .ok (.goto 4, 3) := by decide +kernel
theorem dX6_isMirroring_13 : decode cX6_isMirroring 13 = .ok (.iconst 0, 1) := by decide +kernel
theorem dX6_isMirroring_14 : decode cX6_isMirroring 14 = .ok (.ireturn, 1) := by decide +kernel
theorem dX6_isPane_0 : decode cX6_isPane 0 = .ok (.iload_n 0, 1) := by decide +kernel
theorem dX6_isPane_1 : decode cX6_isPane 1 = .ok (.ifCond .lt 12, 3) := by decide +kernel
theorem dX6_isPane_4 : decode cX6_isPane 4 = .ok (.iload_n 0, 1) := by decide +kernel
theorem dX6_isPane_5 : decode cX6_isPane 5 = .ok (.iconst 3, 1) := by decide +kernel
theorem dX6_isPane_6 : decode cX6_isPane 6 = .ok (.if_icmp .ge 7, 3) := by decide +kernel
theorem dX6_isPane_9 : decode cX6_isPane 9 = .ok (.iconst 1, 1) := by decide +kernel
theorem dX6_isPane_10 : decode cX6_isPane 10 = .ok (.goto 4, 3) := by decide +kernel
theorem dX6_isPane_13 : decode cX6_isPane 13 = .ok (.iconst 0, 1) := by decide +kernel
theorem dX6_isPane_14 : decode cX6_isPane 14 = .ok (.ireturn, 1) := by decide +kernel
theorem dX6_isPlace_0 : decode cX6_isPlace 0 = .ok (.iload_n 0, 1) := by decide +kernel
theorem dX6_isPlace_1 : decode cX6_isPlace 1 = .ok (.ifCond .lt 13, 3) := by decide +kernel
theorem dX6_isPlace_4 : decode cX6_isPlace 4 = .ok (.iload_n 0, 1) := by decide +kernel
theorem dX6_isPlace_5 : decode cX6_isPlace 5 = .ok (.bipush 12, 2) := by decide +kernel
theorem dX6_isPlace_7 : decode cX6_isPlace 7 = .ok (.if_icmp .ge 7, 3) := by decide +kernel
theorem dX6_isPlace_10 : decode cX6_isPlace 10 = .ok (.iconst 1, 1) := by decide +kernel
theorem dX6_isPlace_11 : decode cX6_isPlace 11 = .ok (.goto 4, 3) := by decide +kernel
theorem dX6_isPlace_14 : decode cX6_isPlace 14 = .ok (.iconst 0, 1) := by decide +kernel
theorem dX6_isPlace_15 : decode cX6_isPlace 15 = .ok (.ireturn, 1) := by decide +kernel
theorem dX6_isSlot_0 : decode cX6_isSlot 0 = .ok (.iload_n 0, 1) := by decide +kernel
theorem dX6_isSlot_1 : decode cX6_isSlot 1 = .ok (.ifCond .lt 12, 3) := by decide +kernel
theorem dX6_isSlot_4 : decode cX6_isSlot 4 = .ok (.iload_n 0, 1) := by decide +kernel
theorem dX6_isSlot_5 : decode cX6_isSlot 5 = .ok (.iconst 2, 1) := by decide +kernel
theorem dX6_isSlot_6 : decode cX6_isSlot 6 = .ok (.if_icmp .ge 7, 3) := by decide +kernel
theorem dX6_isSlot_9 : decode cX6_isSlot 9 = .ok (.iconst 1, 1) := by decide +kernel
theorem dX6_isSlot_10 : decode cX6_isSlot 10 = .ok (.goto 4, 3) := by decide +kernel
theorem dX6_isSlot_13 : decode cX6_isSlot 13 = .ok (.iconst 0, 1) := by decide +kernel
theorem dX6_isSlot_14 : decode cX6_isSlot 14 = .ok (.ireturn, 1) := by decide +kernel
theorem dX6_heightOf_0 : decode cX6_heightOf 0 = .ok (.iload_n 0, 1) := by decide +kernel
theorem dX6_heightOf_1 : decode cX6_heightOf 1 = .ok (.iconst 2, 1) := by decide +kernel
theorem dX6_heightOf_2 : decode cX6_heightOf 2 = .ok (.irem, 1) := by decide +kernel
theorem dX6_heightOf_3 : decode cX6_heightOf 3 = .ok (.ifCond .ne 7, 3) := by decide +kernel
theorem dX6_heightOf_6 : decode cX6_heightOf 6 = .ok (.iconst 5, 1) := by decide +kernel
theorem dX6_heightOf_7 : decode cX6_heightOf 7 = .ok (.goto 4, 3) := by decide +kernel
theorem dX6_heightOf_10 : decode cX6_heightOf 10 = .ok (.iconst 3, 1) := by decide +kernel
theorem dX6_heightOf_11 : decode cX6_heightOf 11 = .ok (.ireturn, 1) := by decide +kernel
theorem dX6_widthOf_0 : decode cX6_widthOf 0 = .ok (.iload_n 0, 1) := by decide +kernel
theorem dX6_widthOf_1 : decode cX6_widthOf 1 = .ok (.iconst 2, 1) := by decide +kernel
theorem dX6_widthOf_2 : decode cX6_widthOf 2 = .ok (.irem, 1) := by decide +kernel
theorem dX6_widthOf_3 : decode cX6_widthOf 3 = .ok (.ifCond .ne 7, 3) := by decide +kernel
theorem dX6_widthOf_6 : decode cX6_widthOf 6 = .ok (.iconst 3, 1) := by decide +kernel
theorem dX6_widthOf_7 : decode cX6_widthOf 7 = .ok (.goto 4, 3) := by decide +kernel
theorem dX6_widthOf_10 : decode cX6_widthOf 10 = .ok (.iconst 5, 1) := by decide +kernel
theorem dX6_widthOf_11 : decode cX6_widthOf 11 = .ok (.ireturn, 1) := by decide +kernel
theorem dX6_mirroringOf_0 : decode cX6_mirroringOf 0 = .ok (.iload_n 0, 1) := by decide +kernel
theorem dX6_mirroringOf_1 : decode cX6_mirroringOf 1 = .ok (.iconst 4, 1) := by decide +kernel
theorem dX6_mirroringOf_2 : decode cX6_mirroringOf 2 = .ok (.if_icmp .ge 7, 3) := by decide +kernel
theorem dX6_mirroringOf_5 : decode cX6_mirroringOf 5 = .ok (.iconst 0, 1) := by decide +kernel
theorem dX6_mirroringOf_6 : decode cX6_mirroringOf 6 = .ok (.goto 4, 3) := by decide +kernel
theorem dX6_mirroringOf_9 : decode cX6_mirroringOf 9 = .ok (.iconst 1, 1) := by decide +kernel
theorem dX6_mirroringOf_10 : decode cX6_mirroringOf 10 = .ok (.ireturn, 1) := by decide +kernel
theorem dX6_rowIn_0 : decode cX6_rowIn 0 = .ok (.iload_n 0, 1) := by decide +kernel
theorem dX6_rowIn_1 : decode cX6_rowIn 1 = .ok (.bipush 8, 2) := by decide +kernel
theorem dX6_rowIn_3 : decode cX6_rowIn 3 = .ok (.idiv, 1) := by decide +kernel
theorem dX6_rowIn_4 : decode cX6_rowIn 4 = .ok (.bipush 14, 2) := by decide +kernel
theorem dX6_rowIn_6 : decode cX6_rowIn 6 = .ok (.idiv, 1) := by decide +kernel
theorem dX6_rowIn_7 : decode cX6_rowIn 7 = .ok (.ireturn, 1) := by decide +kernel
theorem dX6_columnIn_0 : decode cX6_columnIn 0 = .ok (.iload_n 0, 1) := by decide +kernel
theorem dX6_columnIn_1 : decode cX6_columnIn 1 = .ok (.bipush 8, 2) := by decide +kernel
theorem dX6_columnIn_3 : decode cX6_columnIn 3 = .ok (.idiv, 1) := by decide +kernel
theorem dX6_columnIn_4 : decode cX6_columnIn 4 = .ok (.bipush 14, 2) := by decide +kernel
theorem dX6_columnIn_6 : decode cX6_columnIn 6 = .ok (.irem, 1) := by decide +kernel
theorem dX6_columnIn_7 : decode cX6_columnIn 7 = .ok (.ireturn, 1) := by decide +kernel
theorem dX6_wayIn_0 : decode cX6_wayIn 0 = .ok (.iload_n 0, 1) := by decide +kernel
theorem dX6_wayIn_1 : decode cX6_wayIn 1 = .ok (.bipush 8, 2) := by decide +kernel
theorem dX6_wayIn_3 : decode cX6_wayIn 3 = .ok (.irem, 1) := by decide +kernel
theorem dX6_wayIn_4 : decode cX6_wayIn 4 = .ok (.ireturn, 1) := by decide +kernel
theorem dX6_lowestIn_0 : decode cX6_lowestIn 0 = .ok (.iload_n 0, 1) := by decide +kernel
theorem dX6_lowestIn_1 : decode cX6_lowestIn 1 = .ok (.iconst (-1), 1) := by decide +kernel
theorem dX6_lowestIn_2 : decode cX6_lowestIn 2 = .ok (.ixor, 1) := by decide +kernel
theorem dX6_lowestIn_3 : decode cX6_lowestIn 3 = .ok (.iload_n 0, 1) := by decide +kernel
theorem dX6_lowestIn_4 : decode cX6_lowestIn 4 = .ok (.iconst 1, 1) := by decide +kernel
theorem dX6_lowestIn_5 : decode cX6_lowestIn 5 = .ok (.isub, 1) := by decide +kernel
theorem dX6_lowestIn_6 : decode cX6_lowestIn 6 = .ok (.iand, 1) := by decide +kernel
theorem dX6_lowestIn_7 : decode cX6_lowestIn 7 = .ok (.invokestatic 233, 3) := by decide +kernel
theorem dX6_lowestIn_10 : decode cX6_lowestIn 10 = .ok (.ireturn, 1) := by decide +kernel
theorem dJ11_isValidCodePoint_9a6ad_0 : decode cJ11_isValidCodePoint_9a6ad 0 = .ok (.iload_n 0, 1) := by decide +kernel
theorem dJ11_isValidCodePoint_9a6ad_1 : decode cJ11_isValidCodePoint_9a6ad 1 = .ok (.bipush 16, 2) := by decide +kernel
theorem dJ11_isValidCodePoint_9a6ad_3 : decode cJ11_isValidCodePoint_9a6ad 3 = .ok (.iushr, 1) := by decide +kernel
theorem dJ11_isValidCodePoint_9a6ad_4 : decode cJ11_isValidCodePoint_9a6ad 4 = .ok (.istore_n 1, 1) := by decide +kernel
theorem dJ11_isValidCodePoint_9a6ad_5 : decode cJ11_isValidCodePoint_9a6ad 5 = .ok (.iload_n 1, 1) := by decide +kernel
theorem dJ11_isValidCodePoint_9a6ad_6 : decode cJ11_isValidCodePoint_9a6ad 6 = .ok (.bipush 17, 2) := by decide +kernel
theorem dJ11_isValidCodePoint_9a6ad_8 : decode cJ11_isValidCodePoint_9a6ad 8 = .ok (.if_icmp .ge 7, 3) := by decide +kernel
theorem dJ11_isValidCodePoint_9a6ad_11 : decode cJ11_isValidCodePoint_9a6ad 11 = .ok (.iconst 1, 1) := by decide +kernel
theorem dJ11_isValidCodePoint_9a6ad_12 : decode cJ11_isValidCodePoint_9a6ad 12 = .ok (.goto 4, 3) := by decide +kernel
theorem dJ11_isValidCodePoint_9a6ad_15 : decode cJ11_isValidCodePoint_9a6ad 15 = .ok (.iconst 0, 1) := by decide +kernel
theorem dJ11_isValidCodePoint_9a6ad_16 : decode cJ11_isValidCodePoint_9a6ad 16 = .ok (.ireturn, 1) := by decide +kernel
theorem dJ11_highSurrogate_5068e_0 : decode cJ11_highSurrogate_5068e 0 = .ok (.iload_n 0, 1) := by decide +kernel
theorem dJ11_highSurrogate_5068e_1 : decode cJ11_highSurrogate_5068e 1 = .ok (.bipush 10, 2) := by decide +kernel
theorem dJ11_highSurrogate_5068e_3 : decode cJ11_highSurrogate_5068e 3 = .ok (.iushr, 1) := by decide +kernel
theorem dJ11_highSurrogate_5068e_4 : decode cJ11_highSurrogate_5068e 4 = .ok (.ldc 110, 2) := by decide +kernel
theorem dJ11_highSurrogate_5068e_6 : decode cJ11_highSurrogate_5068e 6 = .ok (.iadd, 1) := by decide +kernel
theorem dJ11_highSurrogate_5068e_7 : decode cJ11_highSurrogate_5068e 7 = .ok (.i2c, 1) := by decide +kernel
theorem dJ11_highSurrogate_5068e_8 : decode cJ11_highSurrogate_5068e 8 = .ok (.ireturn, 1) := by decide +kernel
theorem dJ11_lowSurrogate_5068e_0 : decode cJ11_lowSurrogate_5068e 0 = .ok (.iload_n 0, 1) := by decide +kernel
theorem dJ11_lowSurrogate_5068e_1 : decode cJ11_lowSurrogate_5068e 1 = .ok (.sipush 1023, 3) := by decide +kernel
theorem dJ11_lowSurrogate_5068e_4 : decode cJ11_lowSurrogate_5068e 4 = .ok (.iand, 1) := by decide +kernel
theorem dJ11_lowSurrogate_5068e_5 : decode cJ11_lowSurrogate_5068e 5 = .ok (.ldc 76, 2) := by decide +kernel
theorem dJ11_lowSurrogate_5068e_7 : decode cJ11_lowSurrogate_5068e 7 = .ok (.iadd, 1) := by decide +kernel
theorem dJ11_lowSurrogate_5068e_8 : decode cJ11_lowSurrogate_5068e 8 = .ok (.i2c, 1) := by decide +kernel
theorem dJ11_lowSurrogate_5068e_9 : decode cJ11_lowSurrogate_5068e 9 = .ok (.ireturn, 1) := by decide +kernel
theorem dJ6_bitCount_0f7a4_0 : decode cJ6_bitCount_0f7a4 0 = .ok (.iload_n 0, 1) := by decide +kernel
theorem dJ6_bitCount_0f7a4_1 : decode cJ6_bitCount_0f7a4 1 = .ok (.iload_n 0, 1) := by decide +kernel
theorem dJ6_bitCount_0f7a4_2 : decode cJ6_bitCount_0f7a4 2 = .ok (.iconst 1, 1) := by decide +kernel
theorem dJ6_bitCount_0f7a4_3 : decode cJ6_bitCount_0f7a4 3 = .ok (.iushr, 1) := by decide +kernel
theorem dJ6_bitCount_0f7a4_4 : decode cJ6_bitCount_0f7a4 4 = .ok (.ldc_w 265, 3) := by decide +kernel
theorem dJ6_bitCount_0f7a4_7 : decode cJ6_bitCount_0f7a4 7 = .ok (.iand, 1) := by decide +kernel
theorem dJ6_bitCount_0f7a4_8 : decode cJ6_bitCount_0f7a4 8 = .ok (.isub, 1) := by decide +kernel
theorem dJ6_bitCount_0f7a4_9 : decode cJ6_bitCount_0f7a4 9 = .ok (.istore_n 0, 1) := by decide +kernel
theorem dJ6_bitCount_0f7a4_10 : decode cJ6_bitCount_0f7a4 10 = .ok (.iload_n 0, 1) := by decide +kernel
theorem dJ6_bitCount_0f7a4_11 : decode cJ6_bitCount_0f7a4 11 = .ok (.ldc_w 266, 3) := by decide +kernel
theorem dJ6_bitCount_0f7a4_14 : decode cJ6_bitCount_0f7a4 14 = .ok (.iand, 1) := by decide +kernel
theorem dJ6_bitCount_0f7a4_15 : decode cJ6_bitCount_0f7a4 15 = .ok (.iload_n 0, 1) := by decide +kernel
theorem dJ6_bitCount_0f7a4_16 : decode cJ6_bitCount_0f7a4 16 = .ok (.iconst 2, 1) := by decide +kernel
theorem dJ6_bitCount_0f7a4_17 : decode cJ6_bitCount_0f7a4 17 = .ok (.iushr, 1) := by decide +kernel
theorem dJ6_bitCount_0f7a4_18 : decode cJ6_bitCount_0f7a4 18 = .ok (.ldc_w 266, 3) := by decide +kernel
theorem dJ6_bitCount_0f7a4_21 : decode cJ6_bitCount_0f7a4 21 = .ok (.iand, 1) := by decide +kernel
theorem dJ6_bitCount_0f7a4_22 : decode cJ6_bitCount_0f7a4 22 = .ok (.iadd, 1) := by decide +kernel
theorem dJ6_bitCount_0f7a4_23 : decode cJ6_bitCount_0f7a4 23 = .ok (.istore_n 0, 1) := by decide +kernel
theorem dJ6_bitCount_0f7a4_24 : decode cJ6_bitCount_0f7a4 24 = .ok (.iload_n 0, 1) := by decide +kernel
theorem dJ6_bitCount_0f7a4_25 : decode cJ6_bitCount_0f7a4 25 = .ok (.iload_n 0, 1) := by decide +kernel
theorem dJ6_bitCount_0f7a4_26 : decode cJ6_bitCount_0f7a4 26 = .ok (.iconst 4, 1) := by decide +kernel
theorem dJ6_bitCount_0f7a4_27 : decode cJ6_bitCount_0f7a4 27 = .ok (.iushr, 1) := by decide +kernel
theorem dJ6_bitCount_0f7a4_28 : decode cJ6_bitCount_0f7a4 28 = .ok (.iadd, 1) := by decide +kernel
theorem dJ6_bitCount_0f7a4_29 : decode cJ6_bitCount_0f7a4 29 = .ok (.ldc_w 267, 3) := by decide +kernel
theorem dJ6_bitCount_0f7a4_32 : decode cJ6_bitCount_0f7a4 32 = .ok (.iand, 1) := by decide +kernel
theorem dJ6_bitCount_0f7a4_33 : decode cJ6_bitCount_0f7a4 33 = .ok (.istore_n 0, 1) := by decide +kernel
theorem dJ6_bitCount_0f7a4_34 : decode cJ6_bitCount_0f7a4 34 = .ok (.iload_n 0, 1) := by decide +kernel
theorem dJ6_bitCount_0f7a4_35 : decode cJ6_bitCount_0f7a4 35 = .ok (.iload_n 0, 1) := by decide +kernel
theorem dJ6_bitCount_0f7a4_36 : decode cJ6_bitCount_0f7a4 36 = .ok (.bipush 8, 2) := by decide +kernel
theorem dJ6_bitCount_0f7a4_38 : decode cJ6_bitCount_0f7a4 38 = .ok (.iushr, 1) := by decide +kernel
theorem dJ6_bitCount_0f7a4_39 : decode cJ6_bitCount_0f7a4 39 = .ok (.iadd, 1) := by decide +kernel
theorem dJ6_bitCount_0f7a4_40 : decode cJ6_bitCount_0f7a4 40 = .ok (.istore_n 0, 1) := by decide +kernel
theorem dJ6_bitCount_0f7a4_41 : decode cJ6_bitCount_0f7a4 41 = .ok (.iload_n 0, 1) := by decide +kernel
theorem dJ6_bitCount_0f7a4_42 : decode cJ6_bitCount_0f7a4 42 = .ok (.iload_n 0, 1) := by decide +kernel
theorem dJ6_bitCount_0f7a4_43 : decode cJ6_bitCount_0f7a4 43 = .ok (.bipush 16, 2) := by decide +kernel
theorem dJ6_bitCount_0f7a4_45 : decode cJ6_bitCount_0f7a4 45 = .ok (.iushr, 1) := by decide +kernel
theorem dJ6_bitCount_0f7a4_46 : decode cJ6_bitCount_0f7a4 46 = .ok (.iadd, 1) := by decide +kernel
theorem dJ6_bitCount_0f7a4_47 : decode cJ6_bitCount_0f7a4 47 = .ok (.istore_n 0, 1) := by decide +kernel
theorem dJ6_bitCount_0f7a4_48 : decode cJ6_bitCount_0f7a4 48 = .ok (.iload_n 0, 1) := by decide +kernel
theorem dJ6_bitCount_0f7a4_49 : decode cJ6_bitCount_0f7a4 49 = .ok (.bipush 63, 2) := by decide +kernel
theorem dJ6_bitCount_0f7a4_51 : decode cJ6_bitCount_0f7a4 51 = .ok (.iand, 1) := by decide +kernel
theorem dJ6_bitCount_0f7a4_52 : decode cJ6_bitCount_0f7a4 52 = .ok (.ireturn, 1) := by decide +kernel
theorem dJ9_floorMod_7cf53_0 : decode cJ9_floorMod_7cf53 0 = .ok (.iload_n 0, 1) := by decide +kernel
theorem dJ9_floorMod_7cf53_1 : decode cJ9_floorMod_7cf53 1 = .ok (.iload_n 1, 1) := by decide +kernel
theorem dJ9_floorMod_7cf53_2 : decode cJ9_floorMod_7cf53 2 = .ok (.irem, 1) := by decide +kernel
theorem dJ9_floorMod_7cf53_3 : decode cJ9_floorMod_7cf53 3 = .ok (.istore_n 2, 1) := by decide +kernel
theorem dJ9_floorMod_7cf53_4 : decode cJ9_floorMod_7cf53 4 = .ok (.iload_n 0, 1) := by decide +kernel
theorem dJ9_floorMod_7cf53_5 : decode cJ9_floorMod_7cf53 5 = .ok (.iload_n 1, 1) := by decide +kernel
theorem dJ9_floorMod_7cf53_6 : decode cJ9_floorMod_7cf53 6 = .ok (.ixor, 1) := by decide +kernel
theorem dJ9_floorMod_7cf53_7 : decode cJ9_floorMod_7cf53 7 = .ok (.ifCond .ge 11, 3) := by decide +kernel
theorem dJ9_floorMod_7cf53_10 : decode cJ9_floorMod_7cf53 10 = .ok (.iload_n 2, 1) := by decide +kernel
theorem dJ9_floorMod_7cf53_11 : decode cJ9_floorMod_7cf53 11 = .ok (.ifCond .eq 7, 3) := by decide +kernel
theorem dJ9_floorMod_7cf53_14 : decode cJ9_floorMod_7cf53 14 = .ok (.iload_n 2, 1) := by decide +kernel
theorem dJ9_floorMod_7cf53_15 : decode cJ9_floorMod_7cf53 15 = .ok (.iload_n 1, 1) := by decide +kernel
theorem dJ9_floorMod_7cf53_16 : decode cJ9_floorMod_7cf53 16 = .ok (.iadd, 1) := by decide +kernel
theorem dJ9_floorMod_7cf53_17 : decode cJ9_floorMod_7cf53 17 = .ok (.ireturn, 1) := by decide +kernel
theorem dJ9_floorMod_7cf53_18 : decode cJ9_floorMod_7cf53 18 = .ok (.iload_n 2, 1) := by decide +kernel
theorem dJ9_floorMod_7cf53_19 : decode cJ9_floorMod_7cf53 19 = .ok (.ireturn, 1) := by decide +kernel
theorem dJ9_max_7cf53_0 : decode cJ9_max_7cf53 0 = .ok (.iload_n 0, 1) := by decide +kernel
theorem dJ9_max_7cf53_1 : decode cJ9_max_7cf53 1 = .ok (.iload_n 1, 1) := by decide +kernel
theorem dJ9_max_7cf53_2 : decode cJ9_max_7cf53 2 = .ok (.if_icmp .lt 7, 3) := by decide +kernel
theorem dJ9_max_7cf53_5 : decode cJ9_max_7cf53 5 = .ok (.iload_n 0, 1) := by decide +kernel
theorem dJ9_max_7cf53_6 : decode cJ9_max_7cf53 6 = .ok (.goto 4, 3) := by decide +kernel
theorem dJ9_max_7cf53_9 : decode cJ9_max_7cf53 9 = .ok (.iload_n 1, 1) := by decide +kernel
theorem dJ9_max_7cf53_10 : decode cJ9_max_7cf53 10 = .ok (.ireturn, 1) := by decide +kernel
theorem dJ9_min_7cf53_0 : decode cJ9_min_7cf53 0 = .ok (.iload_n 0, 1) := by decide +kernel
theorem dJ9_min_7cf53_1 : decode cJ9_min_7cf53 1 = .ok (.iload_n 1, 1) := by decide +kernel
theorem dJ9_min_7cf53_2 : decode cJ9_min_7cf53 2 = .ok (.if_icmp .gt 7, 3) := by decide +kernel
theorem dJ9_min_7cf53_5 : decode cJ9_min_7cf53 5 = .ok (.iload_n 0, 1) := by decide +kernel
theorem dJ9_min_7cf53_6 : decode cJ9_min_7cf53 6 = .ok (.goto 4, 3) := by decide +kernel
theorem dJ9_min_7cf53_9 : decode cJ9_min_7cf53 9 = .ok (.iload_n 1, 1) := by decide +kernel
theorem dJ9_min_7cf53_10 : decode cJ9_min_7cf53 10 = .ok (.ireturn, 1) := by decide +kernel
theorem dJ0_length_8abf5_0 : decode cJ0_length_8abf5 0 = .ok (.aload_n 0, 1) := by decide +kernel
theorem dJ0_length_8abf5_1 : decode cJ0_length_8abf5 1 = .ok (.getfield 9, 3) := by decide +kernel
theorem dJ0_length_8abf5_4 : decode cJ0_length_8abf5 4 = .ok (.arraylength, 1) := by decide +kernel
theorem dJ0_length_8abf5_5 : decode cJ0_length_8abf5 5 = .ok (.aload_n 0, 1) := by decide +kernel
theorem dJ0_length_8abf5_6 : decode cJ0_length_8abf5 6 = .ok (.invokevirtual 335, 3) := by decide +kernel
theorem dJ0_length_8abf5_9 : decode cJ0_length_8abf5 9 = .ok (.ishr, 1) := by decide +kernel
theorem dJ0_length_8abf5_10 : decode cJ0_length_8abf5 10 = .ok (.ireturn, 1) := by decide +kernel
theorem dJ0_indexOf_0f7a4_0 : decode cJ0_indexOf_0f7a4 0 = .ok (.aload_n 0, 1) := by decide +kernel
theorem dJ0_indexOf_0f7a4_1 : decode cJ0_indexOf_0f7a4 1 = .ok (.iload_n 1, 1) := by decide +kernel
theorem dJ0_indexOf_0f7a4_2 : decode cJ0_indexOf_0f7a4 2 = .ok (.iconst 0, 1) := by decide +kernel
theorem dJ0_indexOf_0f7a4_3 : decode cJ0_indexOf_0f7a4 3 = .ok (.invokevirtual 633, 3) := by decide +kernel
theorem dJ0_indexOf_0f7a4_6 : decode cJ0_indexOf_0f7a4 6 = .ok (.ireturn, 1) := by decide +kernel
theorem dJ0_indexOf_7cf53_0 : decode cJ0_indexOf_7cf53 0 = .ok (.aload_n 0, 1) := by decide +kernel
theorem dJ0_indexOf_7cf53_1 : decode cJ0_indexOf_7cf53 1 = .ok (.invokevirtual 492, 3) := by decide +kernel
theorem dJ0_indexOf_7cf53_4 : decode cJ0_indexOf_7cf53 4 = .ok (.ifCond .eq 19, 3) := by decide +kernel
theorem dJ0_indexOf_7cf53_7 : decode cJ0_indexOf_7cf53 7 = .ok (.aload_n 0, 1) := by decide +kernel
theorem dJ0_indexOf_7cf53_8 : decode cJ0_indexOf_7cf53 8 = .ok (.getfield 9, 3) := by decide +kernel
theorem dJ0_indexOf_7cf53_11 : decode cJ0_indexOf_7cf53 11 = .ok (.iload_n 1, 1) := by decide +kernel
theorem dJ0_indexOf_7cf53_12 : decode cJ0_indexOf_7cf53 12 = .ok (.iload_n 2, 1) := by decide +kernel
theorem dJ0_indexOf_7cf53_13 : decode cJ0_indexOf_7cf53 13 = .ok (.aload_n 0, 1) := by decide +kernel
theorem dJ0_indexOf_7cf53_14 : decode cJ0_indexOf_7cf53 14 = .ok (.invokevirtual 505, 3) := by decide +kernel
theorem dJ0_indexOf_7cf53_17 : decode cJ0_indexOf_7cf53 17 = .ok (.invokestatic 637, 3) := by decide +kernel
theorem dJ0_indexOf_7cf53_20 : decode cJ0_indexOf_7cf53 20 = .ok (.goto 16, 3) := by decide +kernel
theorem dJ0_indexOf_7cf53_23 : decode cJ0_indexOf_7cf53 23 = .ok (.aload_n 0, 1) := by decide +kernel
theorem dJ0_indexOf_7cf53_24 : decode cJ0_indexOf_7cf53 24 = .ok (.getfield 9, 3) := by decide +kernel
theorem dJ0_indexOf_7cf53_27 : decode cJ0_indexOf_7cf53 27 = .ok (.iload_n 1, 1) := by decide +kernel
theorem dJ0_indexOf_7cf53_28 : decode cJ0_indexOf_7cf53 28 = .ok (.iload_n 2, 1) := by decide +kernel
theorem dJ0_indexOf_7cf53_29 : decode cJ0_indexOf_7cf53 29 = .ok (.aload_n 0, 1) := by decide +kernel
theorem dJ0_indexOf_7cf53_30 : decode cJ0_indexOf_7cf53 30 = .ok (.invokevirtual 505, 3) := by decide +kernel
theorem dJ0_indexOf_7cf53_33 : decode cJ0_indexOf_7cf53 33 = .ok (.invokestatic 640, 3) := by decide +kernel
theorem dJ0_indexOf_7cf53_36 : decode cJ0_indexOf_7cf53 36 = .ok (.ireturn, 1) := by decide +kernel
theorem dJ0_coder_7d493_0 : decode cJ0_coder_7d493 0 = .ok (.getstatic 38, 3) := by decide +kernel
theorem dJ0_coder_7d493_3 : decode cJ0_coder_7d493 3 = .ok (.ifCond .eq 10, 3) := by decide +kernel
theorem dJ0_coder_7d493_6 : decode cJ0_coder_7d493 6 = .ok (.aload_n 0, 1) := by decide +kernel
theorem dJ0_coder_7d493_7 : decode cJ0_coder_7d493 7 = .ok (.getfield 15, 3) := by decide +kernel
theorem dJ0_coder_7d493_10 : decode cJ0_coder_7d493 10 = .ok (.goto 4, 3) := by decide +kernel
theorem dJ0_coder_7d493_13 : decode cJ0_coder_7d493 13 = .ok (.iconst 1, 1) := by decide +kernel
theorem dJ0_coder_7d493_14 : decode cJ0_coder_7d493 14 = .ok (.ireturn, 1) := by decide +kernel
theorem dJ0_isLatin1_aae02_0 : decode cJ0_isLatin1_aae02 0 = .ok (.getstatic 38, 3) := by decide +kernel
theorem dJ0_isLatin1_aae02_3 : decode cJ0_isLatin1_aae02 3 = .ok (.ifCond .eq 14, 3) := by decide +kernel
theorem dJ0_isLatin1_aae02_6 : decode cJ0_isLatin1_aae02 6 = .ok (.aload_n 0, 1) := by decide +kernel
theorem dJ0_isLatin1_aae02_7 : decode cJ0_isLatin1_aae02 7 = .ok (.getfield 15, 3) := by decide +kernel
theorem dJ0_isLatin1_aae02_10 : decode cJ0_isLatin1_aae02 10 = .ok (.ifCond .ne 7, 3) := by decide +kernel
theorem dJ0_isLatin1_aae02_13 : decode cJ0_isLatin1_aae02 13 = .ok (.iconst 1, 1) := by decide +kernel
theorem dJ0_isLatin1_aae02_14 : decode cJ0_isLatin1_aae02 14 = .ok (.goto 4, 3) := by decide +kernel
theorem dJ0_isLatin1_aae02_17 : decode cJ0_isLatin1_aae02 17 = .ok (.iconst 0, 1) := by decide +kernel
theorem dJ0_isLatin1_aae02_18 : decode cJ0_isLatin1_aae02 18 = .ok (.ireturn, 1) := by decide +kernel
theorem dJ0_checkBoundsBeginEnd_23922_0 : decode cJ0_checkBoundsBeginEnd_23922 0 = .ok (.iload_n 0, 1) := by decide +kernel
theorem dJ0_checkBoundsBeginEnd_23922_1 : decode cJ0_checkBoundsBeginEnd_23922 1 = .ok (.iload_n 1, 1) := by decide +kernel
theorem dJ0_checkBoundsBeginEnd_23922_2 : decode cJ0_checkBoundsBeginEnd_23922 2 = .ok (.iload_n 2, 1) := by decide +kernel
theorem dJ0_checkBoundsBeginEnd_23922_3 : decode cJ0_checkBoundsBeginEnd_23922 3 = .ok (.getstatic 1053, 3) := by decide +kernel
theorem dJ0_checkBoundsBeginEnd_23922_6 : decode cJ0_checkBoundsBeginEnd_23922 6 = .ok (.invokestatic 1062, 3) := by decide +kernel
theorem dJ0_checkBoundsBeginEnd_23922_9 : decode cJ0_checkBoundsBeginEnd_23922 9 = .ok (.pop, 1) := by decide +kernel
theorem dJ0_checkBoundsBeginEnd_23922_10 : decode cJ0_checkBoundsBeginEnd_23922 10 = .ok (.return_, 1) := by decide +kernel
theorem dJ1_canEncode_9a6ad_0 : decode cJ1_canEncode_9a6ad 0 = .ok (.iload_n 0, 1) := by decide +kernel
theorem dJ1_canEncode_9a6ad_1 : decode cJ1_canEncode_9a6ad 1 = .ok (.ifCond .lt 14, 3) := by decide +kernel
theorem dJ1_canEncode_9a6ad_4 : decode cJ1_canEncode_9a6ad 4 = .ok (.iload_n 0, 1) := by decide +kernel
theorem dJ1_canEncode_9a6ad_5 : decode cJ1_canEncode_9a6ad 5 = .ok (.sipush 255, 3) := by decide +kernel
theorem dJ1_canEncode_9a6ad_8 : decode cJ1_canEncode_9a6ad 8 = .ok (.if_icmp .gt 7, 3) := by decide +kernel
theorem dJ1_canEncode_9a6ad_11 : decode cJ1_canEncode_9a6ad 11 = .ok (.iconst 1, 1) := by decide +kernel
theorem dJ1_canEncode_9a6ad_12 : decode cJ1_canEncode_9a6ad 12 = .ok (.goto 4, 3) := by decide +kernel
theorem dJ1_canEncode_9a6ad_15 : decode cJ1_canEncode_9a6ad 15 = .ok (.iconst 0, 1) := by decide +kernel
theorem dJ1_canEncode_9a6ad_16 : decode cJ1_canEncode_9a6ad 16 = .ok (.ireturn, 1) := by decide +kernel
theorem dJ1_indexOf_4cfef_0 : decode cJ1_indexOf_4cfef 0 = .ok (.iload_n 1, 1) := by decide +kernel
theorem dJ1_indexOf_4cfef_1 : decode cJ1_indexOf_4cfef 1 = .ok (.invokestatic 88, 3) := by decide +kernel
theorem dJ1_indexOf_4cfef_4 : decode cJ1_indexOf_4cfef 4 = .ok (.ifCond .ne 5, 3) := by decide +kernel
theorem dJ1_indexOf_4cfef_7 : decode cJ1_indexOf_4cfef 7 = .ok (.iconst (-1), 1) := by decide +kernel
theorem dJ1_indexOf_4cfef_8 : decode cJ1_indexOf_4cfef 8 = .ok (.ireturn, 1) := by decide +kernel
theorem dJ1_indexOf_4cfef_9 : decode cJ1_indexOf_4cfef 9 = .ok (.iload_n 2, 1) := by decide +kernel
theorem dJ1_indexOf_4cfef_10 : decode cJ1_indexOf_4cfef 10 = .ok (.iconst 0, 1) := by decide +kernel
theorem dJ1_indexOf_4cfef_11 : decode cJ1_indexOf_4cfef 11 = .ok (.invokestatic 92, 3) := by decide +kernel
theorem dJ1_indexOf_4cfef_14 : decode cJ1_indexOf_4cfef 14 = .ok (.istore_n 2, 1) := by decide +kernel
theorem dJ1_indexOf_4cfef_15 : decode cJ1_indexOf_4cfef 15 = .ok (.iload_n 3, 1) := by decide +kernel
theorem dJ1_indexOf_4cfef_16 : decode cJ1_indexOf_4cfef 16 = .ok (.aload_n 0, 1) := by decide +kernel
theorem dJ1_indexOf_4cfef_17 : decode cJ1_indexOf_4cfef 17 = .ok (.arraylength, 1) := by decide +kernel
theorem dJ1_indexOf_4cfef_18 : decode cJ1_indexOf_4cfef 18 = .ok (.invokestatic 38, 3) := by decide +kernel
theorem dJ1_indexOf_4cfef_21 : decode cJ1_indexOf_4cfef 21 = .ok (.istore_n 3, 1) := by decide +kernel
theorem dJ1_indexOf_4cfef_22 : decode cJ1_indexOf_4cfef 22 = .ok (.iload_n 2, 1) := by decide +kernel
theorem dJ1_indexOf_4cfef_23 : decode cJ1_indexOf_4cfef 23 = .ok (.iload_n 3, 1) := by decide +kernel
theorem dJ1_indexOf_4cfef_24 : decode cJ1_indexOf_4cfef 24 = .ok (.if_icmp .lt 5, 3) := by decide +kernel
theorem dJ1_indexOf_4cfef_27 : decode cJ1_indexOf_4cfef 27 = .ok (.iconst (-1), 1) := by decide +kernel
theorem dJ1_indexOf_4cfef_28 : decode cJ1_indexOf_4cfef 28 = .ok (.ireturn, 1) := by decide +kernel
theorem dJ1_indexOf_4cfef_29 : decode cJ1_indexOf_4cfef 29 = .ok (.aload_n 0, 1) := by decide +kernel
theorem dJ1_indexOf_4cfef_30 : decode cJ1_indexOf_4cfef 30 = .ok (.iload_n 1, 1) := by decide +kernel
theorem dJ1_indexOf_4cfef_31 : decode cJ1_indexOf_4cfef 31 = .ok (.iload_n 2, 1) := by decide +kernel
theorem dJ1_indexOf_4cfef_32 : decode cJ1_indexOf_4cfef 32 = .ok (.iload_n 3, 1) := by decide +kernel
theorem dJ1_indexOf_4cfef_33 : decode cJ1_indexOf_4cfef 33 = .ok (.invokestatic 95, 3) := by decide +kernel
theorem dJ1_indexOf_4cfef_36 : decode cJ1_indexOf_4cfef 36 = .ok (.ireturn, 1) := by decide +kernel
theorem dJ1_indexOfChar_4cfef_0 : decode cJ1_indexOfChar_4cfef 0 = .ok (.iload_n 1, 1) := by decide +kernel
theorem dJ1_indexOfChar_4cfef_1 : decode cJ1_indexOfChar_4cfef 1 = .ok (.i2b, 1) := by decide +kernel
theorem dJ1_indexOfChar_4cfef_2 : decode cJ1_indexOfChar_4cfef 2 = .ok (.istore 4, 2) := by decide +kernel
theorem dJ1_indexOfChar_4cfef_4 : decode cJ1_indexOfChar_4cfef 4 = .ok (.iload_n 2, 1) := by decide +kernel
theorem dJ1_indexOfChar_4cfef_5 : decode cJ1_indexOfChar_4cfef 5 = .ok (.istore 5, 2) := by decide +kernel
theorem dJ1_indexOfChar_4cfef_7 : decode cJ1_indexOfChar_4cfef 7 = .ok (.iload 5, 2) := by decide +kernel
theorem dJ1_indexOfChar_4cfef_9 : decode cJ1_indexOfChar_4cfef 9 = .ok (.iload_n 3, 1) := by decide +kernel
theorem dJ1_indexOfChar_4cfef_10 : decode cJ1_indexOfChar_4cfef 10 = .ok (.if_icmp .ge 21, 3) := by decide +kernel
theorem dJ1_indexOfChar_4cfef_13 : decode cJ1_indexOfChar_4cfef 13 = .ok (.aload_n 0, 1) := by decide +kernel
theorem dJ1_indexOfChar_4cfef_14 : decode cJ1_indexOfChar_4cfef 14 = .ok (.iload 5, 2) := by decide +kernel
theorem dJ1_indexOfChar_4cfef_16 : decode cJ1_indexOfChar_4cfef 16 = .ok (.baload, 1) := by decide +kernel
theorem dJ1_indexOfChar_4cfef_17 : decode cJ1_indexOfChar_4cfef 17 = .ok (.iload 4, 2) := by decide +kernel
theorem dJ1_indexOfChar_4cfef_19 : decode cJ1_indexOfChar_4cfef 19 = .ok (.if_icmp .ne 6, 3) := by decide +kernel
theorem dJ1_indexOfChar_4cfef_22 : decode cJ1_indexOfChar_4cfef 22 = .ok (.iload 5, 2) := by decide +kernel
theorem dJ1_indexOfChar_4cfef_24 : decode cJ1_indexOfChar_4cfef 24 = .ok (.ireturn, 1) := by decide +kernel
theorem dJ1_indexOfChar_4cfef_25 : decode cJ1_indexOfChar_4cfef 25 = .ok (.iinc 5 1, 3) := by decide +kernel
theorem dJ1_indexOfChar_4cfef_28 : decode cJ1_indexOfChar_4cfef 28 = .ok (.goto (-21), 3) := by decide +kernel
theorem dJ1_indexOfChar_4cfef_31 : decode cJ1_indexOfChar_4cfef 31 = .ok (.iconst (-1), 1) := by decide +kernel
theorem dJ1_indexOfChar_4cfef_32 : decode cJ1_indexOfChar_4cfef 32 = .ok (.ireturn, 1) := by decide +kernel
theorem dJ2_getChar_3b067_0 : decode cJ2_getChar_3b067 0 = .ok (.getstatic 44, 3) := by decide +kernel
theorem dJ2_getChar_3b067_3 : decode cJ2_getChar_3b067 3 = .ok (.ifCond .ne 25, 3) := by decide +kernel
theorem dJ2_getChar_3b067_6 : decode cJ2_getChar_3b067 6 = .ok (.iload_n 1, 1) := by decide +kernel
theorem dJ2_getChar_3b067_7 : decode cJ2_getChar_3b067 7 = .ok (.ifCond .lt 11, 3) := by decide +kernel
theorem dJ2_getChar_3b067_10 : decode cJ2_getChar_3b067 10 = .ok (.iload_n 1, 1) := by decide +kernel
theorem dJ2_getChar_3b067_11 : decode cJ2_getChar_3b067 11 = .ok (.aload_n 0, 1) := by decide +kernel
theorem dJ2_getChar_3b067_12 : decode cJ2_getChar_3b067 12 = .ok (.invokestatic 48, 3) := by decide +kernel
theorem dJ2_getChar_3b067_15 : decode cJ2_getChar_3b067 15 = .ok (.if_icmp .lt 13, 3) := by decide +kernel
theorem dJ2_getChar_3b067_18 : decode cJ2_getChar_3b067 18 = .ok (.new 52, 3) := by decide +kernel
theorem dJ2_getChar_3b067_21 : decode cJ2_getChar_3b067 21 = .ok (.dup, 1) := by decide +kernel
theorem dJ2_getChar_3b067_22 : decode cJ2_getChar_3b067 22 = .ok (.ldc 54, 2) := by decide +kernel
theorem dJ2_getChar_3b067_24 : decode cJ2_getChar_3b067 24 = .ok (.invokespecial 56, 3) := by decide +kernel
theorem dJ2_getChar_3b067_27 : decode cJ2_getChar_3b067 27 = .ok (.athrow, 1) := by decide +kernel
theorem dJ2_getChar_3b067_28 : decode cJ2_getChar_3b067 28 = .ok (.iload_n 1, 1) := by decide +kernel
theorem dJ2_getChar_3b067_29 : decode cJ2_getChar_3b067 29 = .ok (.iconst 1, 1) := by decide +kernel
theorem dJ2_getChar_3b067_30 : decode cJ2_getChar_3b067 30 = .ok (.ishl, 1) := by decide +kernel
theorem dJ2_getChar_3b067_31 : decode cJ2_getChar_3b067 31 = .ok (.istore_n 1, 1) := by decide +kernel
theorem dJ2_getChar_3b067_32 : decode cJ2_getChar_3b067 32 = .ok (.aload_n 0, 1) := by decide +kernel
theorem dJ2_getChar_3b067_33 : decode cJ2_getChar_3b067 33 = .ok (.iload_n 1, 1) := by decide +kernel
theorem dJ2_getChar_3b067_34 : decode cJ2_getChar_3b067 34 = .ok (.iinc 1 1, 3) := by decide +kernel
theorem dJ2_getChar_3b067_37 : decode cJ2_getChar_3b067 37 = .ok (.baload, 1) := by decide +kernel
theorem dJ2_getChar_3b067_38 : decode cJ2_getChar_3b067 38 = .ok (.sipush 255, 3) := by decide +kernel
theorem dJ2_getChar_3b067_41 : decode cJ2_getChar_3b067 41 = .ok (.iand, 1) := by decide +kernel
theorem dJ2_getChar_3b067_42 : decode cJ2_getChar_3b067 42 = .ok (.getstatic 59, 3) := by decide +kernel
theorem dJ2_getChar_3b067_45 : decode cJ2_getChar_3b067 45 = .ok (.ishl, 1) := by decide +kernel
theorem dJ2_getChar_3b067_46 : decode cJ2_getChar_3b067 46 = .ok (.aload_n 0, 1) := by decide +kernel
theorem dJ2_getChar_3b067_47 : decode cJ2_getChar_3b067 47 = .ok (.iload_n 1, 1) := by decide +kernel
theorem dJ2_getChar_3b067_48 : decode cJ2_getChar_3b067 48 = .ok (.baload, 1) := by decide +kernel
theorem dJ2_getChar_3b067_49 : decode cJ2_getChar_3b067 49 = .ok (.sipush 255, 3) := by decide +kernel
theorem dJ2_getChar_3b067_52 : decode cJ2_getChar_3b067 52 = .ok (.iand, 1) := by decide +kernel
theorem dJ2_getChar_3b067_53 : decode cJ2_getChar_3b067 53 = .ok (.getstatic 63, 3) := by decide +kernel
theorem dJ2_getChar_3b067_56 : decode cJ2_getChar_3b067 56 = .ok (.ishl, 1) := by decide +kernel
theorem dJ2_getChar_3b067_57 : decode cJ2_getChar_3b067 57 = .ok (.ior, 1) := by decide +kernel
theorem dJ2_getChar_3b067_58 : decode cJ2_getChar_3b067 58 = .ok (.i2c, 1) := by decide +kernel
theorem dJ2_getChar_3b067_59 : decode cJ2_getChar_3b067 59 = .ok (.ireturn, 1) := by decide +kernel
theorem dJ2_length_9d52b_0 : decode cJ2_length_9d52b 0 = .ok (.aload_n 0, 1) := by decide +kernel
theorem dJ2_length_9d52b_1 : decode cJ2_length_9d52b 1 = .ok (.arraylength, 1) := by decide +kernel
theorem dJ2_length_9d52b_2 : decode cJ2_length_9d52b 2 = .ok (.iconst 1, 1) := by decide +kernel
theorem dJ2_length_9d52b_3 : decode cJ2_length_9d52b 3 = .ok (.ishr, 1) := by decide +kernel
theorem dJ2_length_9d52b_4 : decode cJ2_length_9d52b 4 = .ok (.ireturn, 1) := by decide +kernel
theorem dJ2_indexOf_4cfef_0 : decode cJ2_indexOf_4cfef 0 = .ok (.iload_n 2, 1) := by decide +kernel
theorem dJ2_indexOf_4cfef_1 : decode cJ2_indexOf_4cfef 1 = .ok (.iconst 0, 1) := by decide +kernel
theorem dJ2_indexOf_4cfef_2 : decode cJ2_indexOf_4cfef 2 = .ok (.invokestatic 224, 3) := by decide +kernel
theorem dJ2_indexOf_4cfef_5 : decode cJ2_indexOf_4cfef 5 = .ok (.istore_n 2, 1) := by decide +kernel
theorem dJ2_indexOf_4cfef_6 : decode cJ2_indexOf_4cfef 6 = .ok (.iload_n 3, 1) := by decide +kernel
theorem dJ2_indexOf_4cfef_7 : decode cJ2_indexOf_4cfef 7 = .ok (.aload_n 0, 1) := by decide +kernel
theorem dJ2_indexOf_4cfef_8 : decode cJ2_indexOf_4cfef 8 = .ok (.arraylength, 1) := by decide +kernel
theorem dJ2_indexOf_4cfef_9 : decode cJ2_indexOf_4cfef 9 = .ok (.iconst 1, 1) := by decide +kernel
theorem dJ2_indexOf_4cfef_10 : decode cJ2_indexOf_4cfef 10 = .ok (.ishr, 1) := by decide +kernel
theorem dJ2_indexOf_4cfef_11 : decode cJ2_indexOf_4cfef 11 = .ok (.invokestatic 183, 3) := by decide +kernel
theorem dJ2_indexOf_4cfef_14 : decode cJ2_indexOf_4cfef 14 = .ok (.istore_n 3, 1) := by decide +kernel
theorem dJ2_indexOf_4cfef_15 : decode cJ2_indexOf_4cfef 15 = .ok (.iload_n 2, 1) := by decide +kernel
theorem dJ2_indexOf_4cfef_16 : decode cJ2_indexOf_4cfef 16 = .ok (.iload_n 3, 1) := by decide +kernel
theorem dJ2_indexOf_4cfef_17 : decode cJ2_indexOf_4cfef 17 = .ok (.if_icmp .lt 5, 3) := by decide +kernel
theorem dJ2_indexOf_4cfef_20 : decode cJ2_indexOf_4cfef 20 = .ok (.iconst (-1), 1) := by decide +kernel
theorem dJ2_indexOf_4cfef_21 : decode cJ2_indexOf_4cfef 21 = .ok (.ireturn, 1) := by decide +kernel
theorem dJ2_indexOf_4cfef_22 : decode cJ2_indexOf_4cfef 22 = .ok (.iload_n 1, 1) := by decide +kernel
theorem dJ2_indexOf_4cfef_23 : decode cJ2_indexOf_4cfef 23 = .ok (.ldc 227, 2) := by decide +kernel
theorem dJ2_indexOf_4cfef_25 : decode cJ2_indexOf_4cfef 25 = .ok (.if_icmp .ge 11, 3) := by decide +kernel
theorem dJ2_indexOf_4cfef_28 : decode cJ2_indexOf_4cfef 28 = .ok (.aload_n 0, 1) := by decide +kernel
theorem dJ2_indexOf_4cfef_29 : decode cJ2_indexOf_4cfef 29 = .ok (.iload_n 1, 1) := by decide +kernel
theorem dJ2_indexOf_4cfef_30 : decode cJ2_indexOf_4cfef 30 = .ok (.iload_n 2, 1) := by decide +kernel
theorem dJ2_indexOf_4cfef_31 : decode cJ2_indexOf_4cfef 31 = .ok (.iload_n 3, 1) := by decide +kernel
theorem dJ2_indexOf_4cfef_32 : decode cJ2_indexOf_4cfef 32 = .ok (.invokestatic 228, 3) := by decide +kernel
theorem dJ2_indexOf_4cfef_35 : decode cJ2_indexOf_4cfef 35 = .ok (.ireturn, 1) := by decide +kernel
theorem dJ2_indexOf_4cfef_36 : decode cJ2_indexOf_4cfef 36 = .ok (.aload_n 0, 1) := by decide +kernel
theorem dJ2_indexOf_4cfef_37 : decode cJ2_indexOf_4cfef 37 = .ok (.iload_n 1, 1) := by decide +kernel
theorem dJ2_indexOf_4cfef_38 : decode cJ2_indexOf_4cfef 38 = .ok (.iload_n 2, 1) := by decide +kernel
theorem dJ2_indexOf_4cfef_39 : decode cJ2_indexOf_4cfef 39 = .ok (.iload_n 3, 1) := by decide +kernel
theorem dJ2_indexOf_4cfef_40 : decode cJ2_indexOf_4cfef 40 = .ok (.invokestatic 232, 3) := by decide +kernel
theorem dJ2_indexOf_4cfef_43 : decode cJ2_indexOf_4cfef 43 = .ok (.ireturn, 1) := by decide +kernel
theorem dJ2_indexOfChar_4cfef_0 : decode cJ2_indexOfChar_4cfef 0 = .ok (.iload_n 2, 1) := by decide +kernel
theorem dJ2_indexOfChar_4cfef_1 : decode cJ2_indexOfChar_4cfef 1 = .ok (.iload_n 3, 1) := by decide +kernel
theorem dJ2_indexOfChar_4cfef_2 : decode cJ2_indexOfChar_4cfef 2 = .ok (.aload_n 0, 1) := by decide +kernel
theorem dJ2_indexOfChar_4cfef_3 : decode cJ2_indexOfChar_4cfef 3 = .ok (.invokestatic 96, 3) := by decide +kernel
theorem dJ2_indexOfChar_4cfef_6 : decode cJ2_indexOfChar_4cfef 6 = .ok (.aload_n 0, 1) := by decide +kernel
theorem dJ2_indexOfChar_4cfef_7 : decode cJ2_indexOfChar_4cfef 7 = .ok (.iload_n 1, 1) := by decide +kernel
theorem dJ2_indexOfChar_4cfef_8 : decode cJ2_indexOfChar_4cfef 8 = .ok (.iload_n 2, 1) := by decide +kernel
theorem dJ2_indexOfChar_4cfef_9 : decode cJ2_indexOfChar_4cfef 9 = .ok (.iload_n 3, 1) := by decide +kernel
theorem dJ2_indexOfChar_4cfef_10 : decode cJ2_indexOfChar_4cfef 10 = .ok (.invokestatic 244, 3) := by decide +kernel
theorem dJ2_indexOfChar_4cfef_13 : decode cJ2_indexOfChar_4cfef 13 = .ok (.ireturn, 1) := by decide +kernel
theorem dJ2_indexOfCharUnsafe_4cfef_0 : decode cJ2_indexOfCharUnsafe_4cfef 0 = .ok (.iload_n 2, 1) := by decide +kernel
theorem dJ2_indexOfCharUnsafe_4cfef_1 : decode cJ2_indexOfCharUnsafe_4cfef 1 = .ok (.istore 4, 2) := by decide +kernel
theorem dJ2_indexOfCharUnsafe_4cfef_3 : decode cJ2_indexOfCharUnsafe_4cfef 3 = .ok (.iload 4, 2) := by decide +kernel
theorem dJ2_indexOfCharUnsafe_4cfef_5 : decode cJ2_indexOfCharUnsafe_4cfef 5 = .ok (.iload_n 3, 1) := by decide +kernel
theorem dJ2_indexOfCharUnsafe_4cfef_6 : decode cJ2_indexOfCharUnsafe_4cfef 6 = .ok (.if_icmp .ge 22, 3) := by decide +kernel
theorem dJ2_indexOfCharUnsafe_4cfef_9 : decode cJ2_indexOfCharUnsafe_4cfef 9 = .ok (.aload_n 0, 1) := by decide +kernel
theorem dJ2_indexOfCharUnsafe_4cfef_10 : decode cJ2_indexOfCharUnsafe_4cfef 10 = .ok (.iload 4, 2) := by decide +kernel
theorem dJ2_indexOfCharUnsafe_4cfef_12 : decode cJ2_indexOfCharUnsafe_4cfef 12 = .ok (.invokestatic 71, 3) := by decide +kernel
theorem dJ2_indexOfCharUnsafe_4cfef_15 : decode cJ2_indexOfCharUnsafe_4cfef 15 = .ok (.iload_n 1, 1) := by decide +kernel
theorem dJ2_indexOfCharUnsafe_4cfef_16 : decode cJ2_indexOfCharUnsafe_4cfef 16 = .ok (.if_icmp .ne 6, 3) := by decide +kernel
theorem dJ2_indexOfCharUnsafe_4cfef_19 : decode cJ2_indexOfCharUnsafe_4cfef 19 = .ok (.iload 4, 2) := by decide +kernel
theorem dJ2_indexOfCharUnsafe_4cfef_21 : decode cJ2_indexOfCharUnsafe_4cfef 21 = .ok (.ireturn, 1) := by decide +kernel
theorem dJ2_indexOfCharUnsafe_4cfef_22 : decode cJ2_indexOfCharUnsafe_4cfef 22 = .ok (.iinc 4 1, 3) := by decide +kernel
theorem dJ2_indexOfCharUnsafe_4cfef_25 : decode cJ2_indexOfCharUnsafe_4cfef 25 = .ok (.goto (-22), 3) := by decide +kernel
theorem dJ2_indexOfCharUnsafe_4cfef_28 : decode cJ2_indexOfCharUnsafe_4cfef 28 = .ok (.iconst (-1), 1) := by decide +kernel
theorem dJ2_indexOfCharUnsafe_4cfef_29 : decode cJ2_indexOfCharUnsafe_4cfef 29 = .ok (.ireturn, 1) := by decide +kernel
theorem dJ2_indexOfSupplementary_4cfef_0 : decode cJ2_indexOfSupplementary_4cfef 0 = .ok (.iload_n 1, 1) := by decide +kernel
theorem dJ2_indexOfSupplementary_4cfef_1 : decode cJ2_indexOfSupplementary_4cfef 1 = .ok (.invokestatic 164, 3) := by decide +kernel
theorem dJ2_indexOfSupplementary_4cfef_4 : decode cJ2_indexOfSupplementary_4cfef 4 = .ok (.ifCond .eq 65, 3) := by decide +kernel
theorem dJ2_indexOfSupplementary_4cfef_7 : decode cJ2_indexOfSupplementary_4cfef 7 = .ok (.iload_n 1, 1) := by decide +kernel
theorem dJ2_indexOfSupplementary_4cfef_8 : decode cJ2_indexOfSupplementary_4cfef 8 = .ok (.invokestatic 157, 3) := by decide +kernel
theorem dJ2_indexOfSupplementary_4cfef_11 : decode cJ2_indexOfSupplementary_4cfef 11 = .ok (.istore 4, 2) := by decide +kernel
theorem dJ2_indexOfSupplementary_4cfef_13 : decode cJ2_indexOfSupplementary_4cfef 13 = .ok (.iload_n 1, 1) := by decide +kernel
theorem dJ2_indexOfSupplementary_4cfef_14 : decode cJ2_indexOfSupplementary_4cfef 14 = .ok (.invokestatic 161, 3) := by decide +kernel
theorem dJ2_indexOfSupplementary_4cfef_17 : decode cJ2_indexOfSupplementary_4cfef 17 = .ok (.istore 5, 2) := by decide +kernel
theorem dJ2_indexOfSupplementary_4cfef_19 : decode cJ2_indexOfSupplementary_4cfef 19 = .ok (.iload_n 2, 1) := by decide +kernel
theorem dJ2_indexOfSupplementary_4cfef_20 : decode cJ2_indexOfSupplementary_4cfef 20 = .ok (.iload_n 3, 1) := by decide +kernel
theorem dJ2_indexOfSupplementary_4cfef_21 : decode cJ2_indexOfSupplementary_4cfef 21 = .ok (.aload_n 0, 1) := by decide +kernel
theorem dJ2_indexOfSupplementary_4cfef_22 : decode cJ2_indexOfSupplementary_4cfef 22 = .ok (.invokestatic 96, 3) := by decide +kernel
theorem dJ2_indexOfSupplementary_4cfef_25 : decode cJ2_indexOfSupplementary_4cfef 25 = .ok (.iload_n 2, 1) := by decide +kernel
theorem dJ2_indexOfSupplementary_4cfef_26 : decode cJ2_indexOfSupplementary_4cfef 26 = .ok (.istore 6, 2) := by decide +kernel
theorem dJ2_indexOfSupplementary_4cfef_28 : decode cJ2_indexOfSupplementary_4cfef 28 = .ok (.iload 6, 2) := by decide +kernel
theorem dJ2_indexOfSupplementary_4cfef_30 : decode cJ2_indexOfSupplementary_4cfef 30 = .ok (.iload_n 3, 1) := by decide +kernel
theorem dJ2_indexOfSupplementary_4cfef_31 : decode cJ2_indexOfSupplementary_4cfef 31 = .ok (.iconst 1, 1) := by decide +kernel
theorem dJ2_indexOfSupplementary_4cfef_32 : decode cJ2_indexOfSupplementary_4cfef 32 = .ok (.isub, 1) := by decide +kernel
theorem dJ2_indexOfSupplementary_4cfef_33 : decode cJ2_indexOfSupplementary_4cfef 33 = .ok (.if_icmp .ge 36, 3) := by decide +kernel
theorem dJ2_indexOfSupplementary_4cfef_36 : decode cJ2_indexOfSupplementary_4cfef 36 = .ok (.aload_n 0, 1) := by decide +kernel
theorem dJ2_indexOfSupplementary_4cfef_37 : decode cJ2_indexOfSupplementary_4cfef 37 = .ok (.iload 6, 2) := by decide +kernel
theorem dJ2_indexOfSupplementary_4cfef_39 : decode cJ2_indexOfSupplementary_4cfef 39 = .ok (.invokestatic 71, 3) := by decide +kernel
theorem dJ2_indexOfSupplementary_4cfef_42 : decode cJ2_indexOfSupplementary_4cfef 42 = .ok (.iload 4, 2) := by decide +kernel
theorem dJ2_indexOfSupplementary_4cfef_44 : decode cJ2_indexOfSupplementary_4cfef 44 = .ok (.if_icmp .ne 19, 3) := by decide +kernel
theorem dJ2_indexOfSupplementary_4cfef_47 : decode cJ2_indexOfSupplementary_4cfef 47 = .ok (.aload_n 0, 1) := by decide +kernel
theorem dJ2_indexOfSupplementary_4cfef_48 : decode cJ2_indexOfSupplementary_4cfef 48 = .ok (.iload 6, 2) := by decide +kernel
theorem dJ2_indexOfSupplementary_4cfef_50 : decode cJ2_indexOfSupplementary_4cfef 50 = .ok (.iconst 1, 1) := by decide +kernel
theorem dJ2_indexOfSupplementary_4cfef_51 : decode cJ2_indexOfSupplementary_4cfef 51 = .ok (.iadd, 1) := by decide +kernel
theorem dJ2_indexOfSupplementary_4cfef_52 : decode cJ2_indexOfSupplementary_4cfef 52 = .ok (.invokestatic 71, 3) := by decide +kernel
theorem dJ2_indexOfSupplementary_4cfef_55 : decode cJ2_indexOfSupplementary_4cfef 55 = .ok (.iload 5, 2) := by decide +kernel
theorem dJ2_indexOfSupplementary_4cfef_57 : decode cJ2_indexOfSupplementary_4cfef 57 = .ok (.if_icmp .ne 6, 3) := by decide +kernel
theorem dJ2_indexOfSupplementary_4cfef_60 : decode cJ2_indexOfSupplementary_4cfef 60 = .ok (.iload 6, 2) := by decide +kernel
theorem dJ2_indexOfSupplementary_4cfef_62 : decode cJ2_indexOfSupplementary_4cfef 62 = .ok (.ireturn, 1) := by decide +kernel
theorem dJ2_indexOfSupplementary_4cfef_63 : decode cJ2_indexOfSupplementary_4cfef 63 = .ok (.iinc 6 1, 3) := by decide +kernel
theorem dJ2_indexOfSupplementary_4cfef_66 : decode cJ2_indexOfSupplementary_4cfef 66 = .ok (.goto (-38), 3) := by decide +kernel
theorem dJ2_indexOfSupplementary_4cfef_69 : decode cJ2_indexOfSupplementary_4cfef 69 = .ok (.iconst (-1), 1) := by decide +kernel
theorem dJ2_indexOfSupplementary_4cfef_70 : decode cJ2_indexOfSupplementary_4cfef 70 = .ok (.ireturn, 1) := by decide +kernel
theorem dJ2_checkBoundsBeginEnd_d044e_0 : decode cJ2_checkBoundsBeginEnd_d044e 0 = .ok (.iload_n 0, 1) := by decide +kernel
theorem dJ2_checkBoundsBeginEnd_d044e_1 : decode cJ2_checkBoundsBeginEnd_d044e 1 = .ok (.iload_n 1, 1) := by decide +kernel
theorem dJ2_checkBoundsBeginEnd_d044e_2 : decode cJ2_checkBoundsBeginEnd_d044e 2 = .ok (.aload_n 2, 1) := by decide +kernel
theorem dJ2_checkBoundsBeginEnd_d044e_3 : decode cJ2_checkBoundsBeginEnd_d044e 3 = .ok (.invokestatic 48, 3) := by decide +kernel
theorem dJ2_checkBoundsBeginEnd_d044e_6 : decode cJ2_checkBoundsBeginEnd_d044e 6 = .ok (.invokestatic 241, 3) := by decide +kernel
theorem dJ2_checkBoundsBeginEnd_d044e_9 : decode cJ2_checkBoundsBeginEnd_d044e 9 = .ok (.return_, 1) := by decide +kernel
theorem dJ3_checkFromToIndex_8c36e_0 : decode cJ3_checkFromToIndex_8c36e 0 = .ok (.iload_n 0, 1) := by decide +kernel
theorem dJ3_checkFromToIndex_8c36e_1 : decode cJ3_checkFromToIndex_8c36e 1 = .ok (.ifCond .lt 13, 3) := by decide +kernel
theorem dJ3_checkFromToIndex_8c36e_4 : decode cJ3_checkFromToIndex_8c36e 4 = .ok (.iload_n 0, 1) := by decide +kernel
theorem dJ3_checkFromToIndex_8c36e_5 : decode cJ3_checkFromToIndex_8c36e 5 = .ok (.iload_n 1, 1) := by decide +kernel
theorem dJ3_checkFromToIndex_8c36e_6 : decode cJ3_checkFromToIndex_8c36e 6 = .ok (.if_icmp .gt 8, 3) := by decide +kernel
theorem dJ3_checkFromToIndex_8c36e_9 : decode cJ3_checkFromToIndex_8c36e 9 = .ok (.iload_n 1, 1) := by decide +kernel
theorem dJ3_checkFromToIndex_8c36e_10 : decode cJ3_checkFromToIndex_8c36e 10 = .ok (.iload_n 2, 1) := by decide +kernel
theorem dJ3_checkFromToIndex_8c36e_11 : decode cJ3_checkFromToIndex_8c36e 11 = .ok (.if_icmp .le 11, 3) := by decide +kernel
theorem dJ3_checkFromToIndex_8c36e_14 : decode cJ3_checkFromToIndex_8c36e 14 = .ok (.aload_n 3, 1) := by decide +kernel
theorem dJ3_checkFromToIndex_8c36e_15 : decode cJ3_checkFromToIndex_8c36e 15 = .ok (.iload_n 0, 1) := by decide +kernel
theorem dJ3_checkFromToIndex_8c36e_16 : decode cJ3_checkFromToIndex_8c36e 16 = .ok (.iload_n 1, 1) := by decide +kernel
theorem dJ3_checkFromToIndex_8c36e_17 : decode cJ3_checkFromToIndex_8c36e 17 = .ok (.iload_n 2, 1) := by decide +kernel
theorem dJ3_checkFromToIndex_8c36e_18 : decode cJ3_checkFromToIndex_8c36e 18 = .ok (.invokestatic 99, 3) := by decide +kernel
theorem dJ3_checkFromToIndex_8c36e_21 : decode cJ3_checkFromToIndex_8c36e 21 = .ok (.athrow, 1) := by decide +kernel
theorem dJ3_checkFromToIndex_8c36e_22 : decode cJ3_checkFromToIndex_8c36e 22 = .ok (.iload_n 0, 1) := by decide +kernel
theorem dJ3_checkFromToIndex_8c36e_23 : decode cJ3_checkFromToIndex_8c36e 23 = .ok (.ireturn, 1) := by decide +kernel
theorem dL_law_0 : decode cL_law 0 = .ok (.new 7, 3) := by decide +kernel
theorem dL_law_3 : decode cL_law 3 = .ok (.dup, 1) := by decide +kernel
theorem dL_law_4 : decode cL_law 4 = .ok (.invokespecial 9, 3) := by decide +kernel
theorem dL_law_7 : decode cL_law 7 = .ok (.astore_n 1, 1) := by decide +kernel
theorem dL_law_8 : decode cL_law 8 = .ok (.new 10, 3) := by decide +kernel
theorem dL_law_11 : decode cL_law 11 = .ok (.dup, 1) := by decide +kernel
theorem dL_law_12 : decode cL_law 12 = .ok (.invokespecial 12, 3) := by decide +kernel
theorem dL_law_15 : decode cL_law 15 = .ok (.astore_n 2, 1) := by decide +kernel
theorem dL_law_16 : decode cL_law 16 = .ok (.iconst 0, 1) := by decide +kernel
theorem dL_law_17 : decode cL_law 17 = .ok (.istore_n 3, 1) := by decide +kernel
theorem dL_law_18 : decode cL_law 18 = .ok (.iload_n 3, 1) := by decide +kernel
theorem dL_law_19 : decode cL_law 19 = .ok (.aload_n 0, 1) := by decide +kernel
theorem dL_law_20 : decode cL_law 20 = .ok (.arraylength, 1) := by decide +kernel
theorem dL_law_21 : decode cL_law 21 = .ok (.bipush 6, 2) := by decide +kernel
theorem dL_law_23 : decode cL_law 23 = .ok (.isub, 1) := by decide +kernel
theorem dL_law_24 : decode cL_law 24 = .ok (.if_icmp .gt 928, 3) := by decide +kernel
theorem dL_law_27 : decode cL_law 27 = .ok (.aload_n 0, 1) := by decide +kernel
theorem dL_law_28 : decode cL_law 28 = .ok (.iload_n 3, 1) := by decide +kernel
theorem dL_law_29 : decode cL_law 29 = .ok (.iaload, 1) := by decide +kernel
theorem dL_law_30 : decode cL_law 30 = .ok (.bipush 31, 2) := by decide +kernel
theorem dL_law_32 : decode cL_law 32 = .ok (.iand, 1) := by decide +kernel
theorem dL_law_33 : decode cL_law 33 = .ok (.tableswitch 913 0 23 #[111, 134, 197, 240, 293, 336, 359, 382, 405, 438, 471, 504, 537, 580, 603, 656, 699, 732, 775, 828, 841, 854, 867, 890], 111) := by decide +kernel
theorem dL_law_144 : decode cL_law 144 = .ok (.aload_n 1, 1) := by decide +kernel
theorem dL_law_145 : decode cL_law 145 = .ok (.aload_n 0, 1) := by decide +kernel
theorem dL_law_146 : decode cL_law 146 = .ok (.iload_n 3, 1) := by decide +kernel
theorem dL_law_147 : decode cL_law 147 = .ok (.iconst 1, 1) := by decide +kernel
theorem dL_law_148 : decode cL_law 148 = .ok (.iadd, 1) := by decide +kernel
theorem dL_law_149 : decode cL_law 149 = .ok (.iaload, 1) := by decide +kernel
theorem dL_law_150 : decode cL_law 150 = .ok (.invokevirtual 13, 3) := by decide +kernel
theorem dL_law_153 : decode cL_law 153 = .ok (.aload_n 2, 1) := by decide +kernel
theorem dL_law_154 : decode cL_law 154 = .ok (.aload_n 0, 1) := by decide +kernel
theorem dL_law_155 : decode cL_law 155 = .ok (.iload_n 3, 1) := by decide +kernel
theorem dL_law_156 : decode cL_law 156 = .ok (.iconst 1, 1) := by decide +kernel
theorem dL_law_157 : decode cL_law 157 = .ok (.iadd, 1) := by decide +kernel
theorem dL_law_158 : decode cL_law 158 = .ok (.iaload, 1) := by decide +kernel
theorem dL_law_159 : decode cL_law 159 = .ok (.invokevirtual 17, 3) := by decide +kernel
theorem dL_law_162 : decode cL_law 162 = .ok (.if_icmp .eq 784, 3) := by decide +kernel
theorem dL_law_165 : decode cL_law 165 = .ok (.iconst 0, 1) := by decide +kernel
theorem dL_law_166 : decode cL_law 166 = .ok (.ireturn, 1) := by decide +kernel
theorem dL_law_167 : decode cL_law 167 = .ok (.aload_n 1, 1) := by decide +kernel
theorem dL_law_168 : decode cL_law 168 = .ok (.aload_n 0, 1) := by decide +kernel
theorem dL_law_169 : decode cL_law 169 = .ok (.iload_n 3, 1) := by decide +kernel
theorem dL_law_170 : decode cL_law 170 = .ok (.iconst 1, 1) := by decide +kernel
theorem dL_law_171 : decode cL_law 171 = .ok (.iadd, 1) := by decide +kernel
theorem dL_law_172 : decode cL_law 172 = .ok (.iaload, 1) := by decide +kernel
theorem dL_law_173 : decode cL_law 173 = .ok (.aload_n 0, 1) := by decide +kernel
theorem dL_law_174 : decode cL_law 174 = .ok (.iload_n 3, 1) := by decide +kernel
theorem dL_law_175 : decode cL_law 175 = .ok (.iconst 2, 1) := by decide +kernel
theorem dL_law_176 : decode cL_law 176 = .ok (.iadd, 1) := by decide +kernel
theorem dL_law_177 : decode cL_law 177 = .ok (.iaload, 1) := by decide +kernel
theorem dL_law_178 : decode cL_law 178 = .ok (.aload_n 0, 1) := by decide +kernel
theorem dL_law_179 : decode cL_law 179 = .ok (.iload_n 3, 1) := by decide +kernel
theorem dL_law_180 : decode cL_law 180 = .ok (.iconst 3, 1) := by decide +kernel
theorem dL_law_181 : decode cL_law 181 = .ok (.iadd, 1) := by decide +kernel
theorem dL_law_182 : decode cL_law 182 = .ok (.iaload, 1) := by decide +kernel
theorem dL_law_183 : decode cL_law 183 = .ok (.aload_n 0, 1) := by decide +kernel
theorem dL_law_184 : decode cL_law 184 = .ok (.iload_n 3, 1) := by decide +kernel
theorem dL_law_185 : decode cL_law 185 = .ok (.iconst 4, 1) := by decide +kernel
theorem dL_law_186 : decode cL_law 186 = .ok (.iadd, 1) := by decide +kernel
theorem dL_law_187 : decode cL_law 187 = .ok (.iaload, 1) := by decide +kernel
theorem dL_law_188 : decode cL_law 188 = .ok (.aload_n 0, 1) := by decide +kernel
theorem dL_law_189 : decode cL_law 189 = .ok (.iload_n 3, 1) := by decide +kernel
theorem dL_law_190 : decode cL_law 190 = .ok (.iconst 5, 1) := by decide +kernel
theorem dL_law_191 : decode cL_law 191 = .ok (.iadd, 1) := by decide +kernel
theorem dL_law_192 : decode cL_law 192 = .ok (.iaload, 1) := by decide +kernel
theorem dL_law_193 : decode cL_law 193 = .ok (.invokevirtual 18, 3) := by decide +kernel
theorem dL_law_196 : decode cL_law 196 = .ok (.aload_n 2, 1) := by decide +kernel
theorem dL_law_197 : decode cL_law 197 = .ok (.aload_n 0, 1) := by decide +kernel
theorem dL_law_198 : decode cL_law 198 = .ok (.iload_n 3, 1) := by decide +kernel
theorem dL_law_199 : decode cL_law 199 = .ok (.iconst 1, 1) := by decide +kernel
theorem dL_law_200 : decode cL_law 200 = .ok (.iadd, 1) := by decide +kernel
theorem dL_law_201 : decode cL_law 201 = .ok (.iaload, 1) := by decide +kernel
theorem dL_law_202 : decode cL_law 202 = .ok (.aload_n 0, 1) := by decide +kernel
theorem dL_law_203 : decode cL_law 203 = .ok (.iload_n 3, 1) := by decide +kernel
theorem dL_law_204 : decode cL_law 204 = .ok (.iconst 2, 1) := by decide +kernel
theorem dL_law_205 : decode cL_law 205 = .ok (.iadd, 1) := by decide +kernel
theorem dL_law_206 : decode cL_law 206 = .ok (.iaload, 1) := by decide +kernel
theorem dL_law_207 : decode cL_law 207 = .ok (.aload_n 0, 1) := by decide +kernel
theorem dL_law_208 : decode cL_law 208 = .ok (.iload_n 3, 1) := by decide +kernel
theorem dL_law_209 : decode cL_law 209 = .ok (.iconst 3, 1) := by decide +kernel
theorem dL_law_210 : decode cL_law 210 = .ok (.iadd, 1) := by decide +kernel
theorem dL_law_211 : decode cL_law 211 = .ok (.iaload, 1) := by decide +kernel
theorem dL_law_212 : decode cL_law 212 = .ok (.aload_n 0, 1) := by decide +kernel
theorem dL_law_213 : decode cL_law 213 = .ok (.iload_n 3, 1) := by decide +kernel
theorem dL_law_214 : decode cL_law 214 = .ok (.iconst 4, 1) := by decide +kernel
theorem dL_law_215 : decode cL_law 215 = .ok (.iadd, 1) := by decide +kernel
theorem dL_law_216 : decode cL_law 216 = .ok (.iaload, 1) := by decide +kernel
theorem dL_law_217 : decode cL_law 217 = .ok (.aload_n 0, 1) := by decide +kernel
theorem dL_law_218 : decode cL_law 218 = .ok (.iload_n 3, 1) := by decide +kernel
theorem dL_law_219 : decode cL_law 219 = .ok (.iconst 5, 1) := by decide +kernel
theorem dL_law_220 : decode cL_law 220 = .ok (.iadd, 1) := by decide +kernel
theorem dL_law_221 : decode cL_law 221 = .ok (.iaload, 1) := by decide +kernel
theorem dL_law_222 : decode cL_law 222 = .ok (.invokevirtual 22, 3) := by decide +kernel
theorem dL_law_225 : decode cL_law 225 = .ok (.if_icmp .eq 721, 3) := by decide +kernel
theorem dL_law_228 : decode cL_law 228 = .ok (.iconst 0, 1) := by decide +kernel
theorem dL_law_229 : decode cL_law 229 = .ok (.ireturn, 1) := by decide +kernel
theorem dL_law_230 : decode cL_law 230 = .ok (.aload_n 1, 1) := by decide +kernel
theorem dL_law_231 : decode cL_law 231 = .ok (.aload_n 0, 1) := by decide +kernel
theorem dL_law_232 : decode cL_law 232 = .ok (.iload_n 3, 1) := by decide +kernel
theorem dL_law_233 : decode cL_law 233 = .ok (.iconst 1, 1) := by decide +kernel
theorem dL_law_234 : decode cL_law 234 = .ok (.iadd, 1) := by decide +kernel
theorem dL_law_235 : decode cL_law 235 = .ok (.iaload, 1) := by decide +kernel
theorem dL_law_236 : decode cL_law 236 = .ok (.aload_n 0, 1) := by decide +kernel
theorem dL_law_237 : decode cL_law 237 = .ok (.iload_n 3, 1) := by decide +kernel
theorem dL_law_238 : decode cL_law 238 = .ok (.iconst 2, 1) := by decide +kernel
theorem dL_law_239 : decode cL_law 239 = .ok (.iadd, 1) := by decide +kernel
theorem dL_law_240 : decode cL_law 240 = .ok (.iaload, 1) := by decide +kernel
theorem dL_law_241 : decode cL_law 241 = .ok (.aload_n 0, 1) := by decide +kernel
theorem dL_law_242 : decode cL_law 242 = .ok (.iload_n 3, 1) := by decide +kernel
theorem dL_law_243 : decode cL_law 243 = .ok (.iconst 3, 1) := by decide +kernel
theorem dL_law_244 : decode cL_law 244 = .ok (.iadd, 1) := by decide +kernel
theorem dL_law_245 : decode cL_law 245 = .ok (.iaload, 1) := by decide +kernel
theorem dL_law_246 : decode cL_law 246 = .ok (.invokevirtual 23, 3) := by decide +kernel
theorem dL_law_249 : decode cL_law 249 = .ok (.aload_n 2, 1) := by decide +kernel
theorem dL_law_250 : decode cL_law 250 = .ok (.aload_n 0, 1) := by decide +kernel
theorem dL_law_251 : decode cL_law 251 = .ok (.iload_n 3, 1) := by decide +kernel
theorem dL_law_252 : decode cL_law 252 = .ok (.iconst 1, 1) := by decide +kernel
theorem dL_law_253 : decode cL_law 253 = .ok (.iadd, 1) := by decide +kernel
theorem dL_law_254 : decode cL_law 254 = .ok (.iaload, 1) := by decide +kernel
theorem dL_law_255 : decode cL_law 255 = .ok (.aload_n 0, 1) := by decide +kernel
theorem dL_law_256 : decode cL_law 256 = .ok (.iload_n 3, 1) := by decide +kernel
theorem dL_law_257 : decode cL_law 257 = .ok (.iconst 2, 1) := by decide +kernel
theorem dL_law_258 : decode cL_law 258 = .ok (.iadd, 1) := by decide +kernel
theorem dL_law_259 : decode cL_law 259 = .ok (.iaload, 1) := by decide +kernel
theorem dL_law_260 : decode cL_law 260 = .ok (.aload_n 0, 1) := by decide +kernel
theorem dL_law_261 : decode cL_law 261 = .ok (.iload_n 3, 1) := by decide +kernel
theorem dL_law_262 : decode cL_law 262 = .ok (.iconst 3, 1) := by decide +kernel
theorem dL_law_263 : decode cL_law 263 = .ok (.iadd, 1) := by decide +kernel
theorem dL_law_264 : decode cL_law 264 = .ok (.iaload, 1) := by decide +kernel
theorem dL_law_265 : decode cL_law 265 = .ok (.invokevirtual 27, 3) := by decide +kernel
theorem dL_law_268 : decode cL_law 268 = .ok (.if_icmp .eq 678, 3) := by decide +kernel
theorem dL_law_271 : decode cL_law 271 = .ok (.iconst 0, 1) := by decide +kernel
theorem dL_law_272 : decode cL_law 272 = .ok (.ireturn, 1) := by decide +kernel
theorem dL_law_273 : decode cL_law 273 = .ok (.aload_n 1, 1) := by decide +kernel
theorem dL_law_274 : decode cL_law 274 = .ok (.aload_n 0, 1) := by decide +kernel
theorem dL_law_275 : decode cL_law 275 = .ok (.iload_n 3, 1) := by decide +kernel
theorem dL_law_276 : decode cL_law 276 = .ok (.iconst 1, 1) := by decide +kernel
theorem dL_law_277 : decode cL_law 277 = .ok (.iadd, 1) := by decide +kernel
theorem dL_law_278 : decode cL_law 278 = .ok (.iaload, 1) := by decide +kernel
theorem dL_law_279 : decode cL_law 279 = .ok (.aload_n 0, 1) := by decide +kernel
theorem dL_law_280 : decode cL_law 280 = .ok (.iload_n 3, 1) := by decide +kernel
theorem dL_law_281 : decode cL_law 281 = .ok (.iconst 2, 1) := by decide +kernel
theorem dL_law_282 : decode cL_law 282 = .ok (.iadd, 1) := by decide +kernel
theorem dL_law_283 : decode cL_law 283 = .ok (.iaload, 1) := by decide +kernel
theorem dL_law_284 : decode cL_law 284 = .ok (.aload_n 0, 1) := by decide +kernel
theorem dL_law_285 : decode cL_law 285 = .ok (.iload_n 3, 1) := by decide +kernel
theorem dL_law_286 : decode cL_law 286 = .ok (.iconst 3, 1) := by decide +kernel
theorem dL_law_287 : decode cL_law 287 = .ok (.iadd, 1) := by decide +kernel
theorem dL_law_288 : decode cL_law 288 = .ok (.iaload, 1) := by decide +kernel
theorem dL_law_289 : decode cL_law 289 = .ok (.aload_n 0, 1) := by decide +kernel
theorem dL_law_290 : decode cL_law 290 = .ok (.iload_n 3, 1) := by decide +kernel
theorem dL_law_291 : decode cL_law 291 = .ok (.iconst 4, 1) := by decide +kernel
theorem dL_law_292 : decode cL_law 292 = .ok (.iadd, 1) := by decide +kernel
theorem dL_law_293 : decode cL_law 293 = .ok (.iaload, 1) := by decide +kernel
theorem dL_law_294 : decode cL_law 294 = .ok (.invokevirtual 28, 3) := by decide +kernel
theorem dL_law_297 : decode cL_law 297 = .ok (.aload_n 2, 1) := by decide +kernel
theorem dL_law_298 : decode cL_law 298 = .ok (.aload_n 0, 1) := by decide +kernel
theorem dL_law_299 : decode cL_law 299 = .ok (.iload_n 3, 1) := by decide +kernel
theorem dL_law_300 : decode cL_law 300 = .ok (.iconst 1, 1) := by decide +kernel
theorem dL_law_301 : decode cL_law 301 = .ok (.iadd, 1) := by decide +kernel
theorem dL_law_302 : decode cL_law 302 = .ok (.iaload, 1) := by decide +kernel
theorem dL_law_303 : decode cL_law 303 = .ok (.aload_n 0, 1) := by decide +kernel
theorem dL_law_304 : decode cL_law 304 = .ok (.iload_n 3, 1) := by decide +kernel
theorem dL_law_305 : decode cL_law 305 = .ok (.iconst 2, 1) := by decide +kernel
theorem dL_law_306 : decode cL_law 306 = .ok (.iadd, 1) := by decide +kernel
theorem dL_law_307 : decode cL_law 307 = .ok (.iaload, 1) := by decide +kernel
theorem dL_law_308 : decode cL_law 308 = .ok (.aload_n 0, 1) := by decide +kernel
theorem dL_law_309 : decode cL_law 309 = .ok (.iload_n 3, 1) := by decide +kernel
theorem dL_law_310 : decode cL_law 310 = .ok (.iconst 3, 1) := by decide +kernel
theorem dL_law_311 : decode cL_law 311 = .ok (.iadd, 1) := by decide +kernel
theorem dL_law_312 : decode cL_law 312 = .ok (.iaload, 1) := by decide +kernel
theorem dL_law_313 : decode cL_law 313 = .ok (.aload_n 0, 1) := by decide +kernel
theorem dL_law_314 : decode cL_law 314 = .ok (.iload_n 3, 1) := by decide +kernel
theorem dL_law_315 : decode cL_law 315 = .ok (.iconst 4, 1) := by decide +kernel
theorem dL_law_316 : decode cL_law 316 = .ok (.iadd, 1) := by decide +kernel
theorem dL_law_317 : decode cL_law 317 = .ok (.iaload, 1) := by decide +kernel
theorem dL_law_318 : decode cL_law 318 = .ok (.invokevirtual 32, 3) := by decide +kernel
theorem dL_law_321 : decode cL_law 321 = .ok (.if_icmp .eq 625, 3) := by decide +kernel
theorem dL_law_324 : decode cL_law 324 = .ok (.iconst 0, 1) := by decide +kernel
theorem dL_law_325 : decode cL_law 325 = .ok (.ireturn, 1) := by decide +kernel
theorem dL_law_326 : decode cL_law 326 = .ok (.aload_n 1, 1) := by decide +kernel
theorem dL_law_327 : decode cL_law 327 = .ok (.aload_n 0, 1) := by decide +kernel
theorem dL_law_328 : decode cL_law 328 = .ok (.iload_n 3, 1) := by decide +kernel
theorem dL_law_329 : decode cL_law 329 = .ok (.iconst 1, 1) := by decide +kernel
theorem dL_law_330 : decode cL_law 330 = .ok (.iadd, 1) := by decide +kernel
theorem dL_law_331 : decode cL_law 331 = .ok (.iaload, 1) := by decide +kernel
theorem dL_law_332 : decode cL_law 332 = .ok (.aload_n 0, 1) := by decide +kernel
theorem dL_law_333 : decode cL_law 333 = .ok (.iload_n 3, 1) := by decide +kernel
theorem dL_law_334 : decode cL_law 334 = .ok (.iconst 2, 1) := by decide +kernel
theorem dL_law_335 : decode cL_law 335 = .ok (.iadd, 1) := by decide +kernel
theorem dL_law_336 : decode cL_law 336 = .ok (.iaload, 1) := by decide +kernel
theorem dL_law_337 : decode cL_law 337 = .ok (.aload_n 0, 1) := by decide +kernel
theorem dL_law_338 : decode cL_law 338 = .ok (.iload_n 3, 1) := by decide +kernel
theorem dL_law_339 : decode cL_law 339 = .ok (.iconst 3, 1) := by decide +kernel
theorem dL_law_340 : decode cL_law 340 = .ok (.iadd, 1) := by decide +kernel
theorem dL_law_341 : decode cL_law 341 = .ok (.iaload, 1) := by decide +kernel
theorem dL_law_342 : decode cL_law 342 = .ok (.invokevirtual 33, 3) := by decide +kernel
theorem dL_law_345 : decode cL_law 345 = .ok (.aload_n 2, 1) := by decide +kernel
theorem dL_law_346 : decode cL_law 346 = .ok (.aload_n 0, 1) := by decide +kernel
theorem dL_law_347 : decode cL_law 347 = .ok (.iload_n 3, 1) := by decide +kernel
theorem dL_law_348 : decode cL_law 348 = .ok (.iconst 1, 1) := by decide +kernel
theorem dL_law_349 : decode cL_law 349 = .ok (.iadd, 1) := by decide +kernel
theorem dL_law_350 : decode cL_law 350 = .ok (.iaload, 1) := by decide +kernel
theorem dL_law_351 : decode cL_law 351 = .ok (.aload_n 0, 1) := by decide +kernel
theorem dL_law_352 : decode cL_law 352 = .ok (.iload_n 3, 1) := by decide +kernel
theorem dL_law_353 : decode cL_law 353 = .ok (.iconst 2, 1) := by decide +kernel
theorem dL_law_354 : decode cL_law 354 = .ok (.iadd, 1) := by decide +kernel
theorem dL_law_355 : decode cL_law 355 = .ok (.iaload, 1) := by decide +kernel
theorem dL_law_356 : decode cL_law 356 = .ok (.aload_n 0, 1) := by decide +kernel
theorem dL_law_357 : decode cL_law 357 = .ok (.iload_n 3, 1) := by decide +kernel
theorem dL_law_358 : decode cL_law 358 = .ok (.iconst 3, 1) := by decide +kernel
theorem dL_law_359 : decode cL_law 359 = .ok (.iadd, 1) := by decide +kernel
theorem dL_law_360 : decode cL_law 360 = .ok (.iaload, 1) := by decide +kernel
theorem dL_law_361 : decode cL_law 361 = .ok (.invokevirtual 36, 3) := by decide +kernel
theorem dL_law_364 : decode cL_law 364 = .ok (.if_icmp .eq 582, 3) := by decide +kernel
theorem dL_law_367 : decode cL_law 367 = .ok (.iconst 0, 1) := by decide +kernel
theorem dL_law_368 : decode cL_law 368 = .ok (.ireturn, 1) := by decide +kernel
theorem dL_law_369 : decode cL_law 369 = .ok (.aload_n 1, 1) := by decide +kernel
theorem dL_law_370 : decode cL_law 370 = .ok (.aload_n 0, 1) := by decide +kernel
theorem dL_law_371 : decode cL_law 371 = .ok (.iload_n 3, 1) := by decide +kernel
theorem dL_law_372 : decode cL_law 372 = .ok (.iconst 1, 1) := by decide +kernel
theorem dL_law_373 : decode cL_law 373 = .ok (.iadd, 1) := by decide +kernel
theorem dL_law_374 : decode cL_law 374 = .ok (.iaload, 1) := by decide +kernel
theorem dL_law_375 : decode cL_law 375 = .ok (.invokevirtual 37, 3) := by decide +kernel
theorem dL_law_378 : decode cL_law 378 = .ok (.aload_n 2, 1) := by decide +kernel
theorem dL_law_379 : decode cL_law 379 = .ok (.aload_n 0, 1) := by decide +kernel
theorem dL_law_380 : decode cL_law 380 = .ok (.iload_n 3, 1) := by decide +kernel
theorem dL_law_381 : decode cL_law 381 = .ok (.iconst 1, 1) := by decide +kernel
theorem dL_law_382 : decode cL_law 382 = .ok (.iadd, 1) := by decide +kernel
theorem dL_law_383 : decode cL_law 383 = .ok (.iaload, 1) := by decide +kernel
theorem dL_law_384 : decode cL_law 384 = .ok (.invokevirtual 40, 3) := by decide +kernel
theorem dL_law_387 : decode cL_law 387 = .ok (.if_icmp .eq 559, 3) := by decide +kernel
theorem dL_law_390 : decode cL_law 390 = .ok (.iconst 0, 1) := by decide +kernel
theorem dL_law_391 : decode cL_law 391 = .ok (.ireturn, 1) := by decide +kernel
theorem dL_law_392 : decode cL_law 392 = .ok (.aload_n 1, 1) := by decide +kernel
theorem dL_law_393 : decode cL_law 393 = .ok (.aload_n 0, 1) := by decide +kernel
theorem dL_law_394 : decode cL_law 394 = .ok (.iload_n 3, 1) := by decide +kernel
theorem dL_law_395 : decode cL_law 395 = .ok (.iconst 1, 1) := by decide +kernel
theorem dL_law_396 : decode cL_law 396 = .ok (.iadd, 1) := by decide +kernel
theorem dL_law_397 : decode cL_law 397 = .ok (.iaload, 1) := by decide +kernel
theorem dL_law_398 : decode cL_law 398 = .ok (.invokevirtual 41, 3) := by decide +kernel
theorem dL_law_401 : decode cL_law 401 = .ok (.aload_n 2, 1) := by decide +kernel
theorem dL_law_402 : decode cL_law 402 = .ok (.aload_n 0, 1) := by decide +kernel
theorem dL_law_403 : decode cL_law 403 = .ok (.iload_n 3, 1) := by decide +kernel
theorem dL_law_404 : decode cL_law 404 = .ok (.iconst 1, 1) := by decide +kernel
theorem dL_law_405 : decode cL_law 405 = .ok (.iadd, 1) := by decide +kernel
theorem dL_law_406 : decode cL_law 406 = .ok (.iaload, 1) := by decide +kernel
theorem dL_law_407 : decode cL_law 407 = .ok (.invokevirtual 44, 3) := by decide +kernel
theorem dL_law_410 : decode cL_law 410 = .ok (.if_icmp .eq 536, 3) := by decide +kernel
theorem dL_law_413 : decode cL_law 413 = .ok (.iconst 0, 1) := by decide +kernel
theorem dL_law_414 : decode cL_law 414 = .ok (.ireturn, 1) := by decide +kernel
theorem dL_law_415 : decode cL_law 415 = .ok (.aload_n 1, 1) := by decide +kernel
theorem dL_law_416 : decode cL_law 416 = .ok (.aload_n 0, 1) := by decide +kernel
theorem dL_law_417 : decode cL_law 417 = .ok (.iload_n 3, 1) := by decide +kernel
theorem dL_law_418 : decode cL_law 418 = .ok (.iconst 1, 1) := by decide +kernel
theorem dL_law_419 : decode cL_law 419 = .ok (.iadd, 1) := by decide +kernel
theorem dL_law_420 : decode cL_law 420 = .ok (.iaload, 1) := by decide +kernel
theorem dL_law_421 : decode cL_law 421 = .ok (.invokevirtual 45, 3) := by decide +kernel
theorem dL_law_424 : decode cL_law 424 = .ok (.aload_n 2, 1) := by decide +kernel
theorem dL_law_425 : decode cL_law 425 = .ok (.aload_n 0, 1) := by decide +kernel
theorem dL_law_426 : decode cL_law 426 = .ok (.iload_n 3, 1) := by decide +kernel
theorem dL_law_427 : decode cL_law 427 = .ok (.iconst 1, 1) := by decide +kernel
theorem dL_law_428 : decode cL_law 428 = .ok (.iadd, 1) := by decide +kernel
theorem dL_law_429 : decode cL_law 429 = .ok (.iaload, 1) := by decide +kernel
theorem dL_law_430 : decode cL_law 430 = .ok (.invokevirtual 48, 3) := by decide +kernel
theorem dL_law_433 : decode cL_law 433 = .ok (.if_icmp .eq 513, 3) := by decide +kernel
theorem dL_law_436 : decode cL_law 436 = .ok (.iconst 0, 1) := by decide +kernel
theorem dL_law_437 : decode cL_law 437 = .ok (.ireturn, 1) := by decide +kernel
theorem dL_law_438 : decode cL_law 438 = .ok (.aload_n 1, 1) := by decide +kernel
theorem dL_law_439 : decode cL_law 439 = .ok (.aload_n 0, 1) := by decide +kernel
theorem dL_law_440 : decode cL_law 440 = .ok (.iload_n 3, 1) := by decide +kernel
theorem dL_law_441 : decode cL_law 441 = .ok (.iconst 1, 1) := by decide +kernel
theorem dL_law_442 : decode cL_law 442 = .ok (.iadd, 1) := by decide +kernel
theorem dL_law_443 : decode cL_law 443 = .ok (.iaload, 1) := by decide +kernel
theorem dL_law_444 : decode cL_law 444 = .ok (.aload_n 0, 1) := by decide +kernel
theorem dL_law_445 : decode cL_law 445 = .ok (.iload_n 3, 1) := by decide +kernel
theorem dL_law_446 : decode cL_law 446 = .ok (.iconst 2, 1) := by decide +kernel
theorem dL_law_447 : decode cL_law 447 = .ok (.iadd, 1) := by decide +kernel
theorem dL_law_448 : decode cL_law 448 = .ok (.iaload, 1) := by decide +kernel
theorem dL_law_449 : decode cL_law 449 = .ok (.invokevirtual 49, 3) := by decide +kernel
theorem dL_law_452 : decode cL_law 452 = .ok (.aload_n 2, 1) := by decide +kernel
theorem dL_law_453 : decode cL_law 453 = .ok (.aload_n 0, 1) := by decide +kernel
theorem dL_law_454 : decode cL_law 454 = .ok (.iload_n 3, 1) := by decide +kernel
theorem dL_law_455 : decode cL_law 455 = .ok (.iconst 1, 1) := by decide +kernel
theorem dL_law_456 : decode cL_law 456 = .ok (.iadd, 1) := by decide +kernel
theorem dL_law_457 : decode cL_law 457 = .ok (.iaload, 1) := by decide +kernel
theorem dL_law_458 : decode cL_law 458 = .ok (.aload_n 0, 1) := by decide +kernel
theorem dL_law_459 : decode cL_law 459 = .ok (.iload_n 3, 1) := by decide +kernel
theorem dL_law_460 : decode cL_law 460 = .ok (.iconst 2, 1) := by decide +kernel
theorem dL_law_461 : decode cL_law 461 = .ok (.iadd, 1) := by decide +kernel
theorem dL_law_462 : decode cL_law 462 = .ok (.iaload, 1) := by decide +kernel
theorem dL_law_463 : decode cL_law 463 = .ok (.invokevirtual 53, 3) := by decide +kernel
theorem dL_law_466 : decode cL_law 466 = .ok (.if_icmp .eq 480, 3) := by decide +kernel
theorem dL_law_469 : decode cL_law 469 = .ok (.iconst 0, 1) := by decide +kernel
theorem dL_law_470 : decode cL_law 470 = .ok (.ireturn, 1) := by decide +kernel
theorem dL_law_471 : decode cL_law 471 = .ok (.aload_n 1, 1) := by decide +kernel
theorem dL_law_472 : decode cL_law 472 = .ok (.aload_n 0, 1) := by decide +kernel
theorem dL_law_473 : decode cL_law 473 = .ok (.iload_n 3, 1) := by decide +kernel
theorem dL_law_474 : decode cL_law 474 = .ok (.iconst 1, 1) := by decide +kernel
theorem dL_law_475 : decode cL_law 475 = .ok (.iadd, 1) := by decide +kernel
theorem dL_law_476 : decode cL_law 476 = .ok (.iaload, 1) := by decide +kernel
theorem dL_law_477 : decode cL_law 477 = .ok (.aload_n 0, 1) := by decide +kernel
theorem dL_law_478 : decode cL_law 478 = .ok (.iload_n 3, 1) := by decide +kernel
theorem dL_law_479 : decode cL_law 479 = .ok (.iconst 2, 1) := by decide +kernel
theorem dL_law_480 : decode cL_law 480 = .ok (.iadd, 1) := by decide +kernel
theorem dL_law_481 : decode cL_law 481 = .ok (.iaload, 1) := by decide +kernel
theorem dL_law_482 : decode cL_law 482 = .ok (.invokevirtual 54, 3) := by decide +kernel
theorem dL_law_485 : decode cL_law 485 = .ok (.aload_n 2, 1) := by decide +kernel
theorem dL_law_486 : decode cL_law 486 = .ok (.aload_n 0, 1) := by decide +kernel
theorem dL_law_487 : decode cL_law 487 = .ok (.iload_n 3, 1) := by decide +kernel
theorem dL_law_488 : decode cL_law 488 = .ok (.iconst 1, 1) := by decide +kernel
theorem dL_law_489 : decode cL_law 489 = .ok (.iadd, 1) := by decide +kernel
theorem dL_law_490 : decode cL_law 490 = .ok (.iaload, 1) := by decide +kernel
theorem dL_law_491 : decode cL_law 491 = .ok (.aload_n 0, 1) := by decide +kernel
theorem dL_law_492 : decode cL_law 492 = .ok (.iload_n 3, 1) := by decide +kernel
theorem dL_law_493 : decode cL_law 493 = .ok (.iconst 2, 1) := by decide +kernel
theorem dL_law_494 : decode cL_law 494 = .ok (.iadd, 1) := by decide +kernel
theorem dL_law_495 : decode cL_law 495 = .ok (.iaload, 1) := by decide +kernel
theorem dL_law_496 : decode cL_law 496 = .ok (.invokevirtual 57, 3) := by decide +kernel
theorem dL_law_499 : decode cL_law 499 = .ok (.if_icmp .eq 447, 3) := by decide +kernel
theorem dL_law_502 : decode cL_law 502 = .ok (.iconst 0, 1) := by decide +kernel
theorem dL_law_503 : decode cL_law 503 = .ok (.ireturn, 1) := by decide +kernel
theorem dL_law_504 : decode cL_law 504 = .ok (.aload_n 1, 1) := by decide +kernel
theorem dL_law_505 : decode cL_law 505 = .ok (.aload_n 0, 1) := by decide +kernel
theorem dL_law_506 : decode cL_law 506 = .ok (.iload_n 3, 1) := by decide +kernel
theorem dL_law_507 : decode cL_law 507 = .ok (.iconst 1, 1) := by decide +kernel
theorem dL_law_508 : decode cL_law 508 = .ok (.iadd, 1) := by decide +kernel
theorem dL_law_509 : decode cL_law 509 = .ok (.iaload, 1) := by decide +kernel
theorem dL_law_510 : decode cL_law 510 = .ok (.aload_n 0, 1) := by decide +kernel
theorem dL_law_511 : decode cL_law 511 = .ok (.iload_n 3, 1) := by decide +kernel
theorem dL_law_512 : decode cL_law 512 = .ok (.iconst 2, 1) := by decide +kernel
theorem dL_law_513 : decode cL_law 513 = .ok (.iadd, 1) := by decide +kernel
theorem dL_law_514 : decode cL_law 514 = .ok (.iaload, 1) := by decide +kernel
theorem dL_law_515 : decode cL_law 515 = .ok (.invokevirtual 58, 3) := by decide +kernel
theorem dL_law_518 : decode cL_law 518 = .ok (.aload_n 2, 1) := by decide +kernel
theorem dL_law_519 : decode cL_law 519 = .ok (.aload_n 0, 1) := by decide +kernel
theorem dL_law_520 : decode cL_law 520 = .ok (.iload_n 3, 1) := by decide +kernel
theorem dL_law_521 : decode cL_law 521 = .ok (.iconst 1, 1) := by decide +kernel
theorem dL_law_522 : decode cL_law 522 = .ok (.iadd, 1) := by decide +kernel
theorem dL_law_523 : decode cL_law 523 = .ok (.iaload, 1) := by decide +kernel
theorem dL_law_524 : decode cL_law 524 = .ok (.aload_n 0, 1) := by decide +kernel
theorem dL_law_525 : decode cL_law 525 = .ok (.iload_n 3, 1) := by decide +kernel
theorem dL_law_526 : decode cL_law 526 = .ok (.iconst 2, 1) := by decide +kernel
theorem dL_law_527 : decode cL_law 527 = .ok (.iadd, 1) := by decide +kernel
theorem dL_law_528 : decode cL_law 528 = .ok (.iaload, 1) := by decide +kernel
theorem dL_law_529 : decode cL_law 529 = .ok (.invokevirtual 61, 3) := by decide +kernel
theorem dL_law_532 : decode cL_law 532 = .ok (.if_icmp .eq 414, 3) := by decide +kernel
theorem dL_law_535 : decode cL_law 535 = .ok (.iconst 0, 1) := by decide +kernel
theorem dL_law_536 : decode cL_law 536 = .ok (.ireturn, 1) := by decide +kernel
theorem dL_law_537 : decode cL_law 537 = .ok (.aload_n 1, 1) := by decide +kernel
theorem dL_law_538 : decode cL_law 538 = .ok (.aload_n 0, 1) := by decide +kernel
theorem dL_law_539 : decode cL_law 539 = .ok (.iload_n 3, 1) := by decide +kernel
theorem dL_law_540 : decode cL_law 540 = .ok (.iconst 1, 1) := by decide +kernel
theorem dL_law_541 : decode cL_law 541 = .ok (.iadd, 1) := by decide +kernel
theorem dL_law_542 : decode cL_law 542 = .ok (.iaload, 1) := by decide +kernel
theorem dL_law_543 : decode cL_law 543 = .ok (.aload_n 0, 1) := by decide +kernel
theorem dL_law_544 : decode cL_law 544 = .ok (.iload_n 3, 1) := by decide +kernel
theorem dL_law_545 : decode cL_law 545 = .ok (.iconst 2, 1) := by decide +kernel
theorem dL_law_546 : decode cL_law 546 = .ok (.iadd, 1) := by decide +kernel
theorem dL_law_547 : decode cL_law 547 = .ok (.iaload, 1) := by decide +kernel
theorem dL_law_548 : decode cL_law 548 = .ok (.invokevirtual 62, 3) := by decide +kernel
theorem dL_law_551 : decode cL_law 551 = .ok (.aload_n 2, 1) := by decide +kernel
theorem dL_law_552 : decode cL_law 552 = .ok (.aload_n 0, 1) := by decide +kernel
theorem dL_law_553 : decode cL_law 553 = .ok (.iload_n 3, 1) := by decide +kernel
theorem dL_law_554 : decode cL_law 554 = .ok (.iconst 1, 1) := by decide +kernel
theorem dL_law_555 : decode cL_law 555 = .ok (.iadd, 1) := by decide +kernel
theorem dL_law_556 : decode cL_law 556 = .ok (.iaload, 1) := by decide +kernel
theorem dL_law_557 : decode cL_law 557 = .ok (.aload_n 0, 1) := by decide +kernel
theorem dL_law_558 : decode cL_law 558 = .ok (.iload_n 3, 1) := by decide +kernel
theorem dL_law_559 : decode cL_law 559 = .ok (.iconst 2, 1) := by decide +kernel
theorem dL_law_560 : decode cL_law 560 = .ok (.iadd, 1) := by decide +kernel
theorem dL_law_561 : decode cL_law 561 = .ok (.iaload, 1) := by decide +kernel
theorem dL_law_562 : decode cL_law 562 = .ok (.invokevirtual 65, 3) := by decide +kernel
theorem dL_law_565 : decode cL_law 565 = .ok (.if_icmp .eq 381, 3) := by decide +kernel
theorem dL_law_568 : decode cL_law 568 = .ok (.iconst 0, 1) := by decide +kernel
theorem dL_law_569 : decode cL_law 569 = .ok (.ireturn, 1) := by decide +kernel
theorem dL_law_570 : decode cL_law 570 = .ok (.aload_n 1, 1) := by decide +kernel
theorem dL_law_571 : decode cL_law 571 = .ok (.aload_n 0, 1) := by decide +kernel
theorem dL_law_572 : decode cL_law 572 = .ok (.iload_n 3, 1) := by decide +kernel
theorem dL_law_573 : decode cL_law 573 = .ok (.iconst 1, 1) := by decide +kernel
theorem dL_law_574 : decode cL_law 574 = .ok (.iadd, 1) := by decide +kernel
theorem dL_law_575 : decode cL_law 575 = .ok (.iaload, 1) := by decide +kernel
theorem dL_law_576 : decode cL_law 576 = .ok (.aload_n 0, 1) := by decide +kernel
theorem dL_law_577 : decode cL_law 577 = .ok (.iload_n 3, 1) := by decide +kernel
theorem dL_law_578 : decode cL_law 578 = .ok (.iconst 2, 1) := by decide +kernel
theorem dL_law_579 : decode cL_law 579 = .ok (.iadd, 1) := by decide +kernel
theorem dL_law_580 : decode cL_law 580 = .ok (.iaload, 1) := by decide +kernel
theorem dL_law_581 : decode cL_law 581 = .ok (.aload_n 0, 1) := by decide +kernel
theorem dL_law_582 : decode cL_law 582 = .ok (.iload_n 3, 1) := by decide +kernel
theorem dL_law_583 : decode cL_law 583 = .ok (.iconst 3, 1) := by decide +kernel
theorem dL_law_584 : decode cL_law 584 = .ok (.iadd, 1) := by decide +kernel
theorem dL_law_585 : decode cL_law 585 = .ok (.iaload, 1) := by decide +kernel
theorem dL_law_586 : decode cL_law 586 = .ok (.invokevirtual 66, 3) := by decide +kernel
theorem dL_law_589 : decode cL_law 589 = .ok (.aload_n 2, 1) := by decide +kernel
theorem dL_law_590 : decode cL_law 590 = .ok (.aload_n 0, 1) := by decide +kernel
theorem dL_law_591 : decode cL_law 591 = .ok (.iload_n 3, 1) := by decide +kernel
theorem dL_law_592 : decode cL_law 592 = .ok (.iconst 1, 1) := by decide +kernel
theorem dL_law_593 : decode cL_law 593 = .ok (.iadd, 1) := by decide +kernel
theorem dL_law_594 : decode cL_law 594 = .ok (.iaload, 1) := by decide +kernel
theorem dL_law_595 : decode cL_law 595 = .ok (.aload_n 0, 1) := by decide +kernel
theorem dL_law_596 : decode cL_law 596 = .ok (.iload_n 3, 1) := by decide +kernel
theorem dL_law_597 : decode cL_law 597 = .ok (.iconst 2, 1) := by decide +kernel
theorem dL_law_598 : decode cL_law 598 = .ok (.iadd, 1) := by decide +kernel
theorem dL_law_599 : decode cL_law 599 = .ok (.iaload, 1) := by decide +kernel
theorem dL_law_600 : decode cL_law 600 = .ok (.aload_n 0, 1) := by decide +kernel
theorem dL_law_601 : decode cL_law 601 = .ok (.iload_n 3, 1) := by decide +kernel
theorem dL_law_602 : decode cL_law 602 = .ok (.iconst 3, 1) := by decide +kernel
theorem dL_law_603 : decode cL_law 603 = .ok (.iadd, 1) := by decide +kernel
theorem dL_law_604 : decode cL_law 604 = .ok (.iaload, 1) := by decide +kernel
theorem dL_law_605 : decode cL_law 605 = .ok (.invokevirtual 69, 3) := by decide +kernel
theorem dL_law_608 : decode cL_law 608 = .ok (.if_icmp .eq 338, 3) := by decide +kernel
theorem dL_law_611 : decode cL_law 611 = .ok (.iconst 0, 1) := by decide +kernel
theorem dL_law_612 : decode cL_law 612 = .ok (.ireturn, 1) := by decide +kernel
theorem dL_law_613 : decode cL_law 613 = .ok (.aload_n 1, 1) := by decide +kernel
theorem dL_law_614 : decode cL_law 614 = .ok (.aload_n 0, 1) := by decide +kernel
theorem dL_law_615 : decode cL_law 615 = .ok (.iload_n 3, 1) := by decide +kernel
theorem dL_law_616 : decode cL_law 616 = .ok (.iconst 1, 1) := by decide +kernel
theorem dL_law_617 : decode cL_law 617 = .ok (.iadd, 1) := by decide +kernel
theorem dL_law_618 : decode cL_law 618 = .ok (.iaload, 1) := by decide +kernel
theorem dL_law_619 : decode cL_law 619 = .ok (.invokevirtual 70, 3) := by decide +kernel
theorem dL_law_622 : decode cL_law 622 = .ok (.aload_n 2, 1) := by decide +kernel
theorem dL_law_623 : decode cL_law 623 = .ok (.aload_n 0, 1) := by decide +kernel
theorem dL_law_624 : decode cL_law 624 = .ok (.iload_n 3, 1) := by decide +kernel
theorem dL_law_625 : decode cL_law 625 = .ok (.iconst 1, 1) := by decide +kernel
theorem dL_law_626 : decode cL_law 626 = .ok (.iadd, 1) := by decide +kernel
theorem dL_law_627 : decode cL_law 627 = .ok (.iaload, 1) := by decide +kernel
theorem dL_law_628 : decode cL_law 628 = .ok (.invokevirtual 73, 3) := by decide +kernel
theorem dL_law_631 : decode cL_law 631 = .ok (.if_icmp .eq 315, 3) := by decide +kernel
theorem dL_law_634 : decode cL_law 634 = .ok (.iconst 0, 1) := by decide +kernel
theorem dL_law_635 : decode cL_law 635 = .ok (.ireturn, 1) := by decide +kernel
theorem dL_law_636 : decode cL_law 636 = .ok (.aload_n 1, 1) := by decide +kernel
theorem dL_law_637 : decode cL_law 637 = .ok (.aload_n 0, 1) := by decide +kernel
theorem dL_law_638 : decode cL_law 638 = .ok (.iload_n 3, 1) := by decide +kernel
theorem dL_law_639 : decode cL_law 639 = .ok (.iconst 1, 1) := by decide +kernel
theorem dL_law_640 : decode cL_law 640 = .ok (.iadd, 1) := by decide +kernel
theorem dL_law_641 : decode cL_law 641 = .ok (.iaload, 1) := by decide +kernel
theorem dL_law_642 : decode cL_law 642 = .ok (.aload_n 0, 1) := by decide +kernel
theorem dL_law_643 : decode cL_law 643 = .ok (.iload_n 3, 1) := by decide +kernel
theorem dL_law_644 : decode cL_law 644 = .ok (.iconst 2, 1) := by decide +kernel
theorem dL_law_645 : decode cL_law 645 = .ok (.iadd, 1) := by decide +kernel
theorem dL_law_646 : decode cL_law 646 = .ok (.iaload, 1) := by decide +kernel
theorem dL_law_647 : decode cL_law 647 = .ok (.aload_n 0, 1) := by decide +kernel
theorem dL_law_648 : decode cL_law 648 = .ok (.iload_n 3, 1) := by decide +kernel
theorem dL_law_649 : decode cL_law 649 = .ok (.iconst 3, 1) := by decide +kernel
theorem dL_law_650 : decode cL_law 650 = .ok (.iadd, 1) := by decide +kernel
theorem dL_law_651 : decode cL_law 651 = .ok (.iaload, 1) := by decide +kernel
theorem dL_law_652 : decode cL_law 652 = .ok (.aload_n 0, 1) := by decide +kernel
theorem dL_law_653 : decode cL_law 653 = .ok (.iload_n 3, 1) := by decide +kernel
theorem dL_law_654 : decode cL_law 654 = .ok (.iconst 4, 1) := by decide +kernel
theorem dL_law_655 : decode cL_law 655 = .ok (.iadd, 1) := by decide +kernel
theorem dL_law_656 : decode cL_law 656 = .ok (.iaload, 1) := by decide +kernel
theorem dL_law_657 : decode cL_law 657 = .ok (.invokevirtual 74, 3) := by decide +kernel
theorem dL_law_660 : decode cL_law 660 = .ok (.aload_n 2, 1) := by decide +kernel
theorem dL_law_661 : decode cL_law 661 = .ok (.aload_n 0, 1) := by decide +kernel
theorem dL_law_662 : decode cL_law 662 = .ok (.iload_n 3, 1) := by decide +kernel
theorem dL_law_663 : decode cL_law 663 = .ok (.iconst 1, 1) := by decide +kernel
theorem dL_law_664 : decode cL_law 664 = .ok (.iadd, 1) := by decide +kernel
theorem dL_law_665 : decode cL_law 665 = .ok (.iaload, 1) := by decide +kernel
theorem dL_law_666 : decode cL_law 666 = .ok (.aload_n 0, 1) := by decide +kernel
theorem dL_law_667 : decode cL_law 667 = .ok (.iload_n 3, 1) := by decide +kernel
theorem dL_law_668 : decode cL_law 668 = .ok (.iconst 2, 1) := by decide +kernel
theorem dL_law_669 : decode cL_law 669 = .ok (.iadd, 1) := by decide +kernel
theorem dL_law_670 : decode cL_law 670 = .ok (.iaload, 1) := by decide +kernel
theorem dL_law_671 : decode cL_law 671 = .ok (.aload_n 0, 1) := by decide +kernel
theorem dL_law_672 : decode cL_law 672 = .ok (.iload_n 3, 1) := by decide +kernel
theorem dL_law_673 : decode cL_law 673 = .ok (.iconst 3, 1) := by decide +kernel
theorem dL_law_674 : decode cL_law 674 = .ok (.iadd, 1) := by decide +kernel
theorem dL_law_675 : decode cL_law 675 = .ok (.iaload, 1) := by decide +kernel
theorem dL_law_676 : decode cL_law 676 = .ok (.aload_n 0, 1) := by decide +kernel
theorem dL_law_677 : decode cL_law 677 = .ok (.iload_n 3, 1) := by decide +kernel
theorem dL_law_678 : decode cL_law 678 = .ok (.iconst 4, 1) := by decide +kernel
theorem dL_law_679 : decode cL_law 679 = .ok (.iadd, 1) := by decide +kernel
theorem dL_law_680 : decode cL_law 680 = .ok (.iaload, 1) := by decide +kernel
theorem dL_law_681 : decode cL_law 681 = .ok (.invokevirtual 77, 3) := by decide +kernel
theorem dL_law_684 : decode cL_law 684 = .ok (.if_icmp .eq 262, 3) := by decide +kernel
theorem dL_law_687 : decode cL_law 687 = .ok (.iconst 0, 1) := by decide +kernel
theorem dL_law_688 : decode cL_law 688 = .ok (.ireturn, 1) := by decide +kernel
theorem dL_law_689 : decode cL_law 689 = .ok (.aload_n 1, 1) := by decide +kernel
theorem dL_law_690 : decode cL_law 690 = .ok (.aload_n 0, 1) := by decide +kernel
theorem dL_law_691 : decode cL_law 691 = .ok (.iload_n 3, 1) := by decide +kernel
theorem dL_law_692 : decode cL_law 692 = .ok (.iconst 1, 1) := by decide +kernel
theorem dL_law_693 : decode cL_law 693 = .ok (.iadd, 1) := by decide +kernel
theorem dL_law_694 : decode cL_law 694 = .ok (.iaload, 1) := by decide +kernel
theorem dL_law_695 : decode cL_law 695 = .ok (.aload_n 0, 1) := by decide +kernel
theorem dL_law_696 : decode cL_law 696 = .ok (.iload_n 3, 1) := by decide +kernel
theorem dL_law_697 : decode cL_law 697 = .ok (.iconst 2, 1) := by decide +kernel
theorem dL_law_698 : decode cL_law 698 = .ok (.iadd, 1) := by decide +kernel
theorem dL_law_699 : decode cL_law 699 = .ok (.iaload, 1) := by decide +kernel
theorem dL_law_700 : decode cL_law 700 = .ok (.aload_n 0, 1) := by decide +kernel
theorem dL_law_701 : decode cL_law 701 = .ok (.iload_n 3, 1) := by decide +kernel
theorem dL_law_702 : decode cL_law 702 = .ok (.iconst 3, 1) := by decide +kernel
theorem dL_law_703 : decode cL_law 703 = .ok (.iadd, 1) := by decide +kernel
theorem dL_law_704 : decode cL_law 704 = .ok (.iaload, 1) := by decide +kernel
theorem dL_law_705 : decode cL_law 705 = .ok (.invokevirtual 78, 3) := by decide +kernel
theorem dL_law_708 : decode cL_law 708 = .ok (.aload_n 2, 1) := by decide +kernel
theorem dL_law_709 : decode cL_law 709 = .ok (.aload_n 0, 1) := by decide +kernel
theorem dL_law_710 : decode cL_law 710 = .ok (.iload_n 3, 1) := by decide +kernel
theorem dL_law_711 : decode cL_law 711 = .ok (.iconst 1, 1) := by decide +kernel
theorem dL_law_712 : decode cL_law 712 = .ok (.iadd, 1) := by decide +kernel
theorem dL_law_713 : decode cL_law 713 = .ok (.iaload, 1) := by decide +kernel
theorem dL_law_714 : decode cL_law 714 = .ok (.aload_n 0, 1) := by decide +kernel
theorem dL_law_715 : decode cL_law 715 = .ok (.iload_n 3, 1) := by decide +kernel
theorem dL_law_716 : decode cL_law 716 = .ok (.iconst 2, 1) := by decide +kernel
theorem dL_law_717 : decode cL_law 717 = .ok (.iadd, 1) := by decide +kernel
theorem dL_law_718 : decode cL_law 718 = .ok (.iaload, 1) := by decide +kernel
theorem dL_law_719 : decode cL_law 719 = .ok (.aload_n 0, 1) := by decide +kernel
theorem dL_law_720 : decode cL_law 720 = .ok (.iload_n 3, 1) := by decide +kernel
theorem dL_law_721 : decode cL_law 721 = .ok (.iconst 3, 1) := by decide +kernel
theorem dL_law_722 : decode cL_law 722 = .ok (.iadd, 1) := by decide +kernel
theorem dL_law_723 : decode cL_law 723 = .ok (.iaload, 1) := by decide +kernel
theorem dL_law_724 : decode cL_law 724 = .ok (.invokevirtual 81, 3) := by decide +kernel
theorem dL_law_727 : decode cL_law 727 = .ok (.if_icmp .eq 219, 3) := by decide +kernel
theorem dL_law_730 : decode cL_law 730 = .ok (.iconst 0, 1) := by decide +kernel
theorem dL_law_731 : decode cL_law 731 = .ok (.ireturn, 1) := by decide +kernel
theorem dL_law_732 : decode cL_law 732 = .ok (.aload_n 1, 1) := by decide +kernel
theorem dL_law_733 : decode cL_law 733 = .ok (.aload_n 0, 1) := by decide +kernel
theorem dL_law_734 : decode cL_law 734 = .ok (.iload_n 3, 1) := by decide +kernel
theorem dL_law_735 : decode cL_law 735 = .ok (.iconst 1, 1) := by decide +kernel
theorem dL_law_736 : decode cL_law 736 = .ok (.iadd, 1) := by decide +kernel
theorem dL_law_737 : decode cL_law 737 = .ok (.iaload, 1) := by decide +kernel
theorem dL_law_738 : decode cL_law 738 = .ok (.aload_n 0, 1) := by decide +kernel
theorem dL_law_739 : decode cL_law 739 = .ok (.iload_n 3, 1) := by decide +kernel
theorem dL_law_740 : decode cL_law 740 = .ok (.iconst 2, 1) := by decide +kernel
theorem dL_law_741 : decode cL_law 741 = .ok (.iadd, 1) := by decide +kernel
theorem dL_law_742 : decode cL_law 742 = .ok (.iaload, 1) := by decide +kernel
theorem dL_law_743 : decode cL_law 743 = .ok (.invokevirtual 82, 3) := by decide +kernel
theorem dL_law_746 : decode cL_law 746 = .ok (.aload_n 2, 1) := by decide +kernel
theorem dL_law_747 : decode cL_law 747 = .ok (.aload_n 0, 1) := by decide +kernel
theorem dL_law_748 : decode cL_law 748 = .ok (.iload_n 3, 1) := by decide +kernel
theorem dL_law_749 : decode cL_law 749 = .ok (.iconst 1, 1) := by decide +kernel
theorem dL_law_750 : decode cL_law 750 = .ok (.iadd, 1) := by decide +kernel
theorem dL_law_751 : decode cL_law 751 = .ok (.iaload, 1) := by decide +kernel
theorem dL_law_752 : decode cL_law 752 = .ok (.aload_n 0, 1) := by decide +kernel
theorem dL_law_753 : decode cL_law 753 = .ok (.iload_n 3, 1) := by decide +kernel
theorem dL_law_754 : decode cL_law 754 = .ok (.iconst 2, 1) := by decide +kernel
theorem dL_law_755 : decode cL_law 755 = .ok (.iadd, 1) := by decide +kernel
theorem dL_law_756 : decode cL_law 756 = .ok (.iaload, 1) := by decide +kernel
theorem dL_law_757 : decode cL_law 757 = .ok (.invokevirtual 85, 3) := by decide +kernel
theorem dL_law_760 : decode cL_law 760 = .ok (.if_icmp .eq 186, 3) := by decide +kernel
theorem dL_law_763 : decode cL_law 763 = .ok (.iconst 0, 1) := by decide +kernel
theorem dL_law_764 : decode cL_law 764 = .ok (.ireturn, 1) := by decide +kernel
theorem dL_law_765 : decode cL_law 765 = .ok (.aload_n 1, 1) := by decide +kernel
theorem dL_law_766 : decode cL_law 766 = .ok (.aload_n 0, 1) := by decide +kernel
theorem dL_law_767 : decode cL_law 767 = .ok (.iload_n 3, 1) := by decide +kernel
theorem dL_law_768 : decode cL_law 768 = .ok (.iconst 1, 1) := by decide +kernel
theorem dL_law_769 : decode cL_law 769 = .ok (.iadd, 1) := by decide +kernel
theorem dL_law_770 : decode cL_law 770 = .ok (.iaload, 1) := by decide +kernel
theorem dL_law_771 : decode cL_law 771 = .ok (.aload_n 0, 1) := by decide +kernel
theorem dL_law_772 : decode cL_law 772 = .ok (.iload_n 3, 1) := by decide +kernel
theorem dL_law_773 : decode cL_law 773 = .ok (.iconst 2, 1) := by decide +kernel
theorem dL_law_774 : decode cL_law 774 = .ok (.iadd, 1) := by decide +kernel
theorem dL_law_775 : decode cL_law 775 = .ok (.iaload, 1) := by decide +kernel
theorem dL_law_776 : decode cL_law 776 = .ok (.aload_n 0, 1) := by decide +kernel
theorem dL_law_777 : decode cL_law 777 = .ok (.iload_n 3, 1) := by decide +kernel
theorem dL_law_778 : decode cL_law 778 = .ok (.iconst 3, 1) := by decide +kernel
theorem dL_law_779 : decode cL_law 779 = .ok (.iadd, 1) := by decide +kernel
theorem dL_law_780 : decode cL_law 780 = .ok (.iaload, 1) := by decide +kernel
theorem dL_law_781 : decode cL_law 781 = .ok (.invokevirtual 86, 3) := by decide +kernel
theorem dL_law_784 : decode cL_law 784 = .ok (.aload_n 2, 1) := by decide +kernel
theorem dL_law_785 : decode cL_law 785 = .ok (.aload_n 0, 1) := by decide +kernel
theorem dL_law_786 : decode cL_law 786 = .ok (.iload_n 3, 1) := by decide +kernel
theorem dL_law_787 : decode cL_law 787 = .ok (.iconst 1, 1) := by decide +kernel
theorem dL_law_788 : decode cL_law 788 = .ok (.iadd, 1) := by decide +kernel
theorem dL_law_789 : decode cL_law 789 = .ok (.iaload, 1) := by decide +kernel
theorem dL_law_790 : decode cL_law 790 = .ok (.aload_n 0, 1) := by decide +kernel
theorem dL_law_791 : decode cL_law 791 = .ok (.iload_n 3, 1) := by decide +kernel
theorem dL_law_792 : decode cL_law 792 = .ok (.iconst 2, 1) := by decide +kernel
theorem dL_law_793 : decode cL_law 793 = .ok (.iadd, 1) := by decide +kernel
theorem dL_law_794 : decode cL_law 794 = .ok (.iaload, 1) := by decide +kernel
theorem dL_law_795 : decode cL_law 795 = .ok (.aload_n 0, 1) := by decide +kernel
theorem dL_law_796 : decode cL_law 796 = .ok (.iload_n 3, 1) := by decide +kernel
theorem dL_law_797 : decode cL_law 797 = .ok (.iconst 3, 1) := by decide +kernel
theorem dL_law_798 : decode cL_law 798 = .ok (.iadd, 1) := by decide +kernel
theorem dL_law_799 : decode cL_law 799 = .ok (.iaload, 1) := by decide +kernel
theorem dL_law_800 : decode cL_law 800 = .ok (.invokevirtual 89, 3) := by decide +kernel
theorem dL_law_803 : decode cL_law 803 = .ok (.if_icmp .eq 143, 3) := by decide +kernel
theorem dL_law_806 : decode cL_law 806 = .ok (.iconst 0, 1) := by decide +kernel
theorem dL_law_807 : decode cL_law 807 = .ok (.ireturn, 1) := by decide +kernel
theorem dL_law_808 : decode cL_law 808 = .ok (.aload_n 1, 1) := by decide +kernel
theorem dL_law_809 : decode cL_law 809 = .ok (.aload_n 0, 1) := by decide +kernel
theorem dL_law_810 : decode cL_law 810 = .ok (.iload_n 3, 1) := by decide +kernel
theorem dL_law_811 : decode cL_law 811 = .ok (.iconst 1, 1) := by decide +kernel
theorem dL_law_812 : decode cL_law 812 = .ok (.iadd, 1) := by decide +kernel
theorem dL_law_813 : decode cL_law 813 = .ok (.iaload, 1) := by decide +kernel
theorem dL_law_814 : decode cL_law 814 = .ok (.i2l, 1) := by decide +kernel
theorem dL_law_815 : decode cL_law 815 = .ok (.bipush 32, 2) := by decide +kernel
theorem dL_law_817 : decode cL_law 817 = .ok (.lshl, 1) := by decide +kernel
theorem dL_law_818 : decode cL_law 818 = .ok (.aload_n 0, 1) := by decide +kernel
theorem dL_law_819 : decode cL_law 819 = .ok (.iload_n 3, 1) := by decide +kernel
theorem dL_law_820 : decode cL_law 820 = .ok (.iconst 2, 1) := by decide +kernel
theorem dL_law_821 : decode cL_law 821 = .ok (.iadd, 1) := by decide +kernel
theorem dL_law_822 : decode cL_law 822 = .ok (.iaload, 1) := by decide +kernel
theorem dL_law_823 : decode cL_law 823 = .ok (.i2l, 1) := by decide +kernel
theorem dL_law_824 : decode cL_law 824 = .ok (.ldc2_w 90, 3) := by decide +kernel
theorem dL_law_827 : decode cL_law 827 = .ok (.land, 1) := by decide +kernel
theorem dL_law_828 : decode cL_law 828 = .ok (.lor, 1) := by decide +kernel
theorem dL_law_829 : decode cL_law 829 = .ok (.invokevirtual 92, 3) := by decide +kernel
theorem dL_law_832 : decode cL_law 832 = .ok (.aload_n 2, 1) := by decide +kernel
theorem dL_law_833 : decode cL_law 833 = .ok (.aload_n 0, 1) := by decide +kernel
theorem dL_law_834 : decode cL_law 834 = .ok (.iload_n 3, 1) := by decide +kernel
theorem dL_law_835 : decode cL_law 835 = .ok (.iconst 1, 1) := by decide +kernel
theorem dL_law_836 : decode cL_law 836 = .ok (.iadd, 1) := by decide +kernel
theorem dL_law_837 : decode cL_law 837 = .ok (.iaload, 1) := by decide +kernel
theorem dL_law_838 : decode cL_law 838 = .ok (.i2l, 1) := by decide +kernel
theorem dL_law_839 : decode cL_law 839 = .ok (.bipush 32, 2) := by decide +kernel
theorem dL_law_841 : decode cL_law 841 = .ok (.lshl, 1) := by decide +kernel
theorem dL_law_842 : decode cL_law 842 = .ok (.aload_n 0, 1) := by decide +kernel
theorem dL_law_843 : decode cL_law 843 = .ok (.iload_n 3, 1) := by decide +kernel
theorem dL_law_844 : decode cL_law 844 = .ok (.iconst 2, 1) := by decide +kernel
theorem dL_law_845 : decode cL_law 845 = .ok (.iadd, 1) := by decide +kernel
theorem dL_law_846 : decode cL_law 846 = .ok (.iaload, 1) := by decide +kernel
theorem dL_law_847 : decode cL_law 847 = .ok (.i2l, 1) := by decide +kernel
theorem dL_law_848 : decode cL_law 848 = .ok (.ldc2_w 90, 3) := by decide +kernel
theorem dL_law_851 : decode cL_law 851 = .ok (.land, 1) := by decide +kernel
theorem dL_law_852 : decode cL_law 852 = .ok (.lor, 1) := by decide +kernel
theorem dL_law_853 : decode cL_law 853 = .ok (.invokevirtual 96, 3) := by decide +kernel
theorem dL_law_856 : decode cL_law 856 = .ok (.if_icmp .eq 90, 3) := by decide +kernel
theorem dL_law_859 : decode cL_law 859 = .ok (.iconst 0, 1) := by decide +kernel
theorem dL_law_860 : decode cL_law 860 = .ok (.ireturn, 1) := by decide +kernel
theorem dL_law_861 : decode cL_law 861 = .ok (.aload_n 1, 1) := by decide +kernel
theorem dL_law_862 : decode cL_law 862 = .ok (.invokevirtual 97, 3) := by decide +kernel
theorem dL_law_865 : decode cL_law 865 = .ok (.aload_n 2, 1) := by decide +kernel
theorem dL_law_866 : decode cL_law 866 = .ok (.invokevirtual 101, 3) := by decide +kernel
theorem dL_law_869 : decode cL_law 869 = .ok (.if_icmp .eq 77, 3) := by decide +kernel
theorem dL_law_872 : decode cL_law 872 = .ok (.iconst 0, 1) := by decide +kernel
theorem dL_law_873 : decode cL_law 873 = .ok (.ireturn, 1) := by decide +kernel
theorem dL_law_874 : decode cL_law 874 = .ok (.aload_n 1, 1) := by decide +kernel
theorem dL_law_875 : decode cL_law 875 = .ok (.invokevirtual 102, 3) := by decide +kernel
theorem dL_law_878 : decode cL_law 878 = .ok (.aload_n 2, 1) := by decide +kernel
theorem dL_law_879 : decode cL_law 879 = .ok (.invokevirtual 105, 3) := by decide +kernel
theorem dL_law_882 : decode cL_law 882 = .ok (.if_icmp .eq 64, 3) := by decide +kernel
theorem dL_law_885 : decode cL_law 885 = .ok (.iconst 0, 1) := by decide +kernel
theorem dL_law_886 : decode cL_law 886 = .ok (.ireturn, 1) := by decide +kernel
theorem dL_law_887 : decode cL_law 887 = .ok (.aload_n 1, 1) := by decide +kernel
theorem dL_law_888 : decode cL_law 888 = .ok (.invokevirtual 106, 3) := by decide +kernel
theorem dL_law_891 : decode cL_law 891 = .ok (.aload_n 2, 1) := by decide +kernel
theorem dL_law_892 : decode cL_law 892 = .ok (.invokevirtual 109, 3) := by decide +kernel
theorem dL_law_895 : decode cL_law 895 = .ok (.if_icmp .eq 51, 3) := by decide +kernel
theorem dL_law_898 : decode cL_law 898 = .ok (.iconst 0, 1) := by decide +kernel
theorem dL_law_899 : decode cL_law 899 = .ok (.ireturn, 1) := by decide +kernel
theorem dL_law_900 : decode cL_law 900 = .ok (.aload_n 1, 1) := by decide +kernel
theorem dL_law_901 : decode cL_law 901 = .ok (.aload_n 0, 1) := by decide +kernel
theorem dL_law_902 : decode cL_law 902 = .ok (.iload_n 3, 1) := by decide +kernel
theorem dL_law_903 : decode cL_law 903 = .ok (.iconst 1, 1) := by decide +kernel
theorem dL_law_904 : decode cL_law 904 = .ok (.iadd, 1) := by decide +kernel
theorem dL_law_905 : decode cL_law 905 = .ok (.iaload, 1) := by decide +kernel
theorem dL_law_906 : decode cL_law 906 = .ok (.invokevirtual 110, 3) := by decide +kernel
theorem dL_law_909 : decode cL_law 909 = .ok (.aload_n 2, 1) := by decide +kernel
theorem dL_law_910 : decode cL_law 910 = .ok (.aload_n 0, 1) := by decide +kernel
theorem dL_law_911 : decode cL_law 911 = .ok (.iload_n 3, 1) := by decide +kernel
theorem dL_law_912 : decode cL_law 912 = .ok (.iconst 1, 1) := by decide +kernel
theorem dL_law_913 : decode cL_law 913 = .ok (.iadd, 1) := by decide +kernel
theorem dL_law_914 : decode cL_law 914 = .ok (.iaload, 1) := by decide +kernel
theorem dL_law_915 : decode cL_law 915 = .ok (.invokevirtual 113, 3) := by decide +kernel
theorem dL_law_918 : decode cL_law 918 = .ok (.if_icmp .eq 28, 3) := by decide +kernel
theorem dL_law_921 : decode cL_law 921 = .ok (.iconst 0, 1) := by decide +kernel
theorem dL_law_922 : decode cL_law 922 = .ok (.ireturn, 1) := by decide +kernel
theorem dL_law_923 : decode cL_law 923 = .ok (.aload_n 1, 1) := by decide +kernel
theorem dL_law_924 : decode cL_law 924 = .ok (.aload_n 0, 1) := by decide +kernel
theorem dL_law_925 : decode cL_law 925 = .ok (.iload_n 3, 1) := by decide +kernel
theorem dL_law_926 : decode cL_law 926 = .ok (.iconst 1, 1) := by decide +kernel
theorem dL_law_927 : decode cL_law 927 = .ok (.iadd, 1) := by decide +kernel
theorem dL_law_928 : decode cL_law 928 = .ok (.iaload, 1) := by decide +kernel
theorem dL_law_929 : decode cL_law 929 = .ok (.invokevirtual 114, 3) := by decide +kernel
theorem dL_law_932 : decode cL_law 932 = .ok (.aload_n 2, 1) := by decide +kernel
theorem dL_law_933 : decode cL_law 933 = .ok (.aload_n 0, 1) := by decide +kernel
theorem dL_law_934 : decode cL_law 934 = .ok (.iload_n 3, 1) := by decide +kernel
theorem dL_law_935 : decode cL_law 935 = .ok (.iconst 1, 1) := by decide +kernel
theorem dL_law_936 : decode cL_law 936 = .ok (.iadd, 1) := by decide +kernel
theorem dL_law_937 : decode cL_law 937 = .ok (.iaload, 1) := by decide +kernel
theorem dL_law_938 : decode cL_law 938 = .ok (.invokevirtual 117, 3) := by decide +kernel
theorem dL_law_941 : decode cL_law 941 = .ok (.if_icmp .eq 5, 3) := by decide +kernel
theorem dL_law_944 : decode cL_law 944 = .ok (.iconst 0, 1) := by decide +kernel
theorem dL_law_945 : decode cL_law 945 = .ok (.ireturn, 1) := by decide +kernel
theorem dL_law_946 : decode cL_law 946 = .ok (.iinc 3 6, 3) := by decide +kernel
theorem dL_law_949 : decode cL_law 949 = .ok (.goto (-931), 3) := by decide +kernel
theorem dL_law_952 : decode cL_law 952 = .ok (.iconst 1, 1) := by decide +kernel
theorem dL_law_953 : decode cL_law 953 = .ok (.ireturn, 1) := by decide +kernel
