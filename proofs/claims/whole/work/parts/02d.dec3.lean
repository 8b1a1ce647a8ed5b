theorem dX11_worth_13 : decode cX11_worth 13 = .ok (.ifCond .eq 28, 3) := by decide +kernel
theorem dX11_worth_16 : decode cX11_worth 16 = .ok (.iload_n 3, 1) := by decide +kernel
theorem dX11_worth_17 : decode cX11_worth 17 = .ok (.i2l, 1) := by decide +kernel
theorem dX11_worth_18 : decode cX11_worth 18 = .ok (.lconst 0, 1) := by decide +kernel
theorem dX11_worth_19 : decode cX11_worth 19 = .ok (.ldc2_w 98, 3) := by decide +kernel
theorem dX11_worth_22 : decode cX11_worth 22 = .ok (.invokestatic 80, 3) := by decide +kernel
theorem dX11_worth_25 : decode cX11_worth 25 = .ok (.ifCond .eq 16, 3) := by decide +kernel
theorem dX11_worth_28 : decode cX11_worth 28 = .ok (.iload 4, 2) := by decide +kernel
theorem dX11_worth_30 : decode cX11_worth 30 = .ok (.i2l, 1) := by decide +kernel
theorem dX11_worth_31 : decode cX11_worth 31 = .ok (.lconst 0, 1) := by decide +kernel
theorem dX11_worth_32 : decode cX11_worth 32 = .ok (.ldc2_w 100, 3) := by decide +kernel
theorem dX11_worth_35 : decode cX11_worth 35 = .ok (.invokestatic 80, 3) := by decide +kernel
theorem dX11_worth_38 : decode cX11_worth 38 = .ok (.ifCond .ne 6, 3) := by decide +kernel
theorem dX11_worth_41 : decode cX11_worth 41 = .ok (.bipush (-2), 2) := by decide +kernel
theorem dX11_worth_43 : decode cX11_worth 43 = .ok (.ireturn, 1) := by decide +kernel
theorem dX11_worth_44 : decode cX11_worth 44 = .ok (.aload_n 0, 1) := by decide +kernel
theorem dX11_worth_45 : decode cX11_worth 45 = .ok (.getfield 7, 3) := by decide +kernel
theorem dX11_worth_48 : decode cX11_worth 48 = .ok (.iconst 5, 1) := by decide +kernel
theorem dX11_worth_49 : decode cX11_worth 49 = .ok (.bipush 6, 2) := by decide +kernel
theorem dX11_worth_51 : decode cX11_worth 51 = .ok (.iload_n 1, 1) := by decide +kernel
theorem dX11_worth_52 : decode cX11_worth 52 = .ok (.imul, 1) := by decide +kernel
theorem dX11_worth_53 : decode cX11_worth 53 = .ok (.iadd, 1) := by decide +kernel
theorem dX11_worth_54 : decode cX11_worth 54 = .ok (.iconst 2, 1) := by decide +kernel
theorem dX11_worth_55 : decode cX11_worth 55 = .ok (.iload_n 2, 1) := by decide +kernel
theorem dX11_worth_56 : decode cX11_worth 56 = .ok (.imul, 1) := by decide +kernel
theorem dX11_worth_57 : decode cX11_worth 57 = .ok (.iadd, 1) := by decide +kernel
theorem dX11_worth_58 : decode cX11_worth 58 = .ok (.iload_n 3, 1) := by decide +kernel
theorem dX11_worth_59 : decode cX11_worth 59 = .ok (.iastore, 1) := by decide +kernel
theorem dX11_worth_60 : decode cX11_worth 60 = .ok (.aload_n 0, 1) := by decide +kernel
theorem dX11_worth_61 : decode cX11_worth 61 = .ok (.getfield 7, 3) := by decide +kernel
theorem dX11_worth_64 : decode cX11_worth 64 = .ok (.iconst 5, 1) := by decide +kernel
theorem dX11_worth_65 : decode cX11_worth 65 = .ok (.bipush 6, 2) := by decide +kernel
theorem dX11_worth_67 : decode cX11_worth 67 = .ok (.iload_n 1, 1) := by decide +kernel
theorem dX11_worth_68 : decode cX11_worth 68 = .ok (.imul, 1) := by decide +kernel
theorem dX11_worth_69 : decode cX11_worth 69 = .ok (.iadd, 1) := by decide +kernel
theorem dX11_worth_70 : decode cX11_worth 70 = .ok (.iconst 2, 1) := by decide +kernel
theorem dX11_worth_71 : decode cX11_worth 71 = .ok (.iload_n 2, 1) := by decide +kernel
theorem dX11_worth_72 : decode cX11_worth 72 = .ok (.imul, 1) := by decide +kernel
theorem dX11_worth_73 : decode cX11_worth 73 = .ok (.iadd, 1) := by decide +kernel
theorem dX11_worth_74 : decode cX11_worth 74 = .ok (.iconst 1, 1) := by decide +kernel
theorem dX11_worth_75 : decode cX11_worth 75 = .ok (.iadd, 1) := by decide +kernel
theorem dX11_worth_76 : decode cX11_worth 76 = .ok (.iload 4, 2) := by decide +kernel
theorem dX11_worth_78 : decode cX11_worth 78 = .ok (.iastore, 1) := by decide +kernel
theorem dX11_worth_79 : decode cX11_worth 79 = .ok (.iconst 1, 1) := by decide +kernel
theorem dX11_worth_80 : decode cX11_worth 80 = .ok (.ireturn, 1) := by decide +kernel
theorem dX11_set_0 : decode cX11_set 0 = .ok (.iload_n 1, 1) := by decide +kernel
theorem dX11_set_1 : decode cX11_set 1 = .ok (.i2l, 1) := by decide +kernel
theorem dX11_set_2 : decode cX11_set 2 = .ok (.lconst 0, 1) := by decide +kernel
theorem dX11_set_3 : decode cX11_set 3 = .ok (.ldc2_w 102, 3) := by decide +kernel
theorem dX11_set_6 : decode cX11_set 6 = .ok (.invokestatic 80, 3) := by decide +kernel
theorem dX11_set_9 : decode cX11_set 9 = .ok (.ifCond .eq 36, 3) := by decide +kernel
theorem dX11_set_12 : decode cX11_set 12 = .ok (.iload_n 2, 1) := by decide +kernel
theorem dX11_set_13 : decode cX11_set 13 = .ok (.i2l, 1) := by decide +kernel
theorem dX11_set_14 : decode cX11_set 14 = .ok (.lconst 0, 1) := by decide +kernel
theorem dX11_set_15 : decode cX11_set 15 = .ok (.iload_n 1, 1) := by decide +kernel
theorem dX11_set_16 : decode cX11_set 16 = .ok (.ifCond .ne 9, 3) := by decide +kernel
theorem dX11_set_19 : decode cX11_set 19 = .ok (.ldc2_w 104, 3) := by decide +kernel
theorem dX11_set_22 : decode cX11_set 22 = .ok (.goto 17, 3) := by decide +kernel
theorem dX11_set_25 : decode cX11_set 25 = .ok (.iload_n 1, 1) := by decide +kernel
theorem dX11_set_26 : decode cX11_set 26 = .ok (.iconst 2, 1) := by decide +kernel
theorem dX11_set_27 : decode cX11_set 27 = .ok (.if_icmp .ne 9, 3) := by decide +kernel
theorem dX11_set_30 : decode cX11_set 30 = .ok (.ldc2_w 98, 3) := by decide +kernel
theorem dX11_set_33 : decode cX11_set 33 = .ok (.goto 6, 3) := by decide +kernel
theorem dX11_set_36 : decode cX11_set 36 = .ok (.ldc2_w 106, 3) := by decide +kernel
theorem dX11_set_39 : decode cX11_set 39 = .ok (.invokestatic 80, 3) := by decide +kernel
theorem dX11_set_42 : decode cX11_set 42 = .ok (.ifCond .ne 6, 3) := by decide +kernel
theorem dX11_set_45 : decode cX11_set 45 = .ok (.bipush (-2), 2) := by decide +kernel
theorem dX11_set_47 : decode cX11_set 47 = .ok (.ireturn, 1) := by decide +kernel
theorem dX11_set_48 : decode cX11_set 48 = .ok (.aload_n 0, 1) := by decide +kernel
theorem dX11_set_49 : decode cX11_set 49 = .ok (.getfield 7, 3) := by decide +kernel
theorem dX11_set_52 : decode cX11_set 52 = .ok (.bipush 53, 2) := by decide +kernel
theorem dX11_set_54 : decode cX11_set 54 = .ok (.iload_n 1, 1) := by decide +kernel
theorem dX11_set_55 : decode cX11_set 55 = .ok (.iadd, 1) := by decide +kernel
theorem dX11_set_56 : decode cX11_set 56 = .ok (.iaload, 1) := by decide +kernel
theorem dX11_set_57 : decode cX11_set 57 = .ok (.istore_n 3, 1) := by decide +kernel
theorem dX11_set_58 : decode cX11_set 58 = .ok (.aload_n 0, 1) := by decide +kernel
theorem dX11_set_59 : decode cX11_set 59 = .ok (.getfield 7, 3) := by decide +kernel
theorem dX11_set_62 : decode cX11_set 62 = .ok (.bipush 53, 2) := by decide +kernel
theorem dX11_set_64 : decode cX11_set 64 = .ok (.iload_n 1, 1) := by decide +kernel
theorem dX11_set_65 : decode cX11_set 65 = .ok (.iadd, 1) := by decide +kernel
theorem dX11_set_66 : decode cX11_set 66 = .ok (.iload_n 2, 1) := by decide +kernel
theorem dX11_set_67 : decode cX11_set 67 = .ok (.iastore, 1) := by decide +kernel
theorem dX11_set_68 : decode cX11_set 68 = .ok (.iload_n 3, 1) := by decide +kernel
theorem dX11_set_69 : decode cX11_set 69 = .ok (.ireturn, 1) := by decide +kernel
theorem dX11_isRule_0 : decode cX11_isRule 0 = .ok (.iload_n 0, 1) := by decide +kernel
theorem dX11_isRule_1 : decode cX11_isRule 1 = .ok (.i2l, 1) := by decide +kernel
theorem dX11_isRule_2 : decode cX11_isRule 2 = .ok (.lconst 0, 1) := by decide +kernel
theorem dX11_isRule_3 : decode cX11_isRule 3 = .ok (.ldc2_w 106, 3) := by decide +kernel
theorem dX11_isRule_6 : decode cX11_isRule 6 = .ok (.invokestatic 80, 3) := by decide +kernel
theorem dX11_isRule_9 : decode cX11_isRule 9 = .ok (.ireturn, 1) := by decide +kernel
theorem dX11_write_0 : decode cX11_write 0 = .ok (.iload_n 1, 1) := by decide +kernel
theorem dX11_write_1 : decode cX11_write 1 = .ok (.invokestatic 108, 3) := by decide +kernel
theorem dX11_write_4 : decode cX11_write 4 = .ok (.ifCond .eq 15, 3) := by decide +kernel
theorem dX11_write_7 : decode cX11_write 7 = .ok (.iload_n 2, 1) := by decide +kernel
theorem dX11_write_8 : decode cX11_write 8 = .ok (.i2l, 1) := by decide +kernel
theorem dX11_write_9 : decode cX11_write 9 = .ok (.lconst 0, 1) := by decide +kernel
theorem dX11_write_10 : decode cX11_write 10 = .ok (.ldc2_w 111, 3) := by decide +kernel
theorem dX11_write_13 : decode cX11_write 13 = .ok (.invokestatic 80, 3) := by decide +kernel
theorem dX11_write_16 : decode cX11_write 16 = .ok (.ifCond .ne 6, 3) := by decide +kernel
theorem dX11_write_19 : decode cX11_write 19 = .ok (.bipush (-2), 2) := by decide +kernel
theorem dX11_write_21 : decode cX11_write 21 = .ok (.ireturn, 1) := by decide +kernel
theorem dX11_write_22 : decode cX11_write 22 = .ok (.aload_n 0, 1) := by decide +kernel
theorem dX11_write_23 : decode cX11_write 23 = .ok (.getfield 7, 3) := by decide +kernel
theorem dX11_write_26 : decode cX11_write 26 = .ok (.bipush 57, 2) := by decide +kernel
theorem dX11_write_28 : decode cX11_write 28 = .ok (.bipush 41, 2) := by decide +kernel
theorem dX11_write_30 : decode cX11_write 30 = .ok (.iload_n 1, 1) := by decide +kernel
theorem dX11_write_31 : decode cX11_write 31 = .ok (.imul, 1) := by decide +kernel
theorem dX11_write_32 : decode cX11_write 32 = .ok (.iadd, 1) := by decide +kernel
theorem dX11_write_33 : decode cX11_write 33 = .ok (.iaload, 1) := by decide +kernel
theorem dX11_write_34 : decode cX11_write 34 = .ok (.istore_n 3, 1) := by decide +kernel
theorem dX11_write_35 : decode cX11_write 35 = .ok (.iload_n 3, 1) := by decide +kernel
theorem dX11_write_36 : decode cX11_write 36 = .ok (.bipush 40, 2) := by decide +kernel
theorem dX11_write_38 : decode cX11_write 38 = .ok (.if_icmp .ne 6, 3) := by decide +kernel
theorem dX11_write_41 : decode cX11_write 41 = .ok (.bipush (-4), 2) := by decide +kernel
theorem dX11_write_43 : decode cX11_write 43 = .ok (.ireturn, 1) := by decide +kernel
theorem dX11_write_44 : decode cX11_write 44 = .ok (.aload_n 0, 1) := by decide +kernel
theorem dX11_write_45 : decode cX11_write 45 = .ok (.getfield 7, 3) := by decide +kernel
theorem dX11_write_48 : decode cX11_write 48 = .ok (.bipush 57, 2) := by decide +kernel
theorem dX11_write_50 : decode cX11_write 50 = .ok (.bipush 41, 2) := by decide +kernel
theorem dX11_write_52 : decode cX11_write 52 = .ok (.iload_n 1, 1) := by decide +kernel
theorem dX11_write_53 : decode cX11_write 53 = .ok (.imul, 1) := by decide +kernel
theorem dX11_write_54 : decode cX11_write 54 = .ok (.iadd, 1) := by decide +kernel
theorem dX11_write_55 : decode cX11_write 55 = .ok (.iconst 1, 1) := by decide +kernel
theorem dX11_write_56 : decode cX11_write 56 = .ok (.iadd, 1) := by decide +kernel
theorem dX11_write_57 : decode cX11_write 57 = .ok (.iload_n 3, 1) := by decide +kernel
theorem dX11_write_58 : decode cX11_write 58 = .ok (.iadd, 1) := by decide +kernel
theorem dX11_write_59 : decode cX11_write 59 = .ok (.iload_n 2, 1) := by decide +kernel
theorem dX11_write_60 : decode cX11_write 60 = .ok (.iastore, 1) := by decide +kernel
theorem dX11_write_61 : decode cX11_write 61 = .ok (.aload_n 0, 1) := by decide +kernel
theorem dX11_write_62 : decode cX11_write 62 = .ok (.getfield 7, 3) := by decide +kernel
theorem dX11_write_65 : decode cX11_write 65 = .ok (.bipush 57, 2) := by decide +kernel
theorem dX11_write_67 : decode cX11_write 67 = .ok (.bipush 41, 2) := by decide +kernel
theorem dX11_write_69 : decode cX11_write 69 = .ok (.iload_n 1, 1) := by decide +kernel
theorem dX11_write_70 : decode cX11_write 70 = .ok (.imul, 1) := by decide +kernel
theorem dX11_write_71 : decode cX11_write 71 = .ok (.iadd, 1) := by decide +kernel
theorem dX11_write_72 : decode cX11_write 72 = .ok (.iload_n 3, 1) := by decide +kernel
theorem dX11_write_73 : decode cX11_write 73 = .ok (.iconst 1, 1) := by decide +kernel
theorem dX11_write_74 : decode cX11_write 74 = .ok (.iadd, 1) := by decide +kernel
theorem dX11_write_75 : decode cX11_write 75 = .ok (.iastore, 1) := by decide +kernel
theorem dX11_write_76 : decode cX11_write 76 = .ok (.iload_n 3, 1) := by decide +kernel
theorem dX11_write_77 : decode cX11_write 77 = .ok (.iconst 1, 1) := by decide +kernel
theorem dX11_write_78 : decode cX11_write 78 = .ok (.iadd, 1) := by decide +kernel
theorem dX11_write_79 : decode cX11_write 79 = .ok (.ireturn, 1) := by decide +kernel
theorem dX11_erase_0 : decode cX11_erase 0 = .ok (.iload_n 1, 1) := by decide +kernel
theorem dX11_erase_1 : decode cX11_erase 1 = .ok (.invokestatic 108, 3) := by decide +kernel
theorem dX11_erase_4 : decode cX11_erase 4 = .ok (.ifCond .ne 6, 3) := by decide +kernel
theorem dX11_erase_7 : decode cX11_erase 7 = .ok (.bipush (-2), 2) := by decide +kernel
theorem dX11_erase_9 : decode cX11_erase 9 = .ok (.ireturn, 1) := by decide +kernel
theorem dX11_erase_10 : decode cX11_erase 10 = .ok (.aload_n 0, 1) := by decide +kernel
theorem dX11_erase_11 : decode cX11_erase 11 = .ok (.getfield 7, 3) := by decide +kernel
theorem dX11_erase_14 : decode cX11_erase 14 = .ok (.bipush 57, 2) := by decide +kernel
theorem dX11_erase_16 : decode cX11_erase 16 = .ok (.bipush 41, 2) := by decide +kernel
theorem dX11_erase_18 : decode cX11_erase 18 = .ok (.iload_n 1, 1) := by decide +kernel
theorem dX11_erase_19 : decode cX11_erase 19 = .ok (.imul, 1) := by decide +kernel
theorem dX11_erase_20 : decode cX11_erase 20 = .ok (.iadd, 1) := by decide +kernel
theorem dX11_erase_21 : decode cX11_erase 21 = .ok (.iaload, 1) := by decide +kernel
theorem dX11_erase_22 : decode cX11_erase 22 = .ok (.istore_n 2, 1) := by decide +kernel
theorem dX11_erase_23 : decode cX11_erase 23 = .ok (.aload_n 0, 1) := by decide +kernel
theorem dX11_erase_24 : decode cX11_erase 24 = .ok (.getfield 7, 3) := by decide +kernel
theorem dX11_erase_27 : decode cX11_erase 27 = .ok (.bipush 57, 2) := by decide +kernel
theorem dX11_erase_29 : decode cX11_erase 29 = .ok (.bipush 41, 2) := by decide +kernel
theorem dX11_erase_31 : decode cX11_erase 31 = .ok (.iload_n 1, 1) := by decide +kernel
theorem dX11_erase_32 : decode cX11_erase 32 = .ok (.imul, 1) := by decide +kernel
theorem dX11_erase_33 : decode cX11_erase 33 = .ok (.iadd, 1) := by decide +kernel
theorem dX11_erase_34 : decode cX11_erase 34 = .ok (.iconst 0, 1) := by decide +kernel
theorem dX11_erase_35 : decode cX11_erase 35 = .ok (.iastore, 1) := by decide +kernel
theorem dX11_erase_36 : decode cX11_erase 36 = .ok (.iload_n 2, 1) := by decide +kernel
theorem dX11_erase_37 : decode cX11_erase 37 = .ok (.ireturn, 1) := by decide +kernel
theorem dX11_textLong_0 : decode cX11_textLong 0 = .ok (.aload_n 0, 1) := by decide +kernel
theorem dX11_textLong_1 : decode cX11_textLong 1 = .ok (.getfield 7, 3) := by decide +kernel
theorem dX11_textLong_4 : decode cX11_textLong 4 = .ok (.bipush 57, 2) := by decide +kernel
theorem dX11_textLong_6 : decode cX11_textLong 6 = .ok (.bipush 41, 2) := by decide +kernel
theorem dX11_textLong_8 : decode cX11_textLong 8 = .ok (.aload_n 0, 1) := by decide +kernel
theorem dX11_textLong_9 : decode cX11_textLong 9 = .ok (.getfield 113, 3) := by decide +kernel
theorem dX11_textLong_12 : decode cX11_textLong 12 = .ok (.imul, 1) := by decide +kernel
theorem dX11_textLong_13 : decode cX11_textLong 13 = .ok (.iadd, 1) := by decide +kernel
theorem dX11_textLong_14 : decode cX11_textLong 14 = .ok (.iaload, 1) := by decide +kernel
theorem dX11_textLong_15 : decode cX11_textLong 15 = .ok (.ireturn, 1) := by decide +kernel
theorem dX11_charAt_0 : decode cX11_charAt 0 = .ok (.aload_n 0, 1) := by decide +kernel
theorem dX11_charAt_1 : decode cX11_charAt 1 = .ok (.getfield 7, 3) := by decide +kernel
theorem dX11_charAt_4 : decode cX11_charAt 4 = .ok (.bipush 57, 2) := by decide +kernel
theorem dX11_charAt_6 : decode cX11_charAt 6 = .ok (.bipush 41, 2) := by decide +kernel
theorem dX11_charAt_8 : decode cX11_charAt 8 = .ok (.aload_n 0, 1) := by decide +kernel
theorem dX11_charAt_9 : decode cX11_charAt 9 = .ok (.getfield 113, 3) := by decide +kernel
theorem dX11_charAt_12 : decode cX11_charAt 12 = .ok (.imul, 1) := by decide +kernel
theorem dX11_charAt_13 : decode cX11_charAt 13 = .ok (.iadd, 1) := by decide +kernel
theorem dX11_charAt_14 : decode cX11_charAt 14 = .ok (.iconst 1, 1) := by decide +kernel
theorem dX11_charAt_15 : decode cX11_charAt 15 = .ok (.iadd, 1) := by decide +kernel
theorem dX11_charAt_16 : decode cX11_charAt 16 = .ok (.iload_n 1, 1) := by decide +kernel
theorem dX11_charAt_17 : decode cX11_charAt 17 = .ok (.iadd, 1) := by decide +kernel
theorem dX11_charAt_18 : decode cX11_charAt 18 = .ok (.iaload, 1) := by decide +kernel
theorem dX11_charAt_19 : decode cX11_charAt 19 = .ok (.ireturn, 1) := by decide +kernel
theorem dX11_ahead_0 : decode cX11_ahead 0 = .ok (.aload_n 0, 1) := by decide +kernel
theorem dX11_ahead_1 : decode cX11_ahead 1 = .ok (.getfield 116, 3) := by decide +kernel
theorem dX11_ahead_4 : decode cX11_ahead 4 = .ok (.aload_n 0, 1) := by decide +kernel
theorem dX11_ahead_5 : decode cX11_ahead 5 = .ok (.invokevirtual 119, 3) := by decide +kernel
theorem dX11_ahead_8 : decode cX11_ahead 8 = .ok (.if_icmp .ge 29, 3) := by decide +kernel
theorem dX11_ahead_11 : decode cX11_ahead 11 = .ok (.aload_n 0, 1) := by decide +kernel
theorem dX11_ahead_12 : decode cX11_ahead 12 = .ok (.aload_n 0, 1) := by decide +kernel
theorem dX11_ahead_13 : decode cX11_ahead 13 = .ok (.getfield 116, 3) := by decide +kernel
theorem dX11_ahead_16 : decode cX11_ahead 16 = .ok (.invokevirtual 122, 3) := by decide +kernel
theorem dX11_ahead_19 : decode cX11_ahead 19 = .ok (.bipush 32, 2) := by decide +kernel
theorem dX11_ahead_21 : decode cX11_ahead 21 = .ok (.if_icmp .ne 16, 3) := by decide +kernel
theorem dX11_ahead_24 : decode cX11_ahead 24 = .ok (.aload_n 0, 1) := by decide +kernel
theorem dX11_ahead_25 : decode cX11_ahead 25 = .ok (.dup, 1) := by decide +kernel
theorem dX11_ahead_26 : decode cX11_ahead 26 = .ok (.getfield 116, 3) := by decide +kernel
theorem dX11_ahead_29 : decode cX11_ahead 29 = .ok (.iconst 1, 1) := by decide +kernel
theorem dX11_ahead_30 : decode cX11_ahead 30 = .ok (.iadd, 1) := by decide +kernel
theorem dX11_ahead_31 : decode cX11_ahead 31 = .ok (.putfield 116, 3) := by decide +kernel
theorem dX11_ahead_34 : decode cX11_ahead 34 = .ok (.goto (-34), 3) := by decide +kernel
theorem dX11_ahead_37 : decode cX11_ahead 37 = .ok (.aload_n 0, 1) := by decide +kernel
theorem dX11_ahead_38 : decode cX11_ahead 38 = .ok (.getfield 116, 3) := by decide +kernel
theorem dX11_ahead_41 : decode cX11_ahead 41 = .ok (.aload_n 0, 1) := by decide +kernel
theorem dX11_ahead_42 : decode cX11_ahead 42 = .ok (.invokevirtual 119, 3) := by decide +kernel
theorem dX11_ahead_45 : decode cX11_ahead 45 = .ok (.if_icmp .ge 14, 3) := by decide +kernel
theorem dX11_ahead_48 : decode cX11_ahead 48 = .ok (.aload_n 0, 1) := by decide +kernel
theorem dX11_ahead_49 : decode cX11_ahead 49 = .ok (.aload_n 0, 1) := by decide +kernel
theorem dX11_ahead_50 : decode cX11_ahead 50 = .ok (.getfield 116, 3) := by decide +kernel
theorem dX11_ahead_53 : decode cX11_ahead 53 = .ok (.invokevirtual 122, 3) := by decide +kernel
theorem dX11_ahead_56 : decode cX11_ahead 56 = .ok (.goto 4, 3) := by decide +kernel
theorem dX11_ahead_59 : decode cX11_ahead 59 = .ok (.iconst (-1), 1) := by decide +kernel
theorem dX11_ahead_60 : decode cX11_ahead 60 = .ok (.ireturn, 1) := by decide +kernel
theorem dX11_rank_0 : decode cX11_rank 0 = .ok (.iload_n 0, 1) := by decide +kernel
theorem dX11_rank_1 : decode cX11_rank 1 = .ok (.lookupswitch 93 #[(38, 85), (42, 91), (43, 89), (45, 89), (47, 91), (60, 87), (61, 87), (62, 87), (124, 83)], 83) := by decide +kernel
theorem dX11_rank_84 : decode cX11_rank 84 = .ok (.iconst 1, 1) := by decide +kernel
theorem dX11_rank_85 : decode cX11_rank 85 = .ok (.ireturn, 1) := by decide +kernel
theorem dX11_rank_86 : decode cX11_rank 86 = .ok (.iconst 2, 1) := by decide +kernel
theorem dX11_rank_87 : decode cX11_rank 87 = .ok (.ireturn, 1) := by decide +kernel
theorem dX11_rank_88 : decode cX11_rank 88 = .ok (.iconst 3, 1) := by decide +kernel
theorem dX11_rank_89 : decode cX11_rank 89 = .ok (.ireturn, 1) := by decide +kernel
theorem dX11_rank_90 : decode cX11_rank 90 = .ok (.iconst 4, 1) := by decide +kernel
theorem dX11_rank_91 : decode cX11_rank 91 = .ok (.ireturn, 1) := by decide +kernel
theorem dX11_rank_92 : decode cX11_rank 92 = .ok (.iconst 5, 1) := by decide +kernel
theorem dX11_rank_93 : decode cX11_rank 93 = .ok (.ireturn, 1) := by decide +kernel
theorem dX11_rank_94 : decode cX11_rank 94 = .ok (.iconst 0, 1) := by decide +kernel
theorem dX11_rank_95 : decode cX11_rank 95 = .ok (.ireturn, 1) := by decide +kernel
theorem dX11_workOut_0 : decode cX11_workOut 0 = .ok (.aload_n 0, 1) := by decide +kernel
theorem dX11_workOut_1 : decode cX11_workOut 1 = .ok (.dup, 1) := by decide +kernel
theorem dX11_workOut_2 : decode cX11_workOut 2 = .ok (.getfield 126, 3) := by decide +kernel
theorem dX11_workOut_5 : decode cX11_workOut 5 = .ok (.iconst 1, 1) := by decide +kernel
theorem dX11_workOut_6 : decode cX11_workOut 6 = .ok (.isub, 1) := by decide +kernel
theorem dX11_workOut_7 : decode cX11_workOut 7 = .ok (.putfield 126, 3) := by decide +kernel
theorem dX11_workOut_10 : decode cX11_workOut 10 = .ok (.aload_n 0, 1) := by decide +kernel
theorem dX11_workOut_11 : decode cX11_workOut 11 = .ok (.dup, 1) := by decide +kernel
theorem dX11_workOut_12 : decode cX11_workOut 12 = .ok (.getfield 129, 3) := by decide +kernel
theorem dX11_workOut_15 : decode cX11_workOut 15 = .ok (.iconst 1, 1) := by decide +kernel
theorem dX11_workOut_16 : decode cX11_workOut 16 = .ok (.isub, 1) := by decide +kernel
theorem dX11_workOut_17 : decode cX11_workOut 17 = .ok (.putfield 129, 3) := by decide +kernel
theorem dX11_workOut_20 : decode cX11_workOut 20 = .ok (.aload_n 0, 1) := by decide +kernel
theorem dX11_workOut_21 : decode cX11_workOut 21 = .ok (.getfield 20, 3) := by decide +kernel
theorem dX11_workOut_24 : decode cX11_workOut 24 = .ok (.aload_n 0, 1) := by decide +kernel
theorem dX11_workOut_25 : decode cX11_workOut 25 = .ok (.getfield 129, 3) := by decide +kernel
theorem dX11_workOut_28 : decode cX11_workOut 28 = .ok (.iconst 1, 1) := by decide +kernel
theorem dX11_workOut_29 : decode cX11_workOut 29 = .ok (.isub, 1) := by decide +kernel
theorem dX11_workOut_30 : decode cX11_workOut 30 = .ok (.laload, 1) := by decide +kernel
theorem dX11_workOut_31 : decode cX11_workOut 31 = .ok (.lstore_n 1, 1) := by decide +kernel
theorem dX11_workOut_32 : decode cX11_workOut 32 = .ok (.aload_n 0, 1) := by decide +kernel
theorem dX11_workOut_33 : decode cX11_workOut 33 = .ok (.getfield 20, 3) := by decide +kernel
theorem dX11_workOut_36 : decode cX11_workOut 36 = .ok (.aload_n 0, 1) := by decide +kernel
theorem dX11_workOut_37 : decode cX11_workOut 37 = .ok (.getfield 129, 3) := by decide +kernel
theorem dX11_workOut_40 : decode cX11_workOut 40 = .ok (.laload, 1) := by decide +kernel
theorem dX11_workOut_41 : decode cX11_workOut 41 = .ok (.lstore_n 3, 1) := by decide +kernel
theorem dX11_workOut_42 : decode cX11_workOut 42 = .ok (.lconst 0, 1) := by decide +kernel
theorem dX11_workOut_43 : decode cX11_workOut 43 = .ok (.lstore 5, 2) := by decide +kernel
theorem dX11_workOut_45 : decode cX11_workOut 45 = .ok (.aload_n 0, 1) := by decide +kernel
theorem dX11_workOut_46 : decode cX11_workOut 46 = .ok (.getfield 24, 3) := by decide +kernel
theorem dX11_workOut_49 : decode cX11_workOut 49 = .ok (.aload_n 0, 1) := by decide +kernel
theorem dX11_workOut_50 : decode cX11_workOut 50 = .ok (.getfield 126, 3) := by decide +kernel
theorem dX11_workOut_53 : decode cX11_workOut 53 = .ok (.iaload, 1) := by decide +kernel
theorem dX11_workOut_54 : decode cX11_workOut 54 = .ok (.lookupswitch 190 #[(38, 96), (42, 182), (43, 166), (45, 174), (60, 118), (61, 150), (62, 134), (124, 74)], 74) := by decide +kernel
theorem dX11_workOut_128 : decode cX11_workOut 128 = .ok (.lload_n 1, 1) := by decide +kernel
theorem dX11_workOut_129 : decode cX11_workOut 129 = .ok (.lconst 0, 1) := by decide +kernel
theorem dX11_workOut_130 : decode cX11_workOut 130 = .ok (.lcmp, 1) := by decide +kernel
theorem dX11_workOut_131 : decode cX11_workOut 131 = .ok (.ifCond .ne 9, 3) := by decide +kernel
theorem dX11_workOut_134 : decode cX11_workOut 134 = .ok (.lload_n 3, 1) := by decide +kernel
theorem dX11_workOut_135 : decode cX11_workOut 135 = .ok (.lconst 0, 1) := by decide +kernel
theorem dX11_workOut_136 : decode cX11_workOut 136 = .ok (.lcmp, 1) := by decide +kernel
theorem dX11_workOut_137 : decode cX11_workOut 137 = .ok (.ifCond .eq 7, 3) := by decide +kernel
theorem dX11_workOut_140 : decode cX11_workOut 140 = .ok (.lconst 1, 1) := by decide +kernel
theorem dX11_workOut_141 : decode cX11_workOut 141 = .ok (.goto 4, 3) := by decide +kernel
theorem dX11_workOut_144 : decode cX11_workOut 144 = .ok (.lconst 0, 1) := by decide +kernel
theorem dX11_workOut_145 : decode cX11_workOut 145 = .ok (.lstore 5, 2) := by decide +kernel
theorem dX11_workOut_147 : decode cX11_workOut 147 = .ok (.goto 112, 3) := by decide +kernel
theorem dX11_workOut_150 : decode cX11_workOut 150 = .ok (.lload_n 1, 1) := by decide +kernel
theorem dX11_workOut_151 : decode cX11_workOut 151 = .ok (.lconst 0, 1) := by decide +kernel
theorem dX11_workOut_152 : decode cX11_workOut 152 = .ok (.lcmp, 1) := by decide +kernel
theorem dX11_workOut_153 : decode cX11_workOut 153 = .ok (.ifCond .eq 13, 3) := by decide +kernel
theorem dX11_workOut_156 : decode cX11_workOut 156 = .ok (.lload_n 3, 1) := by decide +kernel
theorem dX11_workOut_157 : decode cX11_workOut 157 = .ok (.lconst 0, 1) := by decide +kernel
theorem dX11_workOut_158 : decode cX11_workOut 158 = .ok (.lcmp, 1) := by decide +kernel
theorem dX11_workOut_159 : decode cX11_workOut 159 = .ok (.ifCond .eq 7, 3) := by decide +kernel
theorem dX11_workOut_162 : decode cX11_workOut 162 = .ok (.lconst 1, 1) := by decide +kernel
theorem dX11_workOut_163 : decode cX11_workOut 163 = .ok (.goto 4, 3) := by decide +kernel
theorem dX11_workOut_166 : decode cX11_workOut 166 = .ok (.lconst 0, 1) := by decide +kernel
theorem dX11_workOut_167 : decode cX11_workOut 167 = .ok (.lstore 5, 2) := by decide +kernel
theorem dX11_workOut_169 : decode cX11_workOut 169 = .ok (.goto 90, 3) := by decide +kernel
theorem dX11_workOut_172 : decode cX11_workOut 172 = .ok (.lload_n 1, 1) := by decide +kernel
theorem dX11_workOut_173 : decode cX11_workOut 173 = .ok (.lload_n 3, 1) := by decide +kernel
theorem dX11_workOut_174 : decode cX11_workOut 174 = .ok (.lcmp, 1) := by decide +kernel
theorem dX11_workOut_175 : decode cX11_workOut 175 = .ok (.ifCond .ge 7, 3) := by decide +kernel
theorem dX11_workOut_178 : decode cX11_workOut 178 = .ok (.lconst 1, 1) := by decide +kernel
theorem dX11_workOut_179 : decode cX11_workOut 179 = .ok (.goto 4, 3) := by decide +kernel
theorem dX11_workOut_182 : decode cX11_workOut 182 = .ok (.lconst 0, 1) := by decide +kernel
theorem dX11_workOut_183 : decode cX11_workOut 183 = .ok (.lstore 5, 2) := by decide +kernel
theorem dX11_workOut_185 : decode cX11_workOut 185 = .ok (.goto 74, 3) := by decide +kernel
theorem dX11_workOut_188 : decode cX11_workOut 188 = .ok (.lload_n 1, 1) := by decide +kernel
theorem dX11_workOut_189 : decode cX11_workOut 189 = .ok (.lload_n 3, 1) := by decide +kernel
theorem dX11_workOut_190 : decode cX11_workOut 190 = .ok (.lcmp, 1) := by decide +kernel
theorem dX11_workOut_191 : decode cX11_workOut 191 = .ok (.ifCond .le 7, 3) := by decide +kernel
theorem dX11_workOut_194 : decode cX11_workOut 194 = .ok (.lconst 1, 1) := by decide +kernel
theorem dX11_workOut_195 : decode cX11_workOut 195 = .ok (.goto 4, 3) := by decide +kernel
theorem dX11_workOut_198 : decode cX11_workOut 198 = .ok (.lconst 0, 1) := by decide +kernel
theorem dX11_workOut_199 : decode cX11_workOut 199 = .ok (.lstore 5, 2) := by decide +kernel
theorem dX11_workOut_201 : decode cX11_workOut 201 = .ok (.goto 58, 3) := by decide +kernel
theorem dX11_workOut_204 : decode cX11_workOut 204 = .ok (.lload_n 1, 1) := by decide +kernel
theorem dX11_workOut_205 : decode cX11_workOut 205 = .ok (.lload_n 3, 1) := by decide +kernel
theorem dX11_workOut_206 : decode cX11_workOut 206 = .ok (.lcmp, 1) := by decide +kernel
theorem dX11_workOut_207 : decode cX11_workOut 207 = .ok (.ifCond .ne 7, 3) := by decide +kernel
theorem dX11_workOut_210 : decode cX11_workOut 210 = .ok (.lconst 1, 1) := by decide +kernel
theorem dX11_workOut_211 : decode cX11_workOut 211 = .ok (.goto 4, 3) := by decide +kernel
theorem dX11_workOut_214 : decode cX11_workOut 214 = .ok (.lconst 0, 1) := by decide +kernel
theorem dX11_workOut_215 : decode cX11_workOut 215 = .ok (.lstore 5, 2) := by decide +kernel
theorem dX11_workOut_217 : decode cX11_workOut 217 = .ok (.goto 42, 3) := by decide +kernel
theorem dX11_workOut_220 : decode cX11_workOut 220 = .ok (.lload_n 1, 1) := by decide +kernel
theorem dX11_workOut_221 : decode cX11_workOut 221 = .ok (.lload_n 3, 1) := by decide +kernel
theorem dX11_workOut_222 : decode cX11_workOut 222 = .ok (.ladd, 1) := by decide +kernel
theorem dX11_workOut_223 : decode cX11_workOut 223 = .ok (.lstore 5, 2) := by decide +kernel
theorem dX11_workOut_225 : decode cX11_workOut 225 = .ok (.goto 34, 3) := by decide +kernel
theorem dX11_workOut_228 : decode cX11_workOut 228 = .ok (.lload_n 1, 1) := by decide +kernel
theorem dX11_workOut_229 : decode cX11_workOut 229 = .ok (.lload_n 3, 1) := by decide +kernel
theorem dX11_workOut_230 : decode cX11_workOut 230 = .ok (.lsub, 1) := by decide +kernel
theorem dX11_workOut_231 : decode cX11_workOut 231 = .ok (.lstore 5, 2) := by decide +kernel
theorem dX11_workOut_233 : decode cX11_workOut 233 = .ok (.goto 26, 3) := by decide +kernel
theorem dX11_workOut_236 : decode cX11_workOut 236 = .ok (.lload_n 1, 1) := by decide +kernel
theorem dX11_workOut_237 : decode cX11_workOut 237 = .ok (.lload_n 3, 1) := by decide +kernel
theorem dX11_workOut_238 : decode cX11_workOut 238 = .ok (.lmul, 1) := by decide +kernel
theorem dX11_workOut_239 : decode cX11_workOut 239 = .ok (.lstore 5, 2) := by decide +kernel
theorem dX11_workOut_241 : decode cX11_workOut 241 = .ok (.goto 18, 3) := by decide +kernel
theorem dX11_workOut_244 : decode cX11_workOut 244 = .ok (.lload_n 3, 1) := by decide +kernel
theorem dX11_workOut_245 : decode cX11_workOut 245 = .ok (.lconst 0, 1) := by decide +kernel
theorem dX11_workOut_246 : decode cX11_workOut 246 = .ok (.lcmp, 1) := by decide +kernel
theorem dX11_workOut_247 : decode cX11_workOut 247 = .ok (.ifCond .ne 7, 3) := by decide +kernel
theorem dX11_workOut_250 : decode cX11_workOut 250 = .ok (.lconst 0, 1) := by decide +kernel
theorem dX11_workOut_251 : decode cX11_workOut 251 = .ok (.goto 6, 3) := by decide +kernel
theorem dX11_workOut_254 : decode cX11_workOut 254 = .ok (.lload_n 1, 1) := by decide +kernel
theorem dX11_workOut_255 : decode cX11_workOut 255 = .ok (.lload_n 3, 1) := by decide +kernel
theorem dX11_workOut_256 : decode cX11_workOut 256 = .ok (.ldiv, 1) := by decide +kernel
theorem dX11_workOut_257 : decode cX11_workOut 257 = .ok (.lstore 5, 2) := by decide +kernel
theorem dX11_workOut_259 : decode cX11_workOut 259 = .ok (.aload_n 0, 1) := by decide +kernel
theorem dX11_workOut_260 : decode cX11_workOut 260 = .ok (.getfield 20, 3) := by decide +kernel
theorem dX11_workOut_263 : decode cX11_workOut 263 = .ok (.aload_n 0, 1) := by decide +kernel
theorem dX11_workOut_264 : decode cX11_workOut 264 = .ok (.getfield 129, 3) := by decide +kernel
theorem dX11_workOut_267 : decode cX11_workOut 267 = .ok (.iconst 1, 1) := by decide +kernel
theorem dX11_workOut_268 : decode cX11_workOut 268 = .ok (.isub, 1) := by decide +kernel
theorem dX11_workOut_269 : decode cX11_workOut 269 = .ok (.lload 5, 2) := by decide +kernel
theorem dX11_workOut_271 : decode cX11_workOut 271 = .ok (.lastore, 1) := by decide +kernel
theorem dX11_workOut_272 : decode cX11_workOut 272 = .ok (.return_, 1) := by decide +kernel
theorem dX11_workDown_0 : decode cX11_workDown 0 = .ok (.aload_n 0, 1) := by decide +kernel
theorem dX11_workDown_1 : decode cX11_workDown 1 = .ok (.getfield 126, 3) := by decide +kernel
theorem dX11_workDown_4 : decode cX11_workDown 4 = .ok (.ifCond .le 45, 3) := by decide +kernel
theorem dX11_workDown_7 : decode cX11_workDown 7 = .ok (.aload_n 0, 1) := by decide +kernel
theorem dX11_workDown_8 : decode cX11_workDown 8 = .ok (.getfield 24, 3) := by decide +kernel
theorem dX11_workDown_11 : decode cX11_workDown 11 = .ok (.aload_n 0, 1) := by decide +kernel
theorem dX11_workDown_12 : decode cX11_workDown 12 = .ok (.getfield 126, 3) := by decide +kernel
theorem dX11_workDown_15 : decode cX11_workDown 15 = .ok (.iconst 1, 1) := by decide +kernel
theorem dX11_workDown_16 : decode cX11_workDown 16 = .ok (.isub, 1) := by decide +kernel
theorem dX11_workDown_17 : decode cX11_workDown 17 = .ok (.iaload, 1) := by decide +kernel
theorem dX11_workDown_18 : decode cX11_workDown 18 = .ok (.sipush 1000, 3) := by decide +kernel
theorem dX11_workDown_21 : decode cX11_workDown 21 = .ok (.if_icmp .ge 28, 3) := by decide +kernel
theorem dX11_workDown_24 : decode cX11_workDown 24 = .ok (.aload_n 0, 1) := by decide +kernel
theorem dX11_workDown_25 : decode cX11_workDown 25 = .ok (.getfield 24, 3) := by decide +kernel
theorem dX11_workDown_28 : decode cX11_workDown 28 = .ok (.aload_n 0, 1) := by decide +kernel
theorem dX11_workDown_29 : decode cX11_workDown 29 = .ok (.getfield 126, 3) := by decide +kernel
theorem dX11_workDown_32 : decode cX11_workDown 32 = .ok (.iconst 1, 1) := by decide +kernel
theorem dX11_workDown_33 : decode cX11_workDown 33 = .ok (.isub, 1) := by decide +kernel
theorem dX11_workDown_34 : decode cX11_workDown 34 = .ok (.iaload, 1) := by decide +kernel
theorem dX11_workDown_35 : decode cX11_workDown 35 = .ok (.invokestatic 132, 3) := by decide +kernel
theorem dX11_workDown_38 : decode cX11_workDown 38 = .ok (.iload_n 1, 1) := by decide +kernel
theorem dX11_workDown_39 : decode cX11_workDown 39 = .ok (.if_icmp .lt 10, 3) := by decide +kernel
theorem dX11_workDown_42 : decode cX11_workDown 42 = .ok (.aload_n 0, 1) := by decide +kernel
theorem dX11_workDown_43 : decode cX11_workDown 43 = .ok (.invokevirtual 135, 3) := by decide +kernel
theorem dX11_workDown_46 : decode cX11_workDown 46 = .ok (.goto (-46), 3) := by decide +kernel
theorem dX11_workDown_49 : decode cX11_workDown 49 = .ok (.return_, 1) := by decide +kernel
theorem dX11_stands_0 : decode cX11_stands 0 = .ok (.lload_n 1, 1) := by decide +kernel
theorem dX11_stands_1 : decode cX11_stands 1 = .ok (.lstore_n 3, 1) := by decide +kernel
theorem dX11_stands_2 : decode cX11_stands 2 = .ok (.aload_n 0, 1) := by decide +kernel
theorem dX11_stands_3 : decode cX11_stands 3 = .ok (.getfield 126, 3) := by decide +kernel
theorem dX11_stands_6 : decode cX11_stands 6 = .ok (.ifCond .le 67, 3) := by decide +kernel
theorem dX11_stands_9 : decode cX11_stands 9 = .ok (.aload_n 0, 1) := by decide +kernel
theorem dX11_stands_10 : decode cX11_stands 10 = .ok (.getfield 24, 3) := by decide +kernel
theorem dX11_stands_13 : decode cX11_stands 13 = .ok (.aload_n 0, 1) := by decide +kernel
theorem dX11_stands_14 : decode cX11_stands 14 = .ok (.getfield 126, 3) := by decide +kernel
theorem dX11_stands_17 : decode cX11_stands 17 = .ok (.iconst 1, 1) := by decide +kernel
theorem dX11_stands_18 : decode cX11_stands 18 = .ok (.isub, 1) := by decide +kernel
theorem dX11_stands_19 : decode cX11_stands 19 = .ok (.iaload, 1) := by decide +kernel
theorem dX11_stands_20 : decode cX11_stands 20 = .ok (.sipush 1000, 3) := by decide +kernel
theorem dX11_stands_23 : decode cX11_stands 23 = .ok (.if_icmp .le 50, 3) := by decide +kernel
theorem dX11_stands_26 : decode cX11_stands 26 = .ok (.aload_n 0, 1) := by decide +kernel
theorem dX11_stands_27 : decode cX11_stands 27 = .ok (.getfield 24, 3) := by decide +kernel
theorem dX11_stands_30 : decode cX11_stands 30 = .ok (.aload_n 0, 1) := by decide +kernel
theorem dX11_stands_31 : decode cX11_stands 31 = .ok (.getfield 126, 3) := by decide +kernel
theorem dX11_stands_34 : decode cX11_stands 34 = .ok (.iconst 1, 1) := by decide +kernel
theorem dX11_stands_35 : decode cX11_stands 35 = .ok (.isub, 1) := by decide +kernel
theorem dX11_stands_36 : decode cX11_stands 36 = .ok (.iaload, 1) := by decide +kernel
theorem dX11_stands_37 : decode cX11_stands 37 = .ok (.sipush 1001, 3) := by decide +kernel
theorem dX11_stands_40 : decode cX11_stands 40 = .ok (.if_icmp .ne 17, 3) := by decide +kernel
theorem dX11_stands_43 : decode cX11_stands 43 = .ok (.lload_n 3, 1) := by decide +kernel
theorem dX11_stands_44 : decode cX11_stands 44 = .ok (.lconst 0, 1) := by decide +kernel
theorem dX11_stands_45 : decode cX11_stands 45 = .ok (.lcmp, 1) := by decide +kernel
theorem dX11_stands_46 : decode cX11_stands 46 = .ok (.ifCond .ne 7, 3) := by decide +kernel
theorem dX11_stands_49 : decode cX11_stands 49 = .ok (.lconst 1, 1) := by decide +kernel
theorem dX11_stands_50 : decode cX11_stands 50 = .ok (.goto 9, 3) := by decide +kernel
theorem dX11_stands_53 : decode cX11_stands 53 = .ok (.lconst 0, 1) := by decide +kernel
theorem dX11_stands_54 : decode cX11_stands 54 = .ok (.goto 5, 3) := by decide +kernel
theorem dX11_stands_57 : decode cX11_stands 57 = .ok (.lload_n 3, 1) := by decide +kernel
theorem dX11_stands_58 : decode cX11_stands 58 = .ok (.lneg, 1) := by decide +kernel
theorem dX11_stands_59 : decode cX11_stands 59 = .ok (.lstore_n 3, 1) := by decide +kernel
theorem dX11_stands_60 : decode cX11_stands 60 = .ok (.aload_n 0, 1) := by decide +kernel
theorem dX11_stands_61 : decode cX11_stands 61 = .ok (.dup, 1) := by decide +kernel
theorem dX11_stands_62 : decode cX11_stands 62 = .ok (.getfield 126, 3) := by decide +kernel
theorem dX11_stands_65 : decode cX11_stands 65 = .ok (.iconst 1, 1) := by decide +kernel
theorem dX11_stands_66 : decode cX11_stands 66 = .ok (.isub, 1) := by decide +kernel
theorem dX11_stands_67 : decode cX11_stands 67 = .ok (.putfield 126, 3) := by decide +kernel
theorem dX11_stands_70 : decode cX11_stands 70 = .ok (.goto (-68), 3) := by decide +kernel
theorem dX11_stands_73 : decode cX11_stands 73 = .ok (.aload_n 0, 1) := by decide +kernel
theorem dX11_stands_74 : decode cX11_stands 74 = .ok (.getfield 20, 3) := by decide +kernel
theorem dX11_stands_77 : decode cX11_stands 77 = .ok (.aload_n 0, 1) := by decide +kernel
theorem dX11_stands_78 : decode cX11_stands 78 = .ok (.getfield 129, 3) := by decide +kernel
theorem dX11_stands_81 : decode cX11_stands 81 = .ok (.lload_n 3, 1) := by decide +kernel
theorem dX11_stands_82 : decode cX11_stands 82 = .ok (.lastore, 1) := by decide +kernel
theorem dX11_stands_83 : decode cX11_stands 83 = .ok (.aload_n 0, 1) := by decide +kernel
theorem dX11_stands_84 : decode cX11_stands 84 = .ok (.dup, 1) := by decide +kernel
theorem dX11_stands_85 : decode cX11_stands 85 = .ok (.getfield 129, 3) := by decide +kernel
theorem dX11_stands_88 : decode cX11_stands 88 = .ok (.iconst 1, 1) := by decide +kernel
theorem dX11_stands_89 : decode cX11_stands 89 = .ok (.iadd, 1) := by decide +kernel
theorem dX11_stands_90 : decode cX11_stands 90 = .ok (.putfield 129, 3) := by decide +kernel
theorem dX11_stands_93 : decode cX11_stands 93 = .ok (.return_, 1) := by decide +kernel
theorem dX11_nameOf_0 : decode cX11_nameOf 0 = .ok (.iload_n 0, 1) := by decide +kernel
theorem dX11_nameOf_1 : decode cX11_nameOf 1 = .ok (.bipush 115, 2) := by decide +kernel
theorem dX11_nameOf_3 : decode cX11_nameOf 3 = .ok (.if_icmp .ne 7, 3) := by decide +kernel
theorem dX11_nameOf_6 : decode cX11_nameOf 6 = .ok (.iconst 0, 1) := by decide +kernel
theorem dX11_nameOf_7 : decode cX11_nameOf 7 = .ok (.goto 44, 3) := by decide +kernel
theorem dX11_nameOf_10 : decode cX11_nameOf 10 = .ok (.iload_n 0, 1) := by decide +kernel
theorem dX11_nameOf_11 : decode cX11_nameOf 11 = .ok (.bipush 110, 2) := by decide +kernel
theorem dX11_nameOf_13 : decode cX11_nameOf 13 = .ok (.if_icmp .ne 7, 3) := by decide +kernel
theorem dX11_nameOf_16 : decode cX11_nameOf 16 = .ok (.iconst 1, 1) := by decide +kernel
theorem dX11_nameOf_17 : decode cX11_nameOf 17 = .ok (.goto 34, 3) := by decide +kernel
theorem dX11_nameOf_20 : decode cX11_nameOf 20 = .ok (.iload_n 0, 1) := by decide +kernel
theorem dX11_nameOf_21 : decode cX11_nameOf 21 = .ok (.bipush 109, 2) := by decide +kernel
theorem dX11_nameOf_23 : decode cX11_nameOf 23 = .ok (.if_icmp .ne 7, 3) := by decide +kernel
theorem dX11_nameOf_26 : decode cX11_nameOf 26 = .ok (.iconst 2, 1) := by decide +kernel
theorem dX11_nameOf_27 : decode cX11_nameOf 27 = .ok (.goto 24, 3) := by decide +kernel
theorem dX11_nameOf_30 : decode cX11_nameOf 30 = .ok (.iload_n 0, 1) := by decide +kernel
theorem dX11_nameOf_31 : decode cX11_nameOf 31 = .ok (.bipush 108, 2) := by decide +kernel
theorem dX11_nameOf_33 : decode cX11_nameOf 33 = .ok (.if_icmp .ne 7, 3) := by decide +kernel
theorem dX11_nameOf_36 : decode cX11_nameOf 36 = .ok (.iconst 3, 1) := by decide +kernel
theorem dX11_nameOf_37 : decode cX11_nameOf 37 = .ok (.goto 14, 3) := by decide +kernel
theorem dX11_nameOf_40 : decode cX11_nameOf 40 = .ok (.iload_n 0, 1) := by decide +kernel
theorem dX11_nameOf_41 : decode cX11_nameOf 41 = .ok (.bipush 114, 2) := by decide +kernel
theorem dX11_nameOf_43 : decode cX11_nameOf 43 = .ok (.if_icmp .ne 7, 3) := by decide +kernel
theorem dX11_nameOf_46 : decode cX11_nameOf 46 = .ok (.iconst 4, 1) := by decide +kernel
theorem dX11_nameOf_47 : decode cX11_nameOf 47 = .ok (.goto 4, 3) := by decide +kernel
theorem dX11_nameOf_50 : decode cX11_nameOf 50 = .ok (.iconst (-1), 1) := by decide +kernel
theorem dX11_nameOf_51 : decode cX11_nameOf 51 = .ok (.ireturn, 1) := by decide +kernel
theorem dX11_digits_0 : decode cX11_digits 0 = .ok (.aload_n 0, 1) := by decide +kernel
theorem dX11_digits_1 : decode cX11_digits 1 = .ok (.getfield 116, 3) := by decide +kernel
theorem dX11_digits_4 : decode cX11_digits 4 = .ok (.istore_n 1, 1) := by decide +kernel
theorem dX11_digits_5 : decode cX11_digits 5 = .ok (.lconst 0, 1) := by decide +kernel
theorem dX11_digits_6 : decode cX11_digits 6 = .ok (.lstore_n 2, 1) := by decide +kernel
theorem dX11_digits_7 : decode cX11_digits 7 = .ok (.aload_n 0, 1) := by decide +kernel
theorem dX11_digits_8 : decode cX11_digits 8 = .ok (.getfield 116, 3) := by decide +kernel
theorem dX11_digits_11 : decode cX11_digits 11 = .ok (.aload_n 0, 1) := by decide +kernel
theorem dX11_digits_12 : decode cX11_digits 12 = .ok (.invokevirtual 119, 3) := by decide +kernel
theorem dX11_digits_15 : decode cX11_digits 15 = .ok (.if_icmp .ge 80, 3) := by decide +kernel
theorem dX11_digits_18 : decode cX11_digits 18 = .ok (.aload_n 0, 1) := by decide +kernel
theorem dX11_digits_19 : decode cX11_digits 19 = .ok (.aload_n 0, 1) := by decide +kernel
theorem dX11_digits_20 : decode cX11_digits 20 = .ok (.getfield 116, 3) := by decide +kernel
theorem dX11_digits_23 : decode cX11_digits 23 = .ok (.invokevirtual 122, 3) := by decide +kernel
theorem dX11_digits_26 : decode cX11_digits 26 = .ok (.i2l, 1) := by decide +kernel
theorem dX11_digits_27 : decode cX11_digits 27 = .ok (.ldc2_w 138, 3) := by decide +kernel
theorem dX11_digits_30 : decode cX11_digits 30 = .ok (.ldc2_w 140, 3) := by decide +kernel
theorem dX11_digits_33 : decode cX11_digits 33 = .ok (.invokestatic 80, 3) := by decide +kernel
theorem dX11_digits_36 : decode cX11_digits 36 = .ok (.ifCond .eq 59, 3) := by decide +kernel
theorem dX11_digits_39 : decode cX11_digits 39 = .ok (.aload_n 0, 1) := by decide +kernel
theorem dX11_digits_40 : decode cX11_digits 40 = .ok (.getfield 116, 3) := by decide +kernel
theorem dX11_digits_43 : decode cX11_digits 43 = .ok (.iload_n 1, 1) := by decide +kernel
theorem dX11_digits_44 : decode cX11_digits 44 = .ok (.isub, 1) := by decide +kernel
theorem dX11_digits_45 : decode cX11_digits 45 = .ok (.bipush 6, 2) := by decide +kernel
theorem dX11_digits_47 : decode cX11_digits 47 = .ok (.if_icmp .ne 15, 3) := by decide +kernel
theorem dX11_digits_50 : decode cX11_digits 50 = .ok (.aload_n 0, 1) := by decide +kernel
theorem dX11_digits_51 : decode cX11_digits 51 = .ok (.bipush 10, 2) := by decide +kernel
theorem dX11_digits_53 : decode cX11_digits 53 = .ok (.iload_n 1, 1) := by decide +kernel
theorem dX11_digits_54 : decode cX11_digits 54 = .ok (.imul, 1) := by decide +kernel
theorem dX11_digits_55 : decode cX11_digits 55 = .ok (.iconst 2, 1) := by decide +kernel
theorem dX11_digits_56 : decode cX11_digits 56 = .ok (.iadd, 1) := by decide +kernel
theorem dX11_digits_57 : decode cX11_digits 57 = .ok (.putfield 142, 3) := by decide +kernel
theorem dX11_digits_60 : decode cX11_digits 60 = .ok (.lconst 0, 1) := by decide +kernel
theorem dX11_digits_61 : decode cX11_digits 61 = .ok (.lreturn, 1) := by decide +kernel
theorem dX11_digits_62 : decode cX11_digits 62 = .ok (.ldc2_w 145, 3) := by decide +kernel
theorem dX11_digits_65 : decode cX11_digits 65 = .ok (.lload_n 2, 1) := by decide +kernel
theorem dX11_digits_66 : decode cX11_digits 66 = .ok (.lmul, 1) := by decide +kernel
theorem dX11_digits_67 : decode cX11_digits 67 = .ok (.aload_n 0, 1) := by decide +kernel
theorem dX11_digits_68 : decode cX11_digits 68 = .ok (.aload_n 0, 1) := by decide +kernel
theorem dX11_digits_69 : decode cX11_digits 69 = .ok (.getfield 116, 3) := by decide +kernel
theorem dX11_digits_72 : decode cX11_digits 72 = .ok (.invokevirtual 122, 3) := by decide +kernel
theorem dX11_digits_75 : decode cX11_digits 75 = .ok (.i2l, 1) := by decide +kernel
theorem dX11_digits_76 : decode cX11_digits 76 = .ok (.ladd, 1) := by decide +kernel
theorem dX11_digits_77 : decode cX11_digits 77 = .ok (.ldc2_w 138, 3) := by decide +kernel
theorem dX11_digits_80 : decode cX11_digits 80 = .ok (.lsub, 1) := by decide +kernel
theorem dX11_digits_81 : decode cX11_digits 81 = .ok (.lstore_n 2, 1) := by decide +kernel
theorem dX11_digits_82 : decode cX11_digits 82 = .ok (.aload_n 0, 1) := by decide +kernel
theorem dX11_digits_83 : decode cX11_digits 83 = .ok (.dup, 1) := by decide +kernel
theorem dX11_digits_84 : decode cX11_digits 84 = .ok (.getfield 116, 3) := by decide +kernel
theorem dX11_digits_87 : decode cX11_digits 87 = .ok (.iconst 1, 1) := by decide +kernel
theorem dX11_digits_88 : decode cX11_digits 88 = .ok (.iadd, 1) := by decide +kernel
theorem dX11_digits_89 : decode cX11_digits 89 = .ok (.putfield 116, 3) := by decide +kernel
theorem dX11_digits_92 : decode cX11_digits 92 = .ok (.goto (-85), 3) := by decide +kernel
theorem dX11_digits_95 : decode cX11_digits 95 = .ok (.lload_n 2, 1) := by decide +kernel
theorem dX11_digits_96 : decode cX11_digits 96 = .ok (.lreturn, 1) := by decide +kernel
theorem dX11_reads_0 : decode cX11_reads 0 = .ok (.aload_n 0, 1) := by decide +kernel
theorem dX11_reads_1 : decode cX11_reads 1 = .ok (.iconst 0, 1) := by decide +kernel
theorem dX11_reads_2 : decode cX11_reads 2 = .ok (.putfield 116, 3) := by decide +kernel
theorem dX11_reads_5 : decode cX11_reads 5 = .ok (.aload_n 0, 1) := by decide +kernel
theorem dX11_reads_6 : decode cX11_reads 6 = .ok (.iconst (-1), 1) := by decide +kernel
theorem dX11_reads_7 : decode cX11_reads 7 = .ok (.putfield 142, 3) := by decide +kernel
theorem dX11_reads_10 : decode cX11_reads 10 = .ok (.aload_n 0, 1) := by decide +kernel
theorem dX11_reads_11 : decode cX11_reads 11 = .ok (.iconst 0, 1) := by decide +kernel
theorem dX11_reads_12 : decode cX11_reads 12 = .ok (.putfield 129, 3) := by decide +kernel
theorem dX11_reads_15 : decode cX11_reads 15 = .ok (.aload_n 0, 1) := by decide +kernel
theorem dX11_reads_16 : decode cX11_reads 16 = .ok (.iconst 0, 1) := by decide +kernel
theorem dX11_reads_17 : decode cX11_reads 17 = .ok (.putfield 126, 3) := by decide +kernel
theorem dX11_reads_20 : decode cX11_reads 20 = .ok (.iconst 0, 1) := by decide +kernel
theorem dX11_reads_21 : decode cX11_reads 21 = .ok (.istore_n 1, 1) := by decide +kernel
theorem dX11_reads_22 : decode cX11_reads 22 = .ok (.iconst 1, 1) := by decide +kernel
theorem dX11_reads_23 : decode cX11_reads 23 = .ok (.istore_n 2, 1) := by decide +kernel
theorem dX11_reads_24 : decode cX11_reads 24 = .ok (.iconst 1, 1) := by decide +kernel
theorem dX11_reads_25 : decode cX11_reads 25 = .ok (.istore_n 3, 1) := by decide +kernel
theorem dX11_reads_26 : decode cX11_reads 26 = .ok (.iload_n 3, 1) := by decide +kernel
theorem dX11_reads_27 : decode cX11_reads 27 = .ok (.ifCond .eq 461, 3) := by decide +kernel
theorem dX11_reads_30 : decode cX11_reads 30 = .ok (.aload_n 0, 1) := by decide +kernel
theorem dX11_reads_31 : decode cX11_reads 31 = .ok (.getfield 142, 3) := by decide +kernel
theorem dX11_reads_34 : decode cX11_reads 34 = .ok (.iconst (-1), 1) := by decide +kernel
theorem dX11_reads_35 : decode cX11_reads 35 = .ok (.if_icmp .ne 453, 3) := by decide +kernel
theorem dX11_reads_38 : decode cX11_reads 38 = .ok (.aload_n 0, 1) := by decide +kernel
theorem dX11_reads_39 : decode cX11_reads 39 = .ok (.invokevirtual 147, 3) := by decide +kernel
theorem dX11_reads_42 : decode cX11_reads 42 = .ok (.istore 4, 2) := by decide +kernel
theorem dX11_reads_44 : decode cX11_reads 44 = .ok (.iload_n 2, 1) := by decide +kernel
theorem dX11_reads_45 : decode cX11_reads 45 = .ok (.ifCond .eq 209, 3) := by decide +kernel
theorem dX11_reads_48 : decode cX11_reads 48 = .ok (.iload 4, 2) := by decide +kernel
theorem dX11_reads_50 : decode cX11_reads 50 = .ok (.i2l, 1) := by decide +kernel
theorem dX11_reads_51 : decode cX11_reads 51 = .ok (.ldc2_w 138, 3) := by decide +kernel
theorem dX11_reads_54 : decode cX11_reads 54 = .ok (.ldc2_w 140, 3) := by decide +kernel
theorem dX11_reads_57 : decode cX11_reads 57 = .ok (.invokestatic 80, 3) := by decide +kernel
theorem dX11_reads_60 : decode cX11_reads 60 = .ok (.ifCond .eq 16, 3) := by decide +kernel
theorem dX11_reads_63 : decode cX11_reads 63 = .ok (.aload_n 0, 1) := by decide +kernel
theorem dX11_reads_64 : decode cX11_reads 64 = .ok (.aload_n 0, 1) := by decide +kernel
theorem dX11_reads_65 : decode cX11_reads 65 = .ok (.invokevirtual 150, 3) := by decide +kernel
theorem dX11_reads_68 : decode cX11_reads 68 = .ok (.invokevirtual 154, 3) := by decide +kernel
theorem dX11_reads_71 : decode cX11_reads 71 = .ok (.iconst 0, 1) := by decide +kernel
theorem dX11_reads_72 : decode cX11_reads 72 = .ok (.istore_n 2, 1) := by decide +kernel
theorem dX11_reads_73 : decode cX11_reads 73 = .ok (.goto 412, 3) := by decide +kernel
theorem dX11_reads_76 : decode cX11_reads 76 = .ok (.iload 4, 2) := by decide +kernel
theorem dX11_reads_78 : decode cX11_reads 78 = .ok (.invokestatic 158, 3) := by decide +kernel
theorem dX11_reads_81 : decode cX11_reads 81 = .ok (.iconst (-1), 1) := by decide +kernel
theorem dX11_reads_82 : decode cX11_reads 82 = .ok (.if_icmp .eq 32, 3) := by decide +kernel
theorem dX11_reads_85 : decode cX11_reads 85 = .ok (.aload_n 0, 1) := by decide +kernel
theorem dX11_reads_86 : decode cX11_reads 86 = .ok (.dup, 1) := by decide +kernel
theorem dX11_reads_87 : decode cX11_reads 87 = .ok (.getfield 116, 3) := by decide +kernel
theorem dX11_reads_90 : decode cX11_reads 90 = .ok (.iconst 1, 1) := by decide +kernel
theorem dX11_reads_91 : decode cX11_reads 91 = .ok (.iadd, 1) := by decide +kernel
theorem dX11_reads_92 : decode cX11_reads 92 = .ok (.putfield 116, 3) := by decide +kernel
theorem dX11_reads_95 : decode cX11_reads 95 = .ok (.aload_n 0, 1) := by decide +kernel
theorem dX11_reads_96 : decode cX11_reads 96 = .ok (.aload_n 0, 1) := by decide +kernel
theorem dX11_reads_97 : decode cX11_reads 97 = .ok (.getfield 27, 3) := by decide +kernel
theorem dX11_reads_100 : decode cX11_reads 100 = .ok (.iload 4, 2) := by decide +kernel
theorem dX11_reads_102 : decode cX11_reads 102 = .ok (.invokestatic 158, 3) := by decide +kernel
theorem dX11_reads_105 : decode cX11_reads 105 = .ok (.laload, 1) := by decide +kernel
theorem dX11_reads_106 : decode cX11_reads 106 = .ok (.invokevirtual 154, 3) := by decide +kernel
theorem dX11_reads_109 : decode cX11_reads 109 = .ok (.iconst 0, 1) := by decide +kernel
theorem dX11_reads_110 : decode cX11_reads 110 = .ok (.istore_n 2, 1) := by decide +kernel
theorem dX11_reads_111 : decode cX11_reads 111 = .ok (.goto 374, 3) := by decide +kernel
theorem dX11_reads_114 : decode cX11_reads 114 = .ok (.iload 4, 2) := by decide +kernel
theorem dX11_reads_116 : decode cX11_reads 116 = .ok (.bipush 33, 2) := by decide +kernel
theorem dX11_reads_118 : decode cX11_reads 118 = .ok (.if_icmp .eq 10, 3) := by decide +kernel
theorem dX11_reads_121 : decode cX11_reads 121 = .ok (.iload 4, 2) := by decide +kernel
theorem dX11_reads_123 : decode cX11_reads 123 = .ok (.bipush 45, 2) := by decide +kernel
theorem dX11_reads_125 : decode cX11_reads 125 = .ok (.if_icmp .ne 51, 3) := by decide +kernel
theorem dX11_reads_128 : decode cX11_reads 128 = .ok (.aload_n 0, 1) := by decide +kernel
theorem dX11_reads_129 : decode cX11_reads 129 = .ok (.dup, 1) := by decide +kernel
theorem dX11_reads_130 : decode cX11_reads 130 = .ok (.getfield 116, 3) := by decide +kernel
theorem dX11_reads_133 : decode cX11_reads 133 = .ok (.iconst 1, 1) := by decide +kernel
theorem dX11_reads_134 : decode cX11_reads 134 = .ok (.iadd, 1) := by decide +kernel
theorem dX11_reads_135 : decode cX11_reads 135 = .ok (.putfield 116, 3) := by decide +kernel
theorem dX11_reads_138 : decode cX11_reads 138 = .ok (.aload_n 0, 1) := by decide +kernel
theorem dX11_reads_139 : decode cX11_reads 139 = .ok (.getfield 24, 3) := by decide +kernel
theorem dX11_reads_142 : decode cX11_reads 142 = .ok (.aload_n 0, 1) := by decide +kernel
theorem dX11_reads_143 : decode cX11_reads 143 = .ok (.getfield 126, 3) := by decide +kernel
theorem dX11_reads_146 : decode cX11_reads 146 = .ok (.iload 4, 2) := by decide +kernel
theorem dX11_reads_148 : decode cX11_reads 148 = .ok (.bipush 33, 2) := by decide +kernel
theorem dX11_reads_150 : decode cX11_reads 150 = .ok (.if_icmp .ne 9, 3) := by decide +kernel
theorem dX11_reads_153 : decode cX11_reads 153 = .ok (.sipush 1001, 3) := by decide +kernel
theorem dX11_reads_156 : decode cX11_reads 156 = .ok (.goto 6, 3) := by decide +kernel
theorem dX11_reads_159 : decode cX11_reads 159 = .ok (.sipush 1002, 3) := by decide +kernel
theorem dX11_reads_162 : decode cX11_reads 162 = .ok (.iastore, 1) := by decide +kernel
theorem dX11_reads_163 : decode cX11_reads 163 = .ok (.aload_n 0, 1) := by decide +kernel
theorem dX11_reads_164 : decode cX11_reads 164 = .ok (.dup, 1) := by decide +kernel
theorem dX11_reads_165 : decode cX11_reads 165 = .ok (.getfield 126, 3) := by decide +kernel
theorem dX11_reads_168 : decode cX11_reads 168 = .ok (.iconst 1, 1) := by decide +kernel
theorem dX11_reads_169 : decode cX11_reads 169 = .ok (.iadd, 1) := by decide +kernel
theorem dX11_reads_170 : decode cX11_reads 170 = .ok (.putfield 126, 3) := by decide +kernel
theorem dX11_reads_173 : decode cX11_reads 173 = .ok (.goto 312, 3) := by decide +kernel
theorem dX11_reads_176 : decode cX11_reads 176 = .ok (.iload 4, 2) := by decide +kernel
theorem dX11_reads_178 : decode cX11_reads 178 = .ok (.bipush 40, 2) := by decide +kernel
theorem dX11_reads_180 : decode cX11_reads 180 = .ok (.if_icmp .ne 47, 3) := by decide +kernel
theorem dX11_reads_183 : decode cX11_reads 183 = .ok (.iload_n 1, 1) := by decide +kernel
theorem dX11_reads_184 : decode cX11_reads 184 = .ok (.bipush 8, 2) := by decide +kernel
theorem dX11_reads_186 : decode cX11_reads 186 = .ok (.if_icmp .ge 41, 3) := by decide +kernel
theorem dX11_reads_189 : decode cX11_reads 189 = .ok (.aload_n 0, 1) := by decide +kernel
theorem dX11_reads_190 : decode cX11_reads 190 = .ok (.dup, 1) := by decide +kernel
theorem dX11_reads_191 : decode cX11_reads 191 = .ok (.getfield 116, 3) := by decide +kernel
theorem dX11_reads_194 : decode cX11_reads 194 = .ok (.iconst 1, 1) := by decide +kernel
theorem dX11_reads_195 : decode cX11_reads 195 = .ok (.iadd, 1) := by decide +kernel
theorem dX11_reads_196 : decode cX11_reads 196 = .ok (.putfield 116, 3) := by decide +kernel
theorem dX11_reads_199 : decode cX11_reads 199 = .ok (.iinc 1 1, 3) := by decide +kernel
theorem dX11_reads_202 : decode cX11_reads 202 = .ok (.aload_n 0, 1) := by decide +kernel
theorem dX11_reads_203 : decode cX11_reads 203 = .ok (.getfield 24, 3) := by decide +kernel
theorem dX11_reads_206 : decode cX11_reads 206 = .ok (.aload_n 0, 1) := by decide +kernel
theorem dX11_reads_207 : decode cX11_reads 207 = .ok (.getfield 126, 3) := by decide +kernel
theorem dX11_reads_210 : decode cX11_reads 210 = .ok (.sipush 1000, 3) := by decide +kernel
theorem dX11_reads_213 : decode cX11_reads 213 = .ok (.iastore, 1) := by decide +kernel
theorem dX11_reads_214 : decode cX11_reads 214 = .ok (.aload_n 0, 1) := by decide +kernel
theorem dX11_reads_215 : decode cX11_reads 215 = .ok (.dup, 1) := by decide +kernel
theorem dX11_reads_216 : decode cX11_reads 216 = .ok (.getfield 126, 3) := by decide +kernel
theorem dX11_reads_219 : decode cX11_reads 219 = .ok (.iconst 1, 1) := by decide +kernel
theorem dX11_reads_220 : decode cX11_reads 220 = .ok (.iadd, 1) := by decide +kernel
theorem dX11_reads_221 : decode cX11_reads 221 = .ok (.putfield 126, 3) := by decide +kernel
theorem dX11_reads_224 : decode cX11_reads 224 = .ok (.goto 261, 3) := by decide +kernel
theorem dX11_reads_227 : decode cX11_reads 227 = .ok (.aload_n 0, 1) := by decide +kernel
theorem dX11_reads_228 : decode cX11_reads 228 = .ok (.bipush 10, 2) := by decide +kernel
theorem dX11_reads_230 : decode cX11_reads 230 = .ok (.aload_n 0, 1) := by decide +kernel
theorem dX11_reads_231 : decode cX11_reads 231 = .ok (.getfield 116, 3) := by decide +kernel
theorem dX11_reads_234 : decode cX11_reads 234 = .ok (.imul, 1) := by decide +kernel
theorem dX11_reads_235 : decode cX11_reads 235 = .ok (.iload 4, 2) := by decide +kernel
theorem dX11_reads_237 : decode cX11_reads 237 = .ok (.bipush 40, 2) := by decide +kernel
theorem dX11_reads_239 : decode cX11_reads 239 = .ok (.if_icmp .ne 7, 3) := by decide +kernel
theorem dX11_reads_242 : decode cX11_reads 242 = .ok (.iconst 3, 1) := by decide +kernel
theorem dX11_reads_243 : decode cX11_reads 243 = .ok (.goto 4, 3) := by decide +kernel
theorem dX11_reads_246 : decode cX11_reads 246 = .ok (.iconst 1, 1) := by decide +kernel
theorem dX11_reads_247 : decode cX11_reads 247 = .ok (.iadd, 1) := by decide +kernel
theorem dX11_reads_248 : decode cX11_reads 248 = .ok (.putfield 142, 3) := by decide +kernel
theorem dX11_reads_251 : decode cX11_reads 251 = .ok (.goto 234, 3) := by decide +kernel
theorem dX11_reads_254 : decode cX11_reads 254 = .ok (.iload 4, 2) := by decide +kernel
theorem dX11_reads_256 : decode cX11_reads 256 = .ok (.bipush 41, 2) := by decide +kernel
theorem dX11_reads_258 : decode cX11_reads 258 = .ok (.if_icmp .ne 61, 3) := by decide +kernel
theorem dX11_reads_261 : decode cX11_reads 261 = .ok (.iload_n 1, 1) := by decide +kernel
theorem dX11_reads_262 : decode cX11_reads 262 = .ok (.ifCond .le 57, 3) := by decide +kernel
theorem dX11_reads_265 : decode cX11_reads 265 = .ok (.aload_n 0, 1) := by decide +kernel
theorem dX11_reads_266 : decode cX11_reads 266 = .ok (.dup, 1) := by decide +kernel
theorem dX11_reads_267 : decode cX11_reads 267 = .ok (.getfield 116, 3) := by decide +kernel
theorem dX11_reads_270 : decode cX11_reads 270 = .ok (.iconst 1, 1) := by decide +kernel
theorem dX11_reads_271 : decode cX11_reads 271 = .ok (.iadd, 1) := by decide +kernel
theorem dX11_reads_272 : decode cX11_reads 272 = .ok (.putfield 116, 3) := by decide +kernel
theorem dX11_reads_275 : decode cX11_reads 275 = .ok (.iinc 1 (-1), 3) := by decide +kernel
theorem dX11_reads_278 : decode cX11_reads 278 = .ok (.aload_n 0, 1) := by decide +kernel
theorem dX11_reads_279 : decode cX11_reads 279 = .ok (.iconst 1, 1) := by decide +kernel
theorem dX11_reads_280 : decode cX11_reads 280 = .ok (.invokevirtual 161, 3) := by decide +kernel
theorem dX11_reads_283 : decode cX11_reads 283 = .ok (.aload_n 0, 1) := by decide +kernel
theorem dX11_reads_284 : decode cX11_reads 284 = .ok (.dup, 1) := by decide +kernel
theorem dX11_reads_285 : decode cX11_reads 285 = .ok (.getfield 126, 3) := by decide +kernel
theorem dX11_reads_288 : decode cX11_reads 288 = .ok (.iconst 1, 1) := by decide +kernel
theorem dX11_reads_289 : decode cX11_reads 289 = .ok (.isub, 1) := by decide +kernel
theorem dX11_reads_290 : decode cX11_reads 290 = .ok (.putfield 126, 3) := by decide +kernel
theorem dX11_reads_293 : decode cX11_reads 293 = .ok (.aload_n 0, 1) := by decide +kernel
theorem dX11_reads_294 : decode cX11_reads 294 = .ok (.dup, 1) := by decide +kernel
theorem dX11_reads_295 : decode cX11_reads 295 = .ok (.getfield 129, 3) := by decide +kernel
theorem dX11_reads_298 : decode cX11_reads 298 = .ok (.iconst 1, 1) := by decide +kernel
theorem dX11_reads_299 : decode cX11_reads 299 = .ok (.isub, 1) := by decide +kernel
theorem dX11_reads_300 : decode cX11_reads 300 = .ok (.putfield 129, 3) := by decide +kernel
theorem dX11_reads_303 : decode cX11_reads 303 = .ok (.aload_n 0, 1) := by decide +kernel
theorem dX11_reads_304 : decode cX11_reads 304 = .ok (.aload_n 0, 1) := by decide +kernel
theorem dX11_reads_305 : decode cX11_reads 305 = .ok (.getfield 20, 3) := by decide +kernel
theorem dX11_reads_308 : decode cX11_reads 308 = .ok (.aload_n 0, 1) := by decide +kernel
theorem dX11_reads_309 : decode cX11_reads 309 = .ok (.getfield 129, 3) := by decide +kernel
theorem dX11_reads_312 : decode cX11_reads 312 = .ok (.laload, 1) := by decide +kernel
theorem dX11_reads_313 : decode cX11_reads 313 = .ok (.invokevirtual 154, 3) := by decide +kernel
theorem dX11_reads_316 : decode cX11_reads 316 = .ok (.goto 169, 3) := by decide +kernel
theorem dX11_reads_319 : decode cX11_reads 319 = .ok (.iload 4, 2) := by decide +kernel
theorem dX11_reads_321 : decode cX11_reads 321 = .ok (.invokestatic 132, 3) := by decide +kernel
theorem dX11_reads_324 : decode cX11_reads 324 = .ok (.ifCond .le 128, 3) := by decide +kernel
theorem dX11_reads_327 : decode cX11_reads 327 = .ok (.aload_n 0, 1) := by decide +kernel
theorem dX11_reads_328 : decode cX11_reads 328 = .ok (.iload 4, 2) := by decide +kernel
theorem dX11_reads_330 : decode cX11_reads 330 = .ok (.invokestatic 132, 3) := by decide +kernel
theorem dX11_reads_333 : decode cX11_reads 333 = .ok (.iconst 3, 1) := by decide +kernel
theorem dX11_reads_334 : decode cX11_reads 334 = .ok (.if_icmp .ne 7, 3) := by decide +kernel
theorem dX11_reads_337 : decode cX11_reads 337 = .ok (.iconst 4, 1) := by decide +kernel
theorem dX11_reads_338 : decode cX11_reads 338 = .ok (.goto 8, 3) := by decide +kernel
theorem dX11_reads_341 : decode cX11_reads 341 = .ok (.iload 4, 2) := by decide +kernel
theorem dX11_reads_343 : decode cX11_reads 343 = .ok (.invokestatic 132, 3) := by decide +kernel
theorem dX11_reads_346 : decode cX11_reads 346 = .ok (.invokevirtual 161, 3) := by decide +kernel
theorem dX11_reads_349 : decode cX11_reads 349 = .ok (.iload 4, 2) := by decide +kernel
theorem dX11_reads_351 : decode cX11_reads 351 = .ok (.invokestatic 132, 3) := by decide +kernel
theorem dX11_reads_354 : decode cX11_reads 354 = .ok (.iconst 3, 1) := by decide +kernel
theorem dX11_reads_355 : decode cX11_reads 355 = .ok (.if_icmp .ne 61, 3) := by decide +kernel
theorem dX11_reads_358 : decode cX11_reads 358 = .ok (.aload_n 0, 1) := by decide +kernel
theorem dX11_reads_359 : decode cX11_reads 359 = .ok (.getfield 126, 3) := by decide +kernel
theorem dX11_reads_362 : decode cX11_reads 362 = .ok (.ifCond .le 54, 3) := by decide +kernel
theorem dX11_reads_365 : decode cX11_reads 365 = .ok (.aload_n 0, 1) := by decide +kernel
theorem dX11_reads_366 : decode cX11_reads 366 = .ok (.getfield 24, 3) := by decide +kernel
theorem dX11_reads_369 : decode cX11_reads 369 = .ok (.aload_n 0, 1) := by decide +kernel
theorem dX11_reads_370 : decode cX11_reads 370 = .ok (.getfield 126, 3) := by decide +kernel
theorem dX11_reads_373 : decode cX11_reads 373 = .ok (.iconst 1, 1) := by decide +kernel
theorem dX11_reads_374 : decode cX11_reads 374 = .ok (.isub, 1) := by decide +kernel
theorem dX11_reads_375 : decode cX11_reads 375 = .ok (.iaload, 1) := by decide +kernel
theorem dX11_reads_376 : decode cX11_reads 376 = .ok (.sipush 1000, 3) := by decide +kernel
theorem dX11_reads_379 : decode cX11_reads 379 = .ok (.if_icmp .ge 37, 3) := by decide +kernel
theorem dX11_reads_382 : decode cX11_reads 382 = .ok (.aload_n 0, 1) := by decide +kernel
theorem dX11_reads_383 : decode cX11_reads 383 = .ok (.getfield 24, 3) := by decide +kernel
theorem dX11_reads_386 : decode cX11_reads 386 = .ok (.aload_n 0, 1) := by decide +kernel
theorem dX11_reads_387 : decode cX11_reads 387 = .ok (.getfield 126, 3) := by decide +kernel
theorem dX11_reads_390 : decode cX11_reads 390 = .ok (.iconst 1, 1) := by decide +kernel
theorem dX11_reads_391 : decode cX11_reads 391 = .ok (.isub, 1) := by decide +kernel
theorem dX11_reads_392 : decode cX11_reads 392 = .ok (.iaload, 1) := by decide +kernel
theorem dX11_reads_393 : decode cX11_reads 393 = .ok (.invokestatic 132, 3) := by decide +kernel
theorem dX11_reads_396 : decode cX11_reads 396 = .ok (.iconst 3, 1) := by decide +kernel
theorem dX11_reads_397 : decode cX11_reads 397 = .ok (.if_icmp .ne 19, 3) := by decide +kernel
theorem dX11_reads_400 : decode cX11_reads 400 = .ok (.aload_n 0, 1) := by decide +kernel
theorem dX11_reads_401 : decode cX11_reads 401 = .ok (.bipush 10, 2) := by decide +kernel
theorem dX11_reads_403 : decode cX11_reads 403 = .ok (.aload_n 0, 1) := by decide +kernel
theorem dX11_reads_404 : decode cX11_reads 404 = .ok (.getfield 116, 3) := by decide +kernel
theorem dX11_reads_407 : decode cX11_reads 407 = .ok (.imul, 1) := by decide +kernel
theorem dX11_reads_408 : decode cX11_reads 408 = .ok (.iconst 1, 1) := by decide +kernel
theorem dX11_reads_409 : decode cX11_reads 409 = .ok (.iadd, 1) := by decide +kernel
theorem dX11_reads_410 : decode cX11_reads 410 = .ok (.putfield 142, 3) := by decide +kernel
theorem dX11_reads_413 : decode cX11_reads 413 = .ok (.goto 72, 3) := by decide +kernel
theorem dX11_reads_416 : decode cX11_reads 416 = .ok (.aload_n 0, 1) := by decide +kernel
theorem dX11_reads_417 : decode cX11_reads 417 = .ok (.dup, 1) := by decide +kernel
theorem dX11_reads_418 : decode cX11_reads 418 = .ok (.getfield 116, 3) := by decide +kernel
theorem dX11_reads_421 : decode cX11_reads 421 = .ok (.iconst 1, 1) := by decide +kernel
theorem dX11_reads_422 : decode cX11_reads 422 = .ok (.iadd, 1) := by decide +kernel
theorem dX11_reads_423 : decode cX11_reads 423 = .ok (.putfield 116, 3) := by decide +kernel
theorem dX11_reads_426 : decode cX11_reads 426 = .ok (.aload_n 0, 1) := by decide +kernel
theorem dX11_reads_427 : decode cX11_reads 427 = .ok (.getfield 24, 3) := by decide +kernel
theorem dX11_reads_430 : decode cX11_reads 430 = .ok (.aload_n 0, 1) := by decide +kernel
theorem dX11_reads_431 : decode cX11_reads 431 = .ok (.getfield 126, 3) := by decide +kernel
theorem dX11_reads_434 : decode cX11_reads 434 = .ok (.iload 4, 2) := by decide +kernel
theorem dX11_reads_436 : decode cX11_reads 436 = .ok (.iastore, 1) := by decide +kernel
theorem dX11_reads_437 : decode cX11_reads 437 = .ok (.aload_n 0, 1) := by decide +kernel
theorem dX11_reads_438 : decode cX11_reads 438 = .ok (.dup, 1) := by decide +kernel
theorem dX11_reads_439 : decode cX11_reads 439 = .ok (.getfield 126, 3) := by decide +kernel
theorem dX11_reads_442 : decode cX11_reads 442 = .ok (.iconst 1, 1) := by decide +kernel
theorem dX11_reads_443 : decode cX11_reads 443 = .ok (.iadd, 1) := by decide +kernel
theorem dX11_reads_444 : decode cX11_reads 444 = .ok (.putfield 126, 3) := by decide +kernel
theorem dX11_reads_447 : decode cX11_reads 447 = .ok (.iconst 1, 1) := by decide +kernel
theorem dX11_reads_448 : decode cX11_reads 448 = .ok (.istore_n 2, 1) := by decide +kernel
theorem dX11_reads_449 : decode cX11_reads 449 = .ok (.goto 36, 3) := by decide +kernel
theorem dX11_reads_452 : decode cX11_reads 452 = .ok (.iload 4, 2) := by decide +kernel
theorem dX11_reads_454 : decode cX11_reads 454 = .ok (.iconst (-1), 1) := by decide +kernel
theorem dX11_reads_455 : decode cX11_reads 455 = .ok (.if_icmp .ne 17, 3) := by decide +kernel
theorem dX11_reads_458 : decode cX11_reads 458 = .ok (.iload_n 1, 1) := by decide +kernel
theorem dX11_reads_459 : decode cX11_reads 459 = .ok (.ifCond .ne 13, 3) := by decide +kernel
theorem dX11_reads_462 : decode cX11_reads 462 = .ok (.aload_n 0, 1) := by decide +kernel
theorem dX11_reads_463 : decode cX11_reads 463 = .ok (.iconst 1, 1) := by decide +kernel
theorem dX11_reads_464 : decode cX11_reads 464 = .ok (.invokevirtual 161, 3) := by decide +kernel
theorem dX11_reads_467 : decode cX11_reads 467 = .ok (.iconst 0, 1) := by decide +kernel
theorem dX11_reads_468 : decode cX11_reads 468 = .ok (.istore_n 3, 1) := by decide +kernel
theorem dX11_reads_469 : decode cX11_reads 469 = .ok (.goto 16, 3) := by decide +kernel
theorem dX11_reads_472 : decode cX11_reads 472 = .ok (.aload_n 0, 1) := by decide +kernel
theorem dX11_reads_473 : decode cX11_reads 473 = .ok (.bipush 10, 2) := by decide +kernel
theorem dX11_reads_475 : decode cX11_reads 475 = .ok (.aload_n 0, 1) := by decide +kernel
theorem dX11_reads_476 : decode cX11_reads 476 = .ok (.getfield 116, 3) := by decide +kernel
theorem dX11_reads_479 : decode cX11_reads 479 = .ok (.imul, 1) := by decide +kernel
theorem dX11_reads_480 : decode cX11_reads 480 = .ok (.iconst 1, 1) := by decide +kernel
theorem dX11_reads_481 : decode cX11_reads 481 = .ok (.iadd, 1) := by decide +kernel
theorem dX11_reads_482 : decode cX11_reads 482 = .ok (.putfield 142, 3) := by decide +kernel
theorem dX11_reads_485 : decode cX11_reads 485 = .ok (.goto (-459), 3) := by decide +kernel
theorem dX11_reads_488 : decode cX11_reads 488 = .ok (.aload_n 0, 1) := by decide +kernel
theorem dX11_reads_489 : decode cX11_reads 489 = .ok (.aload_n 0, 1) := by decide +kernel
theorem dX11_reads_490 : decode cX11_reads 490 = .ok (.getfield 142, 3) := by decide +kernel
theorem dX11_reads_493 : decode cX11_reads 493 = .ok (.iconst (-1), 1) := by decide +kernel
theorem dX11_reads_494 : decode cX11_reads 494 = .ok (.if_icmp .ne 12, 3) := by decide +kernel
theorem dX11_reads_497 : decode cX11_reads 497 = .ok (.aload_n 0, 1) := by decide +kernel
theorem dX11_reads_498 : decode cX11_reads 498 = .ok (.getfield 20, 3) := by decide +kernel
theorem dX11_reads_501 : decode cX11_reads 501 = .ok (.iconst 0, 1) := by decide +kernel
theorem dX11_reads_502 : decode cX11_reads 502 = .ok (.laload, 1) := by decide +kernel
theorem dX11_reads_503 : decode cX11_reads 503 = .ok (.goto 4, 3) := by decide +kernel
theorem dX11_reads_506 : decode cX11_reads 506 = .ok (.lconst 0, 1) := by decide +kernel
theorem dX11_reads_507 : decode cX11_reads 507 = .ok (.putfield 165, 3) := by decide +kernel
theorem dX11_reads_510 : decode cX11_reads 510 = .ok (.aload_n 0, 1) := by decide +kernel
theorem dX11_reads_511 : decode cX11_reads 511 = .ok (.getfield 142, 3) := by decide +kernel
theorem dX11_reads_514 : decode cX11_reads 514 = .ok (.iconst (-1), 1) := by decide +kernel
theorem dX11_reads_515 : decode cX11_reads 515 = .ok (.if_icmp .ne 7, 3) := by decide +kernel
theorem dX11_reads_518 : decode cX11_reads 518 = .ok (.iconst 1, 1) := by decide +kernel
theorem dX11_reads_519 : decode cX11_reads 519 = .ok (.goto 4, 3) := by decide +kernel
theorem dX11_reads_522 : decode cX11_reads 522 = .ok (.iconst 0, 1) := by decide +kernel
theorem dX11_reads_523 : decode cX11_reads 523 = .ok (.ireturn, 1) := by decide +kernel
theorem dX11_fault_0 : decode cX11_fault 0 = .ok (.iload_n 1, 1) := by decide +kernel
theorem dX11_fault_1 : decode cX11_fault 1 = .ok (.invokestatic 108, 3) := by decide +kernel
theorem dX11_fault_4 : decode cX11_fault 4 = .ok (.ifCond .ne 6, 3) := by decide +kernel
theorem dX11_fault_7 : decode cX11_fault 7 = .ok (.bipush (-2), 2) := by decide +kernel
theorem dX11_fault_9 : decode cX11_fault 9 = .ok (.ireturn, 1) := by decide +kernel
theorem dX11_fault_10 : decode cX11_fault 10 = .ok (.aload_n 0, 1) := by decide +kernel
theorem dX11_fault_11 : decode cX11_fault 11 = .ok (.iload_n 1, 1) := by decide +kernel
theorem dX11_fault_12 : decode cX11_fault 12 = .ok (.putfield 113, 3) := by decide +kernel
theorem dX11_fault_15 : decode cX11_fault 15 = .ok (.aload_n 0, 1) := by decide +kernel
theorem dX11_fault_16 : decode cX11_fault 16 = .ok (.invokevirtual 169, 3) := by decide +kernel
theorem dX11_fault_19 : decode cX11_fault 19 = .ok (.istore_n 2, 1) := by decide +kernel
theorem dX11_fault_20 : decode cX11_fault 20 = .ok (.aload_n 0, 1) := by decide +kernel
theorem dX11_fault_21 : decode cX11_fault 21 = .ok (.getfield 142, 3) := by decide +kernel
theorem dX11_fault_24 : decode cX11_fault 24 = .ok (.ireturn, 1) := by decide +kernel
theorem dX11_rootOf_0 : decode cX11_rootOf 0 = .ok (.iload_n 1, 1) := by decide +kernel
theorem dX11_rootOf_1 : decode cX11_rootOf 1 = .ok (.ifCond .le 81, 3) := by decide +kernel
theorem dX11_rootOf_4 : decode cX11_rootOf 4 = .ok (.aload_n 0, 1) := by decide +kernel
theorem dX11_rootOf_5 : decode cX11_rootOf 5 = .ok (.getfield 33, 3) := by decide +kernel
theorem dX11_rootOf_8 : decode cX11_rootOf 8 = .ok (.iload_n 1, 1) := by decide +kernel
theorem dX11_rootOf_9 : decode cX11_rootOf 9 = .ok (.laload, 1) := by decide +kernel
theorem dX11_rootOf_10 : decode cX11_rootOf 10 = .ok (.lconst 0, 1) := by decide +kernel
theorem dX11_rootOf_11 : decode cX11_rootOf 11 = .ok (.lcmp, 1) := by decide +kernel
theorem dX11_rootOf_12 : decode cX11_rootOf 12 = .ok (.ifCond .ne 70, 3) := by decide +kernel
theorem dX11_rootOf_15 : decode cX11_rootOf 15 = .ok (.ldc2_w 173, 3) := by decide +kernel
theorem dX11_rootOf_18 : decode cX11_rootOf 18 = .ok (.lstore_n 2, 1) := by decide +kernel
theorem dX11_rootOf_19 : decode cX11_rootOf 19 = .ok (.ldc2_w 175, 3) := by decide +kernel
theorem dX11_rootOf_22 : decode cX11_rootOf 22 = .ok (.lstore 4, 2) := by decide +kernel
theorem dX11_rootOf_24 : decode cX11_rootOf 24 = .ok (.lload_n 2, 1) := by decide +kernel
theorem dX11_rootOf_25 : decode cX11_rootOf 25 = .ok (.lconst 1, 1) := by decide +kernel
theorem dX11_rootOf_26 : decode cX11_rootOf 26 = .ok (.ladd, 1) := by decide +kernel
theorem dX11_rootOf_27 : decode cX11_rootOf 27 = .ok (.lload 4, 2) := by decide +kernel
theorem dX11_rootOf_29 : decode cX11_rootOf 29 = .ok (.lcmp, 1) := by decide +kernel
theorem dX11_rootOf_30 : decode cX11_rootOf 30 = .ok (.ifCond .ge 45, 3) := by decide +kernel
theorem dX11_rootOf_33 : decode cX11_rootOf 33 = .ok (.lload_n 2, 1) := by decide +kernel
theorem dX11_rootOf_34 : decode cX11_rootOf 34 = .ok (.lload 4, 2) := by decide +kernel
theorem dX11_rootOf_36 : decode cX11_rootOf 36 = .ok (.ladd, 1) := by decide +kernel
theorem dX11_rootOf_37 : decode cX11_rootOf 37 = .ok (.ldc2_w 106, 3) := by decide +kernel
theorem dX11_rootOf_40 : decode cX11_rootOf 40 = .ok (.ldiv, 1) := by decide +kernel
theorem dX11_rootOf_41 : decode cX11_rootOf 41 = .ok (.lstore 6, 2) := by decide +kernel
theorem dX11_rootOf_43 : decode cX11_rootOf 43 = .ok (.lload 6, 2) := by decide +kernel
theorem dX11_rootOf_45 : decode cX11_rootOf 45 = .ok (.lload 6, 2) := by decide +kernel
theorem dX11_rootOf_47 : decode cX11_rootOf 47 = .ok (.lmul, 1) := by decide +kernel
theorem dX11_rootOf_48 : decode cX11_rootOf 48 = .ok (.iload_n 1, 1) := by decide +kernel
theorem dX11_rootOf_49 : decode cX11_rootOf 49 = .ok (.i2l, 1) := by decide +kernel
theorem dX11_rootOf_50 : decode cX11_rootOf 50 = .ok (.ldc2_w 173, 3) := by decide +kernel
theorem dX11_rootOf_53 : decode cX11_rootOf 53 = .ok (.lmul, 1) := by decide +kernel
theorem dX11_rootOf_54 : decode cX11_rootOf 54 = .ok (.ldc2_w 173, 3) := by decide +kernel
theorem dX11_rootOf_57 : decode cX11_rootOf 57 = .ok (.lmul, 1) := by decide +kernel
theorem dX11_rootOf_58 : decode cX11_rootOf 58 = .ok (.lcmp, 1) := by decide +kernel
theorem dX11_rootOf_59 : decode cX11_rootOf 59 = .ok (.ifCond .gt 9, 3) := by decide +kernel
theorem dX11_rootOf_62 : decode cX11_rootOf 62 = .ok (.lload 6, 2) := by decide +kernel
theorem dX11_rootOf_64 : decode cX11_rootOf 64 = .ok (.lstore_n 2, 1) := by decide +kernel
theorem dX11_rootOf_65 : decode cX11_rootOf 65 = .ok (.goto 7, 3) := by decide +kernel
theorem dX11_rootOf_68 : decode cX11_rootOf 68 = .ok (.lload 6, 2) := by decide +kernel
theorem dX11_rootOf_70 : decode cX11_rootOf 70 = .ok (.lstore 4, 2) := by decide +kernel
theorem dX11_rootOf_72 : decode cX11_rootOf 72 = .ok (.goto (-48), 3) := by decide +kernel
theorem dX11_rootOf_75 : decode cX11_rootOf 75 = .ok (.aload_n 0, 1) := by decide +kernel
theorem dX11_rootOf_76 : decode cX11_rootOf 76 = .ok (.getfield 33, 3) := by decide +kernel
theorem dX11_rootOf_79 : decode cX11_rootOf 79 = .ok (.iload_n 1, 1) := by decide +kernel
theorem dX11_rootOf_80 : decode cX11_rootOf 80 = .ok (.lload_n 2, 1) := by decide +kernel
theorem dX11_rootOf_81 : decode cX11_rootOf 81 = .ok (.lastore, 1) := by decide +kernel
theorem dX11_rootOf_82 : decode cX11_rootOf 82 = .ok (.aload_n 0, 1) := by decide +kernel
theorem dX11_rootOf_83 : decode cX11_rootOf 83 = .ok (.getfield 33, 3) := by decide +kernel
theorem dX11_rootOf_86 : decode cX11_rootOf 86 = .ok (.iload_n 1, 1) := by decide +kernel
theorem dX11_rootOf_87 : decode cX11_rootOf 87 = .ok (.laload, 1) := by decide +kernel
theorem dX11_rootOf_88 : decode cX11_rootOf 88 = .ok (.lreturn, 1) := by decide +kernel
theorem dX11_putHand_0 : decode cX11_putHand 0 = .ok (.aload_n 0, 1) := by decide +kernel
theorem dX11_putHand_1 : decode cX11_putHand 1 = .ok (.getfield 30, 3) := by decide +kernel
theorem dX11_putHand_4 : decode cX11_putHand 4 = .ok (.aload_n 0, 1) := by decide +kernel
theorem dX11_putHand_5 : decode cX11_putHand 5 = .ok (.getfield 177, 3) := by decide +kernel
theorem dX11_putHand_8 : decode cX11_putHand 8 = .ok (.iload_n 1, 1) := by decide +kernel
theorem dX11_putHand_9 : decode cX11_putHand 9 = .ok (.iastore, 1) := by decide +kernel
theorem dX11_putHand_10 : decode cX11_putHand 10 = .ok (.aload_n 0, 1) := by decide +kernel
theorem dX11_putHand_11 : decode cX11_putHand 11 = .ok (.dup, 1) := by decide +kernel
theorem dX11_putHand_12 : decode cX11_putHand 12 = .ok (.getfield 177, 3) := by decide +kernel
theorem dX11_putHand_15 : decode cX11_putHand 15 = .ok (.iconst 1, 1) := by decide +kernel
theorem dX11_putHand_16 : decode cX11_putHand 16 = .ok (.iadd, 1) := by decide +kernel
theorem dX11_putHand_17 : decode cX11_putHand 17 = .ok (.putfield 177, 3) := by decide +kernel
theorem dX11_putHand_20 : decode cX11_putHand 20 = .ok (.return_, 1) := by decide +kernel
theorem dX11_addedBy_0 : decode cX11_addedBy 0 = .ok (.lconst 0, 1) := by decide +kernel
theorem dX11_addedBy_1 : decode cX11_addedBy 1 = .ok (.lstore_n 2, 1) := by decide +kernel
theorem dX11_addedBy_2 : decode cX11_addedBy 2 = .ok (.lconst 0, 1) := by decide +kernel
theorem dX11_addedBy_3 : decode cX11_addedBy 3 = .ok (.lstore 4, 2) := by decide +kernel
theorem dX11_addedBy_5 : decode cX11_addedBy 5 = .ok (.lconst 0, 1) := by decide +kernel
theorem dX11_addedBy_6 : decode cX11_addedBy 6 = .ok (.lstore 6, 2) := by decide +kernel
theorem dX11_addedBy_8 : decode cX11_addedBy 8 = .ok (.lconst 0, 1) := by decide +kernel
theorem dX11_addedBy_9 : decode cX11_addedBy 9 = .ok (.lstore 8, 2) := by decide +kernel
theorem dX11_addedBy_11 : decode cX11_addedBy 11 = .ok (.lconst 0, 1) := by decide +kernel
theorem dX11_addedBy_12 : decode cX11_addedBy 12 = .ok (.lstore 10, 2) := by decide +kernel
theorem dX11_addedBy_14 : decode cX11_addedBy 14 = .ok (.iconst 0, 1) := by decide +kernel
theorem dX11_addedBy_15 : decode cX11_addedBy 15 = .ok (.istore 12, 2) := by decide +kernel
theorem dX11_addedBy_17 : decode cX11_addedBy 17 = .ok (.iload 12, 2) := by decide +kernel
theorem dX11_addedBy_19 : decode cX11_addedBy 19 = .ok (.aload_n 0, 1) := by decide +kernel
theorem dX11_addedBy_20 : decode cX11_addedBy 20 = .ok (.getfield 177, 3) := by decide +kernel
theorem dX11_addedBy_23 : decode cX11_addedBy 23 = .ok (.if_icmp .ge 91, 3) := by decide +kernel
theorem dX11_addedBy_26 : decode cX11_addedBy 26 = .ok (.aload_n 0, 1) := by decide +kernel
theorem dX11_addedBy_27 : decode cX11_addedBy 27 = .ok (.getfield 30, 3) := by decide +kernel
theorem dX11_addedBy_30 : decode cX11_addedBy 30 = .ok (.iload 12, 2) := by decide +kernel
theorem dX11_addedBy_32 : decode cX11_addedBy 32 = .ok (.iaload, 1) := by decide +kernel
theorem dX11_addedBy_33 : decode cX11_addedBy 33 = .ok (.istore 13, 2) := by decide +kernel
theorem dX11_addedBy_35 : decode cX11_addedBy 35 = .ok (.iload 13, 2) := by decide +kernel
theorem dX11_addedBy_37 : decode cX11_addedBy 37 = .ok (.ifCond .le 71, 3) := by decide +kernel
theorem dX11_addedBy_40 : decode cX11_addedBy 40 = .ok (.lload_n 2, 1) := by decide +kernel
theorem dX11_addedBy_41 : decode cX11_addedBy 41 = .ok (.iload 13, 2) := by decide +kernel
theorem dX11_addedBy_43 : decode cX11_addedBy 43 = .ok (.i2l, 1) := by decide +kernel
theorem dX11_addedBy_44 : decode cX11_addedBy 44 = .ok (.ladd, 1) := by decide +kernel
theorem dX11_addedBy_45 : decode cX11_addedBy 45 = .ok (.lstore_n 2, 1) := by decide +kernel
theorem dX11_addedBy_46 : decode cX11_addedBy 46 = .ok (.lload 4, 2) := by decide +kernel
theorem dX11_addedBy_48 : decode cX11_addedBy 48 = .ok (.lconst 1, 1) := by decide +kernel
theorem dX11_addedBy_49 : decode cX11_addedBy 49 = .ok (.ladd, 1) := by decide +kernel
theorem dX11_addedBy_50 : decode cX11_addedBy 50 = .ok (.lstore 4, 2) := by decide +kernel
theorem dX11_addedBy_52 : decode cX11_addedBy 52 = .ok (.iload 13, 2) := by decide +kernel
theorem dX11_addedBy_54 : decode cX11_addedBy 54 = .ok (.i2l, 1) := by decide +kernel
theorem dX11_addedBy_55 : decode cX11_addedBy 55 = .ok (.lload 6, 2) := by decide +kernel
theorem dX11_addedBy_57 : decode cX11_addedBy 57 = .ok (.lcmp, 1) := by decide +kernel
theorem dX11_addedBy_58 : decode cX11_addedBy 58 = .ok (.ifCond .le 9, 3) := by decide +kernel
theorem dX11_addedBy_61 : decode cX11_addedBy 61 = .ok (.iload 13, 2) := by decide +kernel
theorem dX11_addedBy_63 : decode cX11_addedBy 63 = .ok (.i2l, 1) := by decide +kernel
theorem dX11_addedBy_64 : decode cX11_addedBy 64 = .ok (.goto 5, 3) := by decide +kernel
theorem dX11_addedBy_67 : decode cX11_addedBy 67 = .ok (.lload 6, 2) := by decide +kernel
theorem dX11_addedBy_69 : decode cX11_addedBy 69 = .ok (.lstore 6, 2) := by decide +kernel
theorem dX11_addedBy_71 : decode cX11_addedBy 71 = .ok (.lload 8, 2) := by decide +kernel
theorem dX11_addedBy_73 : decode cX11_addedBy 73 = .ok (.lconst 0, 1) := by decide +kernel
theorem dX11_addedBy_74 : decode cX11_addedBy 74 = .ok (.lcmp, 1) := by decide +kernel
theorem dX11_addedBy_75 : decode cX11_addedBy 75 = .ok (.ifCond .eq 12, 3) := by decide +kernel
theorem dX11_addedBy_78 : decode cX11_addedBy 78 = .ok (.iload 13, 2) := by decide +kernel
theorem dX11_addedBy_80 : decode cX11_addedBy 80 = .ok (.i2l, 1) := by decide +kernel
theorem dX11_addedBy_81 : decode cX11_addedBy 81 = .ok (.lload 8, 2) := by decide +kernel
theorem dX11_addedBy_83 : decode cX11_addedBy 83 = .ok (.lcmp, 1) := by decide +kernel
theorem dX11_addedBy_84 : decode cX11_addedBy 84 = .ok (.ifCond .ge 9, 3) := by decide +kernel
theorem dX11_addedBy_87 : decode cX11_addedBy 87 = .ok (.iload 13, 2) := by decide +kernel
theorem dX11_addedBy_89 : decode cX11_addedBy 89 = .ok (.i2l, 1) := by decide +kernel
theorem dX11_addedBy_90 : decode cX11_addedBy 90 = .ok (.goto 5, 3) := by decide +kernel
theorem dX11_addedBy_93 : decode cX11_addedBy 93 = .ok (.lload 8, 2) := by decide +kernel
theorem dX11_addedBy_95 : decode cX11_addedBy 95 = .ok (.lstore 8, 2) := by decide +kernel
theorem dX11_addedBy_97 : decode cX11_addedBy 97 = .ok (.lload 10, 2) := by decide +kernel
theorem dX11_addedBy_99 : decode cX11_addedBy 99 = .ok (.aload_n 0, 1) := by decide +kernel
theorem dX11_addedBy_100 : decode cX11_addedBy 100 = .ok (.iload 13, 2) := by decide +kernel
theorem dX11_addedBy_102 : decode cX11_addedBy 102 = .ok (.invokevirtual 180, 3) := by decide +kernel
theorem dX11_addedBy_105 : decode cX11_addedBy 105 = .ok (.ladd, 1) := by decide +kernel
theorem dX11_addedBy_106 : decode cX11_addedBy 106 = .ok (.lstore 10, 2) := by decide +kernel
theorem dX11_addedBy_108 : decode cX11_addedBy 108 = .ok (.iinc 12 1, 3) := by decide +kernel
theorem dX11_addedBy_111 : decode cX11_addedBy 111 = .ok (.goto (-94), 3) := by decide +kernel
theorem dX11_addedBy_114 : decode cX11_addedBy 114 = .ok (.aload_n 0, 1) := by decide +kernel
theorem dX11_addedBy_115 : decode cX11_addedBy 115 = .ok (.getfield 27, 3) := by decide +kernel
theorem dX11_addedBy_118 : decode cX11_addedBy 118 = .ok (.iconst 0, 1) := by decide +kernel
theorem dX11_addedBy_119 : decode cX11_addedBy 119 = .ok (.lload_n 2, 1) := by decide +kernel
theorem dX11_addedBy_120 : decode cX11_addedBy 120 = .ok (.lastore, 1) := by decide +kernel
theorem dX11_addedBy_121 : decode cX11_addedBy 121 = .ok (.aload_n 0, 1) := by decide +kernel
theorem dX11_addedBy_122 : decode cX11_addedBy 122 = .ok (.getfield 27, 3) := by decide +kernel
theorem dX11_addedBy_125 : decode cX11_addedBy 125 = .ok (.iconst 1, 1) := by decide +kernel
theorem dX11_addedBy_126 : decode cX11_addedBy 126 = .ok (.lload 4, 2) := by decide +kernel
theorem dX11_addedBy_128 : decode cX11_addedBy 128 = .ok (.lastore, 1) := by decide +kernel
theorem dX11_addedBy_129 : decode cX11_addedBy 129 = .ok (.aload_n 0, 1) := by decide +kernel
theorem dX11_addedBy_130 : decode cX11_addedBy 130 = .ok (.getfield 27, 3) := by decide +kernel
theorem dX11_addedBy_133 : decode cX11_addedBy 133 = .ok (.iconst 2, 1) := by decide +kernel
theorem dX11_addedBy_134 : decode cX11_addedBy 134 = .ok (.lload 6, 2) := by decide +kernel
theorem dX11_addedBy_136 : decode cX11_addedBy 136 = .ok (.lastore, 1) := by decide +kernel
theorem dX11_addedBy_137 : decode cX11_addedBy 137 = .ok (.aload_n 0, 1) := by decide +kernel
theorem dX11_addedBy_138 : decode cX11_addedBy 138 = .ok (.getfield 27, 3) := by decide +kernel
theorem dX11_addedBy_141 : decode cX11_addedBy 141 = .ok (.iconst 3, 1) := by decide +kernel
theorem dX11_addedBy_142 : decode cX11_addedBy 142 = .ok (.lload 8, 2) := by decide +kernel
theorem dX11_addedBy_144 : decode cX11_addedBy 144 = .ok (.lastore, 1) := by decide +kernel
theorem dX11_addedBy_145 : decode cX11_addedBy 145 = .ok (.aload_n 0, 1) := by decide +kernel
theorem dX11_addedBy_146 : decode cX11_addedBy 146 = .ok (.getfield 27, 3) := by decide +kernel
theorem dX11_addedBy_149 : decode cX11_addedBy 149 = .ok (.iconst 4, 1) := by decide +kernel
theorem dX11_addedBy_150 : decode cX11_addedBy 150 = .ok (.lload 10, 2) := by decide +kernel
theorem dX11_addedBy_152 : decode cX11_addedBy 152 = .ok (.lload 10, 2) := by decide +kernel
theorem dX11_addedBy_154 : decode cX11_addedBy 154 = .ok (.lmul, 1) := by decide +kernel
theorem dX11_addedBy_155 : decode cX11_addedBy 155 = .ok (.ldc2_w 184, 3) := by decide +kernel
theorem dX11_addedBy_158 : decode cX11_addedBy 158 = .ok (.ldiv, 1) := by decide +kernel
theorem dX11_addedBy_159 : decode cX11_addedBy 159 = .ok (.lastore, 1) := by decide +kernel
theorem dX11_addedBy_160 : decode cX11_addedBy 160 = .ok (.aload_n 0, 1) := by decide +kernel
theorem dX11_addedBy_161 : decode cX11_addedBy 161 = .ok (.iload_n 1, 1) := by decide +kernel
theorem dX11_addedBy_162 : decode cX11_addedBy 162 = .ok (.putfield 113, 3) := by decide +kernel
theorem dX11_addedBy_165 : decode cX11_addedBy 165 = .ok (.aload_n 0, 1) := by decide +kernel
theorem dX11_addedBy_166 : decode cX11_addedBy 166 = .ok (.invokevirtual 169, 3) := by decide +kernel
theorem dX11_addedBy_169 : decode cX11_addedBy 169 = .ok (.ifCond .ne 5, 3) := by decide +kernel
theorem dX11_addedBy_172 : decode cX11_addedBy 172 = .ok (.iconst 0, 1) := by decide +kernel
theorem dX11_addedBy_173 : decode cX11_addedBy 173 = .ok (.ireturn, 1) := by decide +kernel
theorem dX11_addedBy_174 : decode cX11_addedBy 174 = .ok (.aload_n 0, 1) := by decide +kernel
theorem dX11_addedBy_175 : decode cX11_addedBy 175 = .ok (.getfield 165, 3) := by decide +kernel
theorem dX11_addedBy_178 : decode cX11_addedBy 178 = .ok (.lconst 0, 1) := by decide +kernel
theorem dX11_addedBy_179 : decode cX11_addedBy 179 = .ok (.lcmp, 1) := by decide +kernel
theorem dX11_addedBy_180 : decode cX11_addedBy 180 = .ok (.ifCond .ge 7, 3) := by decide +kernel
theorem dX11_addedBy_183 : decode cX11_addedBy 183 = .ok (.lconst 0, 1) := by decide +kernel
theorem dX11_addedBy_184 : decode cX11_addedBy 184 = .ok (.goto 24, 3) := by decide +kernel
theorem dX11_addedBy_187 : decode cX11_addedBy 187 = .ok (.aload_n 0, 1) := by decide +kernel
theorem dX11_addedBy_188 : decode cX11_addedBy 188 = .ok (.getfield 165, 3) := by decide +kernel
theorem dX11_addedBy_191 : decode cX11_addedBy 191 = .ok (.ldc2_w 104, 3) := by decide +kernel
theorem dX11_addedBy_194 : decode cX11_addedBy 194 = .ok (.lcmp, 1) := by decide +kernel
theorem dX11_addedBy_195 : decode cX11_addedBy 195 = .ok (.ifCond .le 9, 3) := by decide +kernel
theorem dX11_addedBy_198 : decode cX11_addedBy 198 = .ok (.ldc2_w 104, 3) := by decide +kernel
theorem dX11_addedBy_201 : decode cX11_addedBy 201 = .ok (.goto 7, 3) := by decide +kernel
theorem dX11_addedBy_204 : decode cX11_addedBy 204 = .ok (.aload_n 0, 1) := by decide +kernel
theorem dX11_addedBy_205 : decode cX11_addedBy 205 = .ok (.getfield 165, 3) := by decide +kernel
theorem dX11_addedBy_208 : decode cX11_addedBy 208 = .ok (.l2i, 1) := by decide +kernel
theorem dX11_addedBy_209 : decode cX11_addedBy 209 = .ok (.ireturn, 1) := by decide +kernel
theorem dX11_addUp_0 : decode cX11_addUp 0 = .ok (.iconst 0, 1) := by decide +kernel
theorem dX11_addUp_1 : decode cX11_addUp 1 = .ok (.istore_n 1, 1) := by decide +kernel
theorem dX11_addUp_2 : decode cX11_addUp 2 = .ok (.iconst 0, 1) := by decide +kernel
theorem dX11_addUp_3 : decode cX11_addUp 3 = .ok (.istore_n 2, 1) := by decide +kernel
theorem dX11_addUp_4 : decode cX11_addUp 4 = .ok (.iload_n 2, 1) := by decide +kernel
theorem dX11_addUp_5 : decode cX11_addUp 5 = .ok (.aload_n 0, 1) := by decide +kernel
theorem dX11_addUp_6 : decode cX11_addUp 6 = .ok (.invokevirtual 84, 3) := by decide +kernel
theorem dX11_addUp_9 : decode cX11_addUp 9 = .ok (.if_icmp .ge 156, 3) := by decide +kernel
theorem dX11_addUp_12 : decode cX11_addUp 12 = .ok (.aload_n 0, 1) := by decide +kernel
theorem dX11_addUp_13 : decode cX11_addUp 13 = .ok (.iconst 0, 1) := by decide +kernel
theorem dX11_addUp_14 : decode cX11_addUp 14 = .ok (.putfield 177, 3) := by decide +kernel
theorem dX11_addUp_17 : decode cX11_addUp 17 = .ok (.aload_n 0, 1) := by decide +kernel
theorem dX11_addUp_18 : decode cX11_addUp 18 = .ok (.getfield 42, 3) := by decide +kernel
theorem dX11_addUp_21 : decode cX11_addUp 21 = .ok (.iload_n 2, 1) := by decide +kernel
theorem dX11_addUp_22 : decode cX11_addUp 22 = .ok (.iconst 0, 1) := by decide +kernel
theorem dX11_addUp_23 : decode cX11_addUp 23 = .ok (.iastore, 1) := by decide +kernel
theorem dX11_addUp_24 : decode cX11_addUp 24 = .ok (.iconst 0, 1) := by decide +kernel
theorem dX11_addUp_25 : decode cX11_addUp 25 = .ok (.istore_n 3, 1) := by decide +kernel
theorem dX11_addUp_26 : decode cX11_addUp 26 = .ok (.iload_n 3, 1) := by decide +kernel
theorem dX11_addUp_27 : decode cX11_addUp 27 = .ok (.aload_n 0, 1) := by decide +kernel
theorem dX11_addUp_28 : decode cX11_addUp 28 = .ok (.invokevirtual 76, 3) := by decide +kernel
theorem dX11_addUp_31 : decode cX11_addUp 31 = .ok (.if_icmp .ge 79, 3) := by decide +kernel
theorem dX11_addUp_34 : decode cX11_addUp 34 = .ok (.aload_n 0, 1) := by decide +kernel
theorem dX11_addUp_35 : decode cX11_addUp 35 = .ok (.getfield 42, 3) := by decide +kernel
theorem dX11_addUp_38 : decode cX11_addUp 38 = .ok (.iload_n 2, 1) := by decide +kernel
theorem dX11_addUp_39 : decode cX11_addUp 39 = .ok (.dup2, 1) := by decide +kernel
theorem dX11_addUp_40 : decode cX11_addUp 40 = .ok (.iaload, 1) := by decide +kernel
theorem dX11_addUp_41 : decode cX11_addUp 41 = .ok (.aload_n 0, 1) := by decide +kernel
theorem dX11_addUp_42 : decode cX11_addUp 42 = .ok (.iload_n 3, 1) := by decide +kernel
theorem dX11_addUp_43 : decode cX11_addUp 43 = .ok (.iload_n 2, 1) := by decide +kernel
theorem dX11_addUp_44 : decode cX11_addUp 44 = .ok (.invokevirtual 186, 3) := by decide +kernel
theorem dX11_addUp_47 : decode cX11_addUp 47 = .ok (.iadd, 1) := by decide +kernel
theorem dX11_addUp_48 : decode cX11_addUp 48 = .ok (.iastore, 1) := by decide +kernel
theorem dX11_addUp_49 : decode cX11_addUp 49 = .ok (.iload_n 3, 1) := by decide +kernel
theorem dX11_addUp_50 : decode cX11_addUp 50 = .ok (.aload_n 0, 1) := by decide +kernel
theorem dX11_addUp_51 : decode cX11_addUp 51 = .ok (.getfield 45, 3) := by decide +kernel
theorem dX11_addUp_54 : decode cX11_addUp 54 = .ok (.if_icmp .ne 40, 3) := by decide +kernel
theorem dX11_addUp_57 : decode cX11_addUp 57 = .ok (.iload_n 2, 1) := by decide +kernel
theorem dX11_addUp_58 : decode cX11_addUp 58 = .ok (.aload_n 0, 1) := by decide +kernel
theorem dX11_addUp_59 : decode cX11_addUp 59 = .ok (.getfield 49, 3) := by decide +kernel
theorem dX11_addUp_62 : decode cX11_addUp 62 = .ok (.if_icmp .ne 32, 3) := by decide +kernel
theorem dX11_addUp_65 : decode cX11_addUp 65 = .ok (.iconst 0, 1) := by decide +kernel
theorem dX11_addUp_66 : decode cX11_addUp 66 = .ok (.istore 4, 2) := by decide +kernel
theorem dX11_addUp_68 : decode cX11_addUp 68 = .ok (.iload 4, 2) := by decide +kernel
theorem dX11_addUp_70 : decode cX11_addUp 70 = .ok (.iconst 4, 1) := by decide +kernel
theorem dX11_addUp_71 : decode cX11_addUp 71 = .ok (.if_icmp .ge 20, 3) := by decide +kernel
theorem dX11_addUp_74 : decode cX11_addUp 74 = .ok (.aload_n 0, 1) := by decide +kernel
theorem dX11_addUp_75 : decode cX11_addUp 75 = .ok (.aload_n 0, 1) := by decide +kernel
theorem dX11_addUp_76 : decode cX11_addUp 76 = .ok (.getfield 52, 3) := by decide +kernel
theorem dX11_addUp_79 : decode cX11_addUp 79 = .ok (.iload 4, 2) := by decide +kernel
theorem dX11_addUp_81 : decode cX11_addUp 81 = .ok (.iaload, 1) := by decide +kernel
theorem dX11_addUp_82 : decode cX11_addUp 82 = .ok (.invokevirtual 190, 3) := by decide +kernel
theorem dX11_addUp_85 : decode cX11_addUp 85 = .ok (.iinc 4 1, 3) := by decide +kernel
theorem dX11_addUp_88 : decode cX11_addUp 88 = .ok (.goto (-20), 3) := by decide +kernel
theorem dX11_addUp_91 : decode cX11_addUp 91 = .ok (.goto 13, 3) := by decide +kernel
theorem dX11_addUp_94 : decode cX11_addUp 94 = .ok (.aload_n 0, 1) := by decide +kernel
theorem dX11_addUp_95 : decode cX11_addUp 95 = .ok (.aload_n 0, 1) := by decide +kernel
theorem dX11_addUp_96 : decode cX11_addUp 96 = .ok (.iload_n 3, 1) := by decide +kernel
theorem dX11_addUp_97 : decode cX11_addUp 97 = .ok (.iload_n 2, 1) := by decide +kernel
theorem dX11_addUp_98 : decode cX11_addUp 98 = .ok (.invokevirtual 186, 3) := by decide +kernel
theorem dX11_addUp_101 : decode cX11_addUp 101 = .ok (.invokevirtual 190, 3) := by decide +kernel
theorem dX11_addUp_104 : decode cX11_addUp 104 = .ok (.iinc 3 1, 3) := by decide +kernel
theorem dX11_addUp_107 : decode cX11_addUp 107 = .ok (.goto (-81), 3) := by decide +kernel
theorem dX11_addUp_110 : decode cX11_addUp 110 = .ok (.aload_n 0, 1) := by decide +kernel
theorem dX11_addUp_111 : decode cX11_addUp 111 = .ok (.getfield 36, 3) := by decide +kernel
theorem dX11_addUp_114 : decode cX11_addUp 114 = .ok (.iload_n 2, 1) := by decide +kernel
theorem dX11_addUp_115 : decode cX11_addUp 115 = .ok (.aload_n 0, 1) := by decide +kernel
theorem dX11_addUp_116 : decode cX11_addUp 116 = .ok (.getfield 193, 3) := by decide +kernel
theorem dX11_addUp_119 : decode cX11_addUp 119 = .ok (.ifCond .eq 7, 3) := by decide +kernel
theorem dX11_addUp_122 : decode cX11_addUp 122 = .ok (.iconst 0, 1) := by decide +kernel
theorem dX11_addUp_123 : decode cX11_addUp 123 = .ok (.goto 14, 3) := by decide +kernel
theorem dX11_addUp_126 : decode cX11_addUp 126 = .ok (.aload_n 0, 1) := by decide +kernel
theorem dX11_addUp_127 : decode cX11_addUp 127 = .ok (.aload_n 0, 1) := by decide +kernel
theorem dX11_addUp_128 : decode cX11_addUp 128 = .ok (.getfield 7, 3) := by decide +kernel
theorem dX11_addUp_131 : decode cX11_addUp 131 = .ok (.bipush 54, 2) := by decide +kernel
theorem dX11_addUp_133 : decode cX11_addUp 133 = .ok (.iaload, 1) := by decide +kernel
theorem dX11_addUp_134 : decode cX11_addUp 134 = .ok (.invokevirtual 197, 3) := by decide +kernel
theorem dX11_addUp_137 : decode cX11_addUp 137 = .ok (.iastore, 1) := by decide +kernel
theorem dX11_addUp_138 : decode cX11_addUp 138 = .ok (.aload_n 0, 1) := by decide +kernel
theorem dX11_addUp_139 : decode cX11_addUp 139 = .ok (.getfield 39, 3) := by decide +kernel
theorem dX11_addUp_142 : decode cX11_addUp 142 = .ok (.iload_n 2, 1) := by decide +kernel
theorem dX11_addUp_143 : decode cX11_addUp 143 = .ok (.aload_n 0, 1) := by decide +kernel
theorem dX11_addUp_144 : decode cX11_addUp 144 = .ok (.getfield 36, 3) := by decide +kernel
theorem dX11_addUp_147 : decode cX11_addUp 147 = .ok (.iload_n 2, 1) := by decide +kernel
theorem dX11_addUp_148 : decode cX11_addUp 148 = .ok (.iaload, 1) := by decide +kernel
theorem dX11_addUp_149 : decode cX11_addUp 149 = .ok (.iastore, 1) := by decide +kernel
theorem dX11_addUp_150 : decode cX11_addUp 150 = .ok (.iload_n 1, 1) := by decide +kernel
theorem dX11_addUp_151 : decode cX11_addUp 151 = .ok (.aload_n 0, 1) := by decide +kernel
theorem dX11_addUp_152 : decode cX11_addUp 152 = .ok (.getfield 36, 3) := by decide +kernel
theorem dX11_addUp_155 : decode cX11_addUp 155 = .ok (.iload_n 2, 1) := by decide +kernel
theorem dX11_addUp_156 : decode cX11_addUp 156 = .ok (.iaload, 1) := by decide +kernel
theorem dX11_addUp_157 : decode cX11_addUp 157 = .ok (.iadd, 1) := by decide +kernel
theorem dX11_addUp_158 : decode cX11_addUp 158 = .ok (.istore_n 1, 1) := by decide +kernel
theorem dX11_addUp_159 : decode cX11_addUp 159 = .ok (.iinc 2 1, 3) := by decide +kernel
theorem dX11_addUp_162 : decode cX11_addUp 162 = .ok (.goto (-158), 3) := by decide +kernel
theorem dX11_addUp_165 : decode cX11_addUp 165 = .ok (.aload_n 0, 1) := by decide +kernel
theorem dX11_addUp_166 : decode cX11_addUp 166 = .ok (.getfield 7, 3) := by decide +kernel
theorem dX11_addUp_169 : decode cX11_addUp 169 = .ok (.bipush 55, 2) := by decide +kernel
theorem dX11_addUp_171 : decode cX11_addUp 171 = .ok (.iaload, 1) := by decide +kernel
theorem dX11_addUp_172 : decode cX11_addUp 172 = .ok (.istore_n 2, 1) := by decide +kernel
theorem dX11_addUp_173 : decode cX11_addUp 173 = .ok (.iload_n 1, 1) := by decide +kernel
theorem dX11_addUp_174 : decode cX11_addUp 174 = .ok (.iload_n 2, 1) := by decide +kernel
theorem dX11_addUp_175 : decode cX11_addUp 175 = .ok (.if_icmp .le 9, 3) := by decide +kernel
theorem dX11_addUp_178 : decode cX11_addUp 178 = .ok (.aload_n 0, 1) := by decide +kernel
theorem dX11_addUp_179 : decode cX11_addUp 179 = .ok (.iload_n 1, 1) := by decide +kernel
theorem dX11_addUp_180 : decode cX11_addUp 180 = .ok (.iload_n 2, 1) := by decide +kernel
theorem dX11_addUp_181 : decode cX11_addUp 181 = .ok (.invokevirtual 200, 3) := by decide +kernel
theorem dX11_addUp_184 : decode cX11_addUp 184 = .ok (.return_, 1) := by decide +kernel
theorem dX11_part_0 : decode cX11_part 0 = .ok (.bipush 99, 2) := by decide +kernel
theorem dX11_part_2 : decode cX11_part 2 = .ok (.istore_n 3, 1) := by decide +kernel
theorem dX11_part_3 : decode cX11_part 3 = .ok (.aload_n 0, 1) := by decide +kernel
theorem dX11_part_4 : decode cX11_part 4 = .ok (.getfield 7, 3) := by decide +kernel
theorem dX11_part_7 : decode cX11_part 7 = .ok (.bipush 56, 2) := by decide +kernel
theorem dX11_part_9 : decode cX11_part 9 = .ok (.iaload, 1) := by decide +kernel
theorem dX11_part_10 : decode cX11_part 10 = .ok (.iconst 2, 1) := by decide +kernel
theorem dX11_part_11 : decode cX11_part 11 = .ok (.if_icmp .ne 18, 3) := by decide +kernel
theorem dX11_part_14 : decode cX11_part 14 = .ok (.aload_n 0, 1) := by decide +kernel
theorem dX11_part_15 : decode cX11_part 15 = .ok (.iload_n 3, 1) := by decide +kernel
theorem dX11_part_16 : decode cX11_part 16 = .ok (.invokevirtual 204, 3) := by decide +kernel
theorem dX11_part_19 : decode cX11_part 19 = .ok (.iload_n 2, 1) := by decide +kernel
theorem dX11_part_20 : decode cX11_part 20 = .ok (.if_icmp .le 9, 3) := by decide +kernel
theorem dX11_part_23 : decode cX11_part 23 = .ok (.iinc 3 (-1), 3) := by decide +kernel
theorem dX11_part_26 : decode cX11_part 26 = .ok (.goto (-23), 3) := by decide +kernel
theorem dX11_part_29 : decode cX11_part 29 = .ok (.iload_n 2, 1) := by decide +kernel
theorem dX11_part_30 : decode cX11_part 30 = .ok (.istore 4, 2) := by decide +kernel
theorem dX11_part_32 : decode cX11_part 32 = .ok (.iconst 0, 1) := by decide +kernel
theorem dX11_part_33 : decode cX11_part 33 = .ok (.istore 5, 2) := by decide +kernel
theorem dX11_part_35 : decode cX11_part 35 = .ok (.iload 5, 2) := by decide +kernel
theorem dX11_part_37 : decode cX11_part 37 = .ok (.aload_n 0, 1) := by decide +kernel
theorem dX11_part_38 : decode cX11_part 38 = .ok (.invokevirtual 84, 3) := by decide +kernel
theorem dX11_part_41 : decode cX11_part 41 = .ok (.if_icmp .ge 126, 3) := by decide +kernel
theorem dX11_part_44 : decode cX11_part 44 = .ok (.aload_n 0, 1) := by decide +kernel
theorem dX11_part_45 : decode cX11_part 45 = .ok (.getfield 7, 3) := by decide +kernel
theorem dX11_part_48 : decode cX11_part 48 = .ok (.bipush 56, 2) := by decide +kernel
theorem dX11_part_50 : decode cX11_part 50 = .ok (.iaload, 1) := by decide +kernel
theorem dX11_part_51 : decode cX11_part 51 = .ok (.ifCond .ne 24, 3) := by decide +kernel
theorem dX11_part_54 : decode cX11_part 54 = .ok (.aload_n 0, 1) := by decide +kernel
theorem dX11_part_55 : decode cX11_part 55 = .ok (.getfield 39, 3) := by decide +kernel
theorem dX11_part_58 : decode cX11_part 58 = .ok (.iload 5, 2) := by decide +kernel
theorem dX11_part_60 : decode cX11_part 60 = .ok (.aload_n 0, 1) := by decide +kernel
theorem dX11_part_61 : decode cX11_part 61 = .ok (.getfield 36, 3) := by decide +kernel
theorem dX11_part_64 : decode cX11_part 64 = .ok (.iload 5, 2) := by decide +kernel
theorem dX11_part_66 : decode cX11_part 66 = .ok (.iaload, 1) := by decide +kernel
theorem dX11_part_67 : decode cX11_part 67 = .ok (.iload_n 2, 1) := by decide +kernel
theorem dX11_part_68 : decode cX11_part 68 = .ok (.imul, 1) := by decide +kernel
theorem dX11_part_69 : decode cX11_part 69 = .ok (.iload_n 1, 1) := by decide +kernel
theorem dX11_part_70 : decode cX11_part 70 = .ok (.idiv, 1) := by decide +kernel
theorem dX11_part_71 : decode cX11_part 71 = .ok (.iastore, 1) := by decide +kernel
theorem dX11_part_72 : decode cX11_part 72 = .ok (.goto 89, 3) := by decide +kernel
theorem dX11_part_75 : decode cX11_part 75 = .ok (.aload_n 0, 1) := by decide +kernel
theorem dX11_part_76 : decode cX11_part 76 = .ok (.getfield 7, 3) := by decide +kernel
theorem dX11_part_79 : decode cX11_part 79 = .ok (.bipush 56, 2) := by decide +kernel
theorem dX11_part_81 : decode cX11_part 81 = .ok (.iaload, 1) := by decide +kernel
theorem dX11_part_82 : decode cX11_part 82 = .ok (.iconst 1, 1) := by decide +kernel
theorem dX11_part_83 : decode cX11_part 83 = .ok (.if_icmp .ne 49, 3) := by decide +kernel
theorem dX11_part_86 : decode cX11_part 86 = .ok (.aload_n 0, 1) := by decide +kernel
theorem dX11_part_87 : decode cX11_part 87 = .ok (.getfield 39, 3) := by decide +kernel
theorem dX11_part_90 : decode cX11_part 90 = .ok (.iload 5, 2) := by decide +kernel
theorem dX11_part_92 : decode cX11_part 92 = .ok (.aload_n 0, 1) := by decide +kernel
theorem dX11_part_93 : decode cX11_part 93 = .ok (.getfield 36, 3) := by decide +kernel
theorem dX11_part_96 : decode cX11_part 96 = .ok (.iload 5, 2) := by decide +kernel
theorem dX11_part_98 : decode cX11_part 98 = .ok (.iaload, 1) := by decide +kernel
theorem dX11_part_99 : decode cX11_part 99 = .ok (.iload 4, 2) := by decide +kernel
theorem dX11_part_101 : decode cX11_part 101 = .ok (.if_icmp .ge 13, 3) := by decide +kernel
theorem dX11_part_104 : decode cX11_part 104 = .ok (.aload_n 0, 1) := by decide +kernel
theorem dX11_part_105 : decode cX11_part 105 = .ok (.getfield 36, 3) := by decide +kernel
theorem dX11_part_108 : decode cX11_part 108 = .ok (.iload 5, 2) := by decide +kernel
theorem dX11_part_110 : decode cX11_part 110 = .ok (.iaload, 1) := by decide +kernel
theorem dX11_part_111 : decode cX11_part 111 = .ok (.goto 5, 3) := by decide +kernel
theorem dX11_part_114 : decode cX11_part 114 = .ok (.iload 4, 2) := by decide +kernel
theorem dX11_part_116 : decode cX11_part 116 = .ok (.iastore, 1) := by decide +kernel
theorem dX11_part_117 : decode cX11_part 117 = .ok (.iload 4, 2) := by decide +kernel
theorem dX11_part_119 : decode cX11_part 119 = .ok (.aload_n 0, 1) := by decide +kernel
theorem dX11_part_120 : decode cX11_part 120 = .ok (.getfield 39, 3) := by decide +kernel
theorem dX11_part_123 : decode cX11_part 123 = .ok (.iload 5, 2) := by decide +kernel
theorem dX11_part_125 : decode cX11_part 125 = .ok (.iaload, 1) := by decide +kernel
theorem dX11_part_126 : decode cX11_part 126 = .ok (.isub, 1) := by decide +kernel
theorem dX11_part_127 : decode cX11_part 127 = .ok (.istore 4, 2) := by decide +kernel
theorem dX11_part_129 : decode cX11_part 129 = .ok (.goto 32, 3) := by decide +kernel
theorem dX11_part_132 : decode cX11_part 132 = .ok (.aload_n 0, 1) := by decide +kernel
theorem dX11_part_133 : decode cX11_part 133 = .ok (.getfield 39, 3) := by decide +kernel
theorem dX11_part_136 : decode cX11_part 136 = .ok (.iload 5, 2) := by decide +kernel
theorem dX11_part_138 : decode cX11_part 138 = .ok (.aload_n 0, 1) := by decide +kernel
theorem dX11_part_139 : decode cX11_part 139 = .ok (.getfield 36, 3) := by decide +kernel
theorem dX11_part_142 : decode cX11_part 142 = .ok (.iload 5, 2) := by decide +kernel
theorem dX11_part_144 : decode cX11_part 144 = .ok (.iaload, 1) := by decide +kernel
theorem dX11_part_145 : decode cX11_part 145 = .ok (.iload_n 3, 1) := by decide +kernel
theorem dX11_part_146 : decode cX11_part 146 = .ok (.if_icmp .ge 13, 3) := by decide +kernel
theorem dX11_part_149 : decode cX11_part 149 = .ok (.aload_n 0, 1) := by decide +kernel
theorem dX11_part_150 : decode cX11_part 150 = .ok (.getfield 36, 3) := by decide +kernel
theorem dX11_part_153 : decode cX11_part 153 = .ok (.iload 5, 2) := by decide +kernel
theorem dX11_part_155 : decode cX11_part 155 = .ok (.iaload, 1) := by decide +kernel
theorem dX11_part_156 : decode cX11_part 156 = .ok (.goto 4, 3) := by decide +kernel
theorem dX11_part_159 : decode cX11_part 159 = .ok (.iload_n 3, 1) := by decide +kernel
theorem dX11_part_160 : decode cX11_part 160 = .ok (.iastore, 1) := by decide +kernel
theorem dX11_part_161 : decode cX11_part 161 = .ok (.iinc 5 1, 3) := by decide +kernel
theorem dX11_part_164 : decode cX11_part 164 = .ok (.goto (-129), 3) := by decide +kernel
theorem dX11_part_167 : decode cX11_part 167 = .ok (.return_, 1) := by decide +kernel
theorem dX11_below_0 : decode cX11_below 0 = .ok (.iconst 0, 1) := by decide +kernel
theorem dX11_below_1 : decode cX11_below 1 = .ok (.istore_n 2, 1) := by decide +kernel
theorem dX11_below_2 : decode cX11_below 2 = .ok (.iconst 0, 1) := by decide +kernel
theorem dX11_below_3 : decode cX11_below 3 = .ok (.istore_n 3, 1) := by decide +kernel
theorem dX11_below_4 : decode cX11_below 4 = .ok (.iload_n 3, 1) := by decide +kernel
theorem dX11_below_5 : decode cX11_below 5 = .ok (.aload_n 0, 1) := by decide +kernel
theorem dX11_below_6 : decode cX11_below 6 = .ok (.invokevirtual 84, 3) := by decide +kernel
theorem dX11_below_9 : decode cX11_below 9 = .ok (.if_icmp .ge 32, 3) := by decide +kernel
theorem dX11_below_12 : decode cX11_below 12 = .ok (.iload_n 2, 1) := by decide +kernel
