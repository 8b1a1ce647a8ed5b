theorem dX11_below_13 : decode cX11_below 13 = .ok (.aload_n 0, 1) := by decide +kernel
theorem dX11_below_14 : decode cX11_below 14 = .ok (.getfield 36, 3) := by decide +kernel
theorem dX11_below_17 : decode cX11_below 17 = .ok (.iload_n 3, 1) := by decide +kernel
theorem dX11_below_18 : decode cX11_below 18 = .ok (.iaload, 1) := by decide +kernel
theorem dX11_below_19 : decode cX11_below 19 = .ok (.iload_n 1, 1) := by decide +kernel
theorem dX11_below_20 : decode cX11_below 20 = .ok (.if_icmp .ge 12, 3) := by decide +kernel
theorem dX11_below_23 : decode cX11_below 23 = .ok (.aload_n 0, 1) := by decide +kernel
theorem dX11_below_24 : decode cX11_below 24 = .ok (.getfield 36, 3) := by decide +kernel
theorem dX11_below_27 : decode cX11_below 27 = .ok (.iload_n 3, 1) := by decide +kernel
theorem dX11_below_28 : decode cX11_below 28 = .ok (.iaload, 1) := by decide +kernel
theorem dX11_below_29 : decode cX11_below 29 = .ok (.goto 4, 3) := by decide +kernel
theorem dX11_below_32 : decode cX11_below 32 = .ok (.iload_n 1, 1) := by decide +kernel
theorem dX11_below_33 : decode cX11_below 33 = .ok (.iadd, 1) := by decide +kernel
theorem dX11_below_34 : decode cX11_below 34 = .ok (.istore_n 2, 1) := by decide +kernel
theorem dX11_below_35 : decode cX11_below 35 = .ok (.iinc 3 1, 3) := by decide +kernel
theorem dX11_below_38 : decode cX11_below 38 = .ok (.goto (-34), 3) := by decide +kernel
theorem dX11_below_41 : decode cX11_below 41 = .ok (.iload_n 2, 1) := by decide +kernel
theorem dX11_below_42 : decode cX11_below 42 = .ok (.ireturn, 1) := by decide +kernel
theorem dX11_worthOf_0 : decode cX11_worthOf 0 = .ok (.iload_n 3, 1) := by decide +kernel
theorem dX11_worthOf_1 : decode cX11_worthOf 1 = .ok (.aload_n 0, 1) := by decide +kernel
theorem dX11_worthOf_2 : decode cX11_worthOf 2 = .ok (.getfield 7, 3) := by decide +kernel
theorem dX11_worthOf_5 : decode cX11_worthOf 5 = .ok (.bipush 50, 2) := by decide +kernel
theorem dX11_worthOf_7 : decode cX11_worthOf 7 = .ok (.iload_n 2, 1) := by decide +kernel
theorem dX11_worthOf_8 : decode cX11_worthOf 8 = .ok (.iadd, 1) := by decide +kernel
theorem dX11_worthOf_9 : decode cX11_worthOf 9 = .ok (.iaload, 1) := by decide +kernel
theorem dX11_worthOf_10 : decode cX11_worthOf 10 = .ok (.if_icmp .ge 5, 3) := by decide +kernel
theorem dX11_worthOf_13 : decode cX11_worthOf 13 = .ok (.iconst 0, 1) := by decide +kernel
theorem dX11_worthOf_14 : decode cX11_worthOf 14 = .ok (.ireturn, 1) := by decide +kernel
theorem dX11_worthOf_15 : decode cX11_worthOf 15 = .ok (.iconst 0, 1) := by decide +kernel
theorem dX11_worthOf_16 : decode cX11_worthOf 16 = .ok (.istore 4, 2) := by decide +kernel
theorem dX11_worthOf_18 : decode cX11_worthOf 18 = .ok (.iconst 0, 1) := by decide +kernel
theorem dX11_worthOf_19 : decode cX11_worthOf 19 = .ok (.istore 5, 2) := by decide +kernel
theorem dX11_worthOf_21 : decode cX11_worthOf 21 = .ok (.iload 5, 2) := by decide +kernel
theorem dX11_worthOf_23 : decode cX11_worthOf 23 = .ok (.iload_n 3, 1) := by decide +kernel
theorem dX11_worthOf_24 : decode cX11_worthOf 24 = .ok (.if_icmp .ge 70, 3) := by decide +kernel
theorem dX11_worthOf_27 : decode cX11_worthOf 27 = .ok (.iload 5, 2) := by decide +kernel
theorem dX11_worthOf_29 : decode cX11_worthOf 29 = .ok (.bipush 60, 2) := by decide +kernel
theorem dX11_worthOf_31 : decode cX11_worthOf 31 = .ok (.if_icmp .ge 63, 3) := by decide +kernel
theorem dX11_worthOf_34 : decode cX11_worthOf 34 = .ok (.aload_n 0, 1) := by decide +kernel
theorem dX11_worthOf_35 : decode cX11_worthOf 35 = .ok (.getfield 7, 3) := by decide +kernel
theorem dX11_worthOf_38 : decode cX11_worthOf 38 = .ok (.iconst 5, 1) := by decide +kernel
theorem dX11_worthOf_39 : decode cX11_worthOf 39 = .ok (.bipush 6, 2) := by decide +kernel
theorem dX11_worthOf_41 : decode cX11_worthOf 41 = .ok (.iload_n 1, 1) := by decide +kernel
theorem dX11_worthOf_42 : decode cX11_worthOf 42 = .ok (.imul, 1) := by decide +kernel
theorem dX11_worthOf_43 : decode cX11_worthOf 43 = .ok (.iadd, 1) := by decide +kernel
theorem dX11_worthOf_44 : decode cX11_worthOf 44 = .ok (.iconst 2, 1) := by decide +kernel
theorem dX11_worthOf_45 : decode cX11_worthOf 45 = .ok (.iload_n 2, 1) := by decide +kernel
theorem dX11_worthOf_46 : decode cX11_worthOf 46 = .ok (.imul, 1) := by decide +kernel
theorem dX11_worthOf_47 : decode cX11_worthOf 47 = .ok (.iadd, 1) := by decide +kernel
theorem dX11_worthOf_48 : decode cX11_worthOf 48 = .ok (.iaload, 1) := by decide +kernel
theorem dX11_worthOf_49 : decode cX11_worthOf 49 = .ok (.aload_n 0, 1) := by decide +kernel
theorem dX11_worthOf_50 : decode cX11_worthOf 50 = .ok (.getfield 7, 3) := by decide +kernel
theorem dX11_worthOf_53 : decode cX11_worthOf 53 = .ok (.iconst 5, 1) := by decide +kernel
theorem dX11_worthOf_54 : decode cX11_worthOf 54 = .ok (.bipush 6, 2) := by decide +kernel
theorem dX11_worthOf_56 : decode cX11_worthOf 56 = .ok (.iload_n 1, 1) := by decide +kernel
theorem dX11_worthOf_57 : decode cX11_worthOf 57 = .ok (.imul, 1) := by decide +kernel
theorem dX11_worthOf_58 : decode cX11_worthOf 58 = .ok (.iadd, 1) := by decide +kernel
theorem dX11_worthOf_59 : decode cX11_worthOf 59 = .ok (.iconst 2, 1) := by decide +kernel
theorem dX11_worthOf_60 : decode cX11_worthOf 60 = .ok (.iload_n 2, 1) := by decide +kernel
theorem dX11_worthOf_61 : decode cX11_worthOf 61 = .ok (.imul, 1) := by decide +kernel
theorem dX11_worthOf_62 : decode cX11_worthOf 62 = .ok (.iadd, 1) := by decide +kernel
theorem dX11_worthOf_63 : decode cX11_worthOf 63 = .ok (.iconst 1, 1) := by decide +kernel
theorem dX11_worthOf_64 : decode cX11_worthOf 64 = .ok (.iadd, 1) := by decide +kernel
theorem dX11_worthOf_65 : decode cX11_worthOf 65 = .ok (.iaload, 1) := by decide +kernel
theorem dX11_worthOf_66 : decode cX11_worthOf 66 = .ok (.iload 5, 2) := by decide +kernel
theorem dX11_worthOf_68 : decode cX11_worthOf 68 = .ok (.imul, 1) := by decide +kernel
theorem dX11_worthOf_69 : decode cX11_worthOf 69 = .ok (.isub, 1) := by decide +kernel
theorem dX11_worthOf_70 : decode cX11_worthOf 70 = .ok (.istore 6, 2) := by decide +kernel
theorem dX11_worthOf_72 : decode cX11_worthOf 72 = .ok (.iload 4, 2) := by decide +kernel
theorem dX11_worthOf_74 : decode cX11_worthOf 74 = .ok (.iload 6, 2) := by decide +kernel
theorem dX11_worthOf_76 : decode cX11_worthOf 76 = .ok (.ifCond .le 8, 3) := by decide +kernel
theorem dX11_worthOf_79 : decode cX11_worthOf 79 = .ok (.iload 6, 2) := by decide +kernel
theorem dX11_worthOf_81 : decode cX11_worthOf 81 = .ok (.goto 4, 3) := by decide +kernel
theorem dX11_worthOf_84 : decode cX11_worthOf 84 = .ok (.iconst 0, 1) := by decide +kernel
theorem dX11_worthOf_85 : decode cX11_worthOf 85 = .ok (.iadd, 1) := by decide +kernel
theorem dX11_worthOf_86 : decode cX11_worthOf 86 = .ok (.istore 4, 2) := by decide +kernel
theorem dX11_worthOf_88 : decode cX11_worthOf 88 = .ok (.iinc 5 1, 3) := by decide +kernel
theorem dX11_worthOf_91 : decode cX11_worthOf 91 = .ok (.goto (-70), 3) := by decide +kernel
theorem dX11_worthOf_94 : decode cX11_worthOf 94 = .ok (.iload 4, 2) := by decide +kernel
theorem dX11_worthOf_96 : decode cX11_worthOf 96 = .ok (.ireturn, 1) := by decide +kernel
theorem dX11_hasNow_0 : decode cX11_hasNow 0 = .ok (.iconst 0, 1) := by decide +kernel
theorem dX11_hasNow_1 : decode cX11_hasNow 1 = .ok (.istore_n 2, 1) := by decide +kernel
theorem dX11_hasNow_2 : decode cX11_hasNow 2 = .ok (.aload_n 0, 1) := by decide +kernel
theorem dX11_hasNow_3 : decode cX11_hasNow 3 = .ok (.getfield 7, 3) := by decide +kernel
theorem dX11_hasNow_6 : decode cX11_hasNow 6 = .ok (.iconst 0, 1) := by decide +kernel
theorem dX11_hasNow_7 : decode cX11_hasNow 7 = .ok (.iload_n 1, 1) := by decide +kernel
theorem dX11_hasNow_8 : decode cX11_hasNow 8 = .ok (.iadd, 1) := by decide +kernel
theorem dX11_hasNow_9 : decode cX11_hasNow 9 = .ok (.iaload, 1) := by decide +kernel
theorem dX11_hasNow_10 : decode cX11_hasNow 10 = .ok (.istore_n 3, 1) := by decide +kernel
theorem dX11_hasNow_11 : decode cX11_hasNow 11 = .ok (.iconst 0, 1) := by decide +kernel
theorem dX11_hasNow_12 : decode cX11_hasNow 12 = .ok (.istore 4, 2) := by decide +kernel
theorem dX11_hasNow_14 : decode cX11_hasNow 14 = .ok (.iload 4, 2) := by decide +kernel
theorem dX11_hasNow_16 : decode cX11_hasNow 16 = .ok (.aload_n 0, 1) := by decide +kernel
theorem dX11_hasNow_17 : decode cX11_hasNow 17 = .ok (.invokevirtual 84, 3) := by decide +kernel
theorem dX11_hasNow_20 : decode cX11_hasNow 20 = .ok (.if_icmp .ge 44, 3) := by decide +kernel
theorem dX11_hasNow_23 : decode cX11_hasNow 23 = .ok (.iload_n 2, 1) := by decide +kernel
theorem dX11_hasNow_24 : decode cX11_hasNow 24 = .ok (.aload_n 0, 1) := by decide +kernel
theorem dX11_hasNow_25 : decode cX11_hasNow 25 = .ok (.iload_n 1, 1) := by decide +kernel
theorem dX11_hasNow_26 : decode cX11_hasNow 26 = .ok (.iload 4, 2) := by decide +kernel
theorem dX11_hasNow_28 : decode cX11_hasNow 28 = .ok (.aload_n 0, 1) := by decide +kernel
theorem dX11_hasNow_29 : decode cX11_hasNow 29 = .ok (.getfield 42, 3) := by decide +kernel
theorem dX11_hasNow_32 : decode cX11_hasNow 32 = .ok (.iload 4, 2) := by decide +kernel
theorem dX11_hasNow_34 : decode cX11_hasNow 34 = .ok (.iaload, 1) := by decide +kernel
theorem dX11_hasNow_35 : decode cX11_hasNow 35 = .ok (.aload_n 0, 1) := by decide +kernel
theorem dX11_hasNow_36 : decode cX11_hasNow 36 = .ok (.getfield 39, 3) := by decide +kernel
theorem dX11_hasNow_39 : decode cX11_hasNow 39 = .ok (.iload 4, 2) := by decide +kernel
theorem dX11_hasNow_41 : decode cX11_hasNow 41 = .ok (.iaload, 1) := by decide +kernel
theorem dX11_hasNow_42 : decode cX11_hasNow 42 = .ok (.iadd, 1) := by decide +kernel
theorem dX11_hasNow_43 : decode cX11_hasNow 43 = .ok (.invokevirtual 207, 3) := by decide +kernel
theorem dX11_hasNow_46 : decode cX11_hasNow 46 = .ok (.iadd, 1) := by decide +kernel
theorem dX11_hasNow_47 : decode cX11_hasNow 47 = .ok (.istore_n 2, 1) := by decide +kernel
theorem dX11_hasNow_48 : decode cX11_hasNow 48 = .ok (.iload_n 3, 1) := by decide +kernel
theorem dX11_hasNow_49 : decode cX11_hasNow 49 = .ok (.aload_n 0, 1) := by decide +kernel
theorem dX11_hasNow_50 : decode cX11_hasNow 50 = .ok (.iload_n 1, 1) := by decide +kernel
theorem dX11_hasNow_51 : decode cX11_hasNow 51 = .ok (.iload 4, 2) := by decide +kernel
theorem dX11_hasNow_53 : decode cX11_hasNow 53 = .ok (.invokevirtual 186, 3) := by decide +kernel
theorem dX11_hasNow_56 : decode cX11_hasNow 56 = .ok (.isub, 1) := by decide +kernel
theorem dX11_hasNow_57 : decode cX11_hasNow 57 = .ok (.istore_n 3, 1) := by decide +kernel
theorem dX11_hasNow_58 : decode cX11_hasNow 58 = .ok (.iinc 4 1, 3) := by decide +kernel
theorem dX11_hasNow_61 : decode cX11_hasNow 61 = .ok (.goto (-47), 3) := by decide +kernel
theorem dX11_hasNow_64 : decode cX11_hasNow 64 = .ok (.iload_n 2, 1) := by decide +kernel
theorem dX11_hasNow_65 : decode cX11_hasNow 65 = .ok (.aload_n 0, 1) := by decide +kernel
theorem dX11_hasNow_66 : decode cX11_hasNow 66 = .ok (.getfield 7, 3) := by decide +kernel
theorem dX11_hasNow_69 : decode cX11_hasNow 69 = .ok (.bipush 53, 2) := by decide +kernel
theorem dX11_hasNow_71 : decode cX11_hasNow 71 = .ok (.iaload, 1) := by decide +kernel
theorem dX11_hasNow_72 : decode cX11_hasNow 72 = .ok (.iload_n 3, 1) := by decide +kernel
theorem dX11_hasNow_73 : decode cX11_hasNow 73 = .ok (.imul, 1) := by decide +kernel
theorem dX11_hasNow_74 : decode cX11_hasNow 74 = .ok (.iadd, 1) := by decide +kernel
theorem dX11_hasNow_75 : decode cX11_hasNow 75 = .ok (.ireturn, 1) := by decide +kernel
theorem dX11_allNow_0 : decode cX11_allNow 0 = .ok (.aload_n 0, 1) := by decide +kernel
theorem dX11_allNow_1 : decode cX11_allNow 1 = .ok (.invokevirtual 211, 3) := by decide +kernel
theorem dX11_allNow_4 : decode cX11_allNow 4 = .ok (.iconst 0, 1) := by decide +kernel
theorem dX11_allNow_5 : decode cX11_allNow 5 = .ok (.istore_n 1, 1) := by decide +kernel
theorem dX11_allNow_6 : decode cX11_allNow 6 = .ok (.iconst 0, 1) := by decide +kernel
theorem dX11_allNow_7 : decode cX11_allNow 7 = .ok (.istore_n 2, 1) := by decide +kernel
theorem dX11_allNow_8 : decode cX11_allNow 8 = .ok (.iload_n 2, 1) := by decide +kernel
theorem dX11_allNow_9 : decode cX11_allNow 9 = .ok (.aload_n 0, 1) := by decide +kernel
theorem dX11_allNow_10 : decode cX11_allNow 10 = .ok (.invokevirtual 76, 3) := by decide +kernel
theorem dX11_allNow_13 : decode cX11_allNow 13 = .ok (.if_icmp .ge 17, 3) := by decide +kernel
theorem dX11_allNow_16 : decode cX11_allNow 16 = .ok (.iload_n 1, 1) := by decide +kernel
theorem dX11_allNow_17 : decode cX11_allNow 17 = .ok (.aload_n 0, 1) := by decide +kernel
theorem dX11_allNow_18 : decode cX11_allNow 18 = .ok (.iload_n 2, 1) := by decide +kernel
theorem dX11_allNow_19 : decode cX11_allNow 19 = .ok (.invokevirtual 214, 3) := by decide +kernel
theorem dX11_allNow_22 : decode cX11_allNow 22 = .ok (.iadd, 1) := by decide +kernel
theorem dX11_allNow_23 : decode cX11_allNow 23 = .ok (.istore_n 1, 1) := by decide +kernel
theorem dX11_allNow_24 : decode cX11_allNow 24 = .ok (.iinc 2 1, 3) := by decide +kernel
theorem dX11_allNow_27 : decode cX11_allNow 27 = .ok (.goto (-19), 3) := by decide +kernel
theorem dX11_allNow_30 : decode cX11_allNow 30 = .ok (.iload_n 1, 1) := by decide +kernel
theorem dX11_allNow_31 : decode cX11_allNow 31 = .ok (.ireturn, 1) := by decide +kernel
theorem dX11_give_0 : decode cX11_give 0 = .ok (.aload_n 0, 1) := by decide +kernel
theorem dX11_give_1 : decode cX11_give 1 = .ok (.iload_n 1, 1) := by decide +kernel
theorem dX11_give_2 : decode cX11_give 2 = .ok (.invokevirtual 91, 3) := by decide +kernel
theorem dX11_give_5 : decode cX11_give 5 = .ok (.ifCond .eq 11, 3) := by decide +kernel
theorem dX11_give_8 : decode cX11_give 8 = .ok (.aload_n 0, 1) := by decide +kernel
theorem dX11_give_9 : decode cX11_give 9 = .ok (.iload_n 2, 1) := by decide +kernel
theorem dX11_give_10 : decode cX11_give 10 = .ok (.invokevirtual 95, 3) := by decide +kernel
theorem dX11_give_13 : decode cX11_give 13 = .ok (.ifCond .ne 6, 3) := by decide +kernel
theorem dX11_give_16 : decode cX11_give 16 = .ok (.bipush (-2), 2) := by decide +kernel
theorem dX11_give_18 : decode cX11_give 18 = .ok (.ireturn, 1) := by decide +kernel
theorem dX11_give_19 : decode cX11_give 19 = .ok (.iconst 0, 1) := by decide +kernel
theorem dX11_give_20 : decode cX11_give 20 = .ok (.istore 4, 2) := by decide +kernel
theorem dX11_give_22 : decode cX11_give 22 = .ok (.iconst 0, 1) := by decide +kernel
theorem dX11_give_23 : decode cX11_give 23 = .ok (.istore 5, 2) := by decide +kernel
theorem dX11_give_25 : decode cX11_give 25 = .ok (.iload 5, 2) := by decide +kernel
theorem dX11_give_27 : decode cX11_give 27 = .ok (.iconst 3, 1) := by decide +kernel
theorem dX11_give_28 : decode cX11_give 28 = .ok (.if_icmp .ge 31, 3) := by decide +kernel
theorem dX11_give_31 : decode cX11_give 31 = .ok (.iload 4, 2) := by decide +kernel
theorem dX11_give_33 : decode cX11_give 33 = .ok (.iload 5, 2) := by decide +kernel
theorem dX11_give_35 : decode cX11_give 35 = .ok (.iload_n 2, 1) := by decide +kernel
theorem dX11_give_36 : decode cX11_give 36 = .ok (.if_icmp .ne 7, 3) := by decide +kernel
theorem dX11_give_39 : decode cX11_give 39 = .ok (.iconst 0, 1) := by decide +kernel
theorem dX11_give_40 : decode cX11_give 40 = .ok (.goto 10, 3) := by decide +kernel
theorem dX11_give_43 : decode cX11_give 43 = .ok (.aload_n 0, 1) := by decide +kernel
theorem dX11_give_44 : decode cX11_give 44 = .ok (.iload_n 1, 1) := by decide +kernel
theorem dX11_give_45 : decode cX11_give 45 = .ok (.iload 5, 2) := by decide +kernel
theorem dX11_give_47 : decode cX11_give 47 = .ok (.invokevirtual 186, 3) := by decide +kernel
theorem dX11_give_50 : decode cX11_give 50 = .ok (.iadd, 1) := by decide +kernel
theorem dX11_give_51 : decode cX11_give 51 = .ok (.istore 4, 2) := by decide +kernel
theorem dX11_give_53 : decode cX11_give 53 = .ok (.iinc 5 1, 3) := by decide +kernel
theorem dX11_give_56 : decode cX11_give 56 = .ok (.goto (-31), 3) := by decide +kernel
theorem dX11_give_59 : decode cX11_give 59 = .ok (.iload_n 3, 1) := by decide +kernel
theorem dX11_give_60 : decode cX11_give 60 = .ok (.i2l, 1) := by decide +kernel
theorem dX11_give_61 : decode cX11_give 61 = .ok (.lconst 0, 1) := by decide +kernel
theorem dX11_give_62 : decode cX11_give 62 = .ok (.aload_n 0, 1) := by decide +kernel
theorem dX11_give_63 : decode cX11_give 63 = .ok (.getfield 7, 3) := by decide +kernel
theorem dX11_give_66 : decode cX11_give 66 = .ok (.iconst 0, 1) := by decide +kernel
theorem dX11_give_67 : decode cX11_give 67 = .ok (.iload_n 1, 1) := by decide +kernel
theorem dX11_give_68 : decode cX11_give 68 = .ok (.iadd, 1) := by decide +kernel
theorem dX11_give_69 : decode cX11_give 69 = .ok (.iaload, 1) := by decide +kernel
theorem dX11_give_70 : decode cX11_give 70 = .ok (.iload 4, 2) := by decide +kernel
theorem dX11_give_72 : decode cX11_give 72 = .ok (.isub, 1) := by decide +kernel
theorem dX11_give_73 : decode cX11_give 73 = .ok (.i2l, 1) := by decide +kernel
theorem dX11_give_74 : decode cX11_give 74 = .ok (.invokestatic 80, 3) := by decide +kernel
theorem dX11_give_77 : decode cX11_give 77 = .ok (.ifCond .ne 6, 3) := by decide +kernel
theorem dX11_give_80 : decode cX11_give 80 = .ok (.bipush (-2), 2) := by decide +kernel
theorem dX11_give_82 : decode cX11_give 82 = .ok (.ireturn, 1) := by decide +kernel
theorem dX11_give_83 : decode cX11_give 83 = .ok (.aload_n 0, 1) := by decide +kernel
theorem dX11_give_84 : decode cX11_give 84 = .ok (.iload_n 1, 1) := by decide +kernel
theorem dX11_give_85 : decode cX11_give 85 = .ok (.iload_n 2, 1) := by decide +kernel
theorem dX11_give_86 : decode cX11_give 86 = .ok (.invokevirtual 186, 3) := by decide +kernel
theorem dX11_give_89 : decode cX11_give 89 = .ok (.istore 5, 2) := by decide +kernel
theorem dX11_give_91 : decode cX11_give 91 = .ok (.aload_n 0, 1) := by decide +kernel
theorem dX11_give_92 : decode cX11_give 92 = .ok (.getfield 7, 3) := by decide +kernel
theorem dX11_give_95 : decode cX11_give 95 = .ok (.bipush 35, 2) := by decide +kernel
theorem dX11_give_97 : decode cX11_give 97 = .ok (.iconst 3, 1) := by decide +kernel
theorem dX11_give_98 : decode cX11_give 98 = .ok (.iload_n 1, 1) := by decide +kernel
theorem dX11_give_99 : decode cX11_give 99 = .ok (.imul, 1) := by decide +kernel
theorem dX11_give_100 : decode cX11_give 100 = .ok (.iadd, 1) := by decide +kernel
theorem dX11_give_101 : decode cX11_give 101 = .ok (.iload_n 2, 1) := by decide +kernel
theorem dX11_give_102 : decode cX11_give 102 = .ok (.iadd, 1) := by decide +kernel
theorem dX11_give_103 : decode cX11_give 103 = .ok (.iload_n 3, 1) := by decide +kernel
theorem dX11_give_104 : decode cX11_give 104 = .ok (.iastore, 1) := by decide +kernel
theorem dX11_give_105 : decode cX11_give 105 = .ok (.iload 5, 2) := by decide +kernel
theorem dX11_give_107 : decode cX11_give 107 = .ok (.ireturn, 1) := by decide +kernel
theorem dX11_amount_0 : decode cX11_amount 0 = .ok (.aload_n 0, 1) := by decide +kernel
theorem dX11_amount_1 : decode cX11_amount 1 = .ok (.iload_n 1, 1) := by decide +kernel
theorem dX11_amount_2 : decode cX11_amount 2 = .ok (.invokevirtual 95, 3) := by decide +kernel
theorem dX11_amount_5 : decode cX11_amount 5 = .ok (.ifCond .eq 15, 3) := by decide +kernel
theorem dX11_amount_8 : decode cX11_amount 8 = .ok (.iload_n 2, 1) := by decide +kernel
theorem dX11_amount_9 : decode cX11_amount 9 = .ok (.i2l, 1) := by decide +kernel
theorem dX11_amount_10 : decode cX11_amount 10 = .ok (.lconst 0, 1) := by decide +kernel
theorem dX11_amount_11 : decode cX11_amount 11 = .ok (.ldc2_w 102, 3) := by decide +kernel
theorem dX11_amount_14 : decode cX11_amount 14 = .ok (.invokestatic 80, 3) := by decide +kernel
theorem dX11_amount_17 : decode cX11_amount 17 = .ok (.ifCond .ne 6, 3) := by decide +kernel
theorem dX11_amount_20 : decode cX11_amount 20 = .ok (.bipush (-2), 2) := by decide +kernel
theorem dX11_amount_22 : decode cX11_amount 22 = .ok (.ireturn, 1) := by decide +kernel
theorem dX11_amount_23 : decode cX11_amount 23 = .ok (.aload_n 0, 1) := by decide +kernel
theorem dX11_amount_24 : decode cX11_amount 24 = .ok (.invokevirtual 211, 3) := by decide +kernel
theorem dX11_amount_27 : decode cX11_amount 27 = .ok (.iload_n 2, 1) := by decide +kernel
theorem dX11_amount_28 : decode cX11_amount 28 = .ok (.ifCond .ne 12, 3) := by decide +kernel
theorem dX11_amount_31 : decode cX11_amount 31 = .ok (.aload_n 0, 1) := by decide +kernel
theorem dX11_amount_32 : decode cX11_amount 32 = .ok (.getfield 42, 3) := by decide +kernel
theorem dX11_amount_35 : decode cX11_amount 35 = .ok (.iload_n 1, 1) := by decide +kernel
theorem dX11_amount_36 : decode cX11_amount 36 = .ok (.iaload, 1) := by decide +kernel
theorem dX11_amount_37 : decode cX11_amount 37 = .ok (.goto 44, 3) := by decide +kernel
theorem dX11_amount_40 : decode cX11_amount 40 = .ok (.iload_n 2, 1) := by decide +kernel
theorem dX11_amount_41 : decode cX11_amount 41 = .ok (.iconst 1, 1) := by decide +kernel
theorem dX11_amount_42 : decode cX11_amount 42 = .ok (.if_icmp .ne 12, 3) := by decide +kernel
theorem dX11_amount_45 : decode cX11_amount 45 = .ok (.aload_n 0, 1) := by decide +kernel
theorem dX11_amount_46 : decode cX11_amount 46 = .ok (.getfield 36, 3) := by decide +kernel
theorem dX11_amount_49 : decode cX11_amount 49 = .ok (.iload_n 1, 1) := by decide +kernel
theorem dX11_amount_50 : decode cX11_amount 50 = .ok (.iaload, 1) := by decide +kernel
theorem dX11_amount_51 : decode cX11_amount 51 = .ok (.goto 30, 3) := by decide +kernel
theorem dX11_amount_54 : decode cX11_amount 54 = .ok (.iload_n 2, 1) := by decide +kernel
theorem dX11_amount_55 : decode cX11_amount 55 = .ok (.iconst 2, 1) := by decide +kernel
theorem dX11_amount_56 : decode cX11_amount 56 = .ok (.if_icmp .ne 12, 3) := by decide +kernel
theorem dX11_amount_59 : decode cX11_amount 59 = .ok (.aload_n 0, 1) := by decide +kernel
theorem dX11_amount_60 : decode cX11_amount 60 = .ok (.getfield 39, 3) := by decide +kernel
theorem dX11_amount_63 : decode cX11_amount 63 = .ok (.iload_n 1, 1) := by decide +kernel
theorem dX11_amount_64 : decode cX11_amount 64 = .ok (.iaload, 1) := by decide +kernel
theorem dX11_amount_65 : decode cX11_amount 65 = .ok (.goto 16, 3) := by decide +kernel
theorem dX11_amount_68 : decode cX11_amount 68 = .ok (.aload_n 0, 1) := by decide +kernel
theorem dX11_amount_69 : decode cX11_amount 69 = .ok (.getfield 42, 3) := by decide +kernel
theorem dX11_amount_72 : decode cX11_amount 72 = .ok (.iload_n 1, 1) := by decide +kernel
theorem dX11_amount_73 : decode cX11_amount 73 = .ok (.iaload, 1) := by decide +kernel
theorem dX11_amount_74 : decode cX11_amount 74 = .ok (.aload_n 0, 1) := by decide +kernel
theorem dX11_amount_75 : decode cX11_amount 75 = .ok (.getfield 39, 3) := by decide +kernel
theorem dX11_amount_78 : decode cX11_amount 78 = .ok (.iload_n 1, 1) := by decide +kernel
theorem dX11_amount_79 : decode cX11_amount 79 = .ok (.iaload, 1) := by decide +kernel
theorem dX11_amount_80 : decode cX11_amount 80 = .ok (.iadd, 1) := by decide +kernel
theorem dX11_amount_81 : decode cX11_amount 81 = .ok (.ireturn, 1) := by decide +kernel
theorem dX11_isShort_0 : decode cX11_isShort 0 = .ok (.aload_n 0, 1) := by decide +kernel
theorem dX11_isShort_1 : decode cX11_isShort 1 = .ok (.invokevirtual 211, 3) := by decide +kernel
theorem dX11_isShort_4 : decode cX11_isShort 4 = .ok (.iconst 0, 1) := by decide +kernel
theorem dX11_isShort_5 : decode cX11_isShort 5 = .ok (.istore_n 1, 1) := by decide +kernel
theorem dX11_isShort_6 : decode cX11_isShort 6 = .ok (.iconst 0, 1) := by decide +kernel
theorem dX11_isShort_7 : decode cX11_isShort 7 = .ok (.istore_n 2, 1) := by decide +kernel
theorem dX11_isShort_8 : decode cX11_isShort 8 = .ok (.iload_n 2, 1) := by decide +kernel
theorem dX11_isShort_9 : decode cX11_isShort 9 = .ok (.aload_n 0, 1) := by decide +kernel
theorem dX11_isShort_10 : decode cX11_isShort 10 = .ok (.invokevirtual 84, 3) := by decide +kernel
theorem dX11_isShort_13 : decode cX11_isShort 13 = .ok (.if_icmp .ge 18, 3) := by decide +kernel
theorem dX11_isShort_16 : decode cX11_isShort 16 = .ok (.iload_n 1, 1) := by decide +kernel
theorem dX11_isShort_17 : decode cX11_isShort 17 = .ok (.aload_n 0, 1) := by decide +kernel
theorem dX11_isShort_18 : decode cX11_isShort 18 = .ok (.getfield 36, 3) := by decide +kernel
theorem dX11_isShort_21 : decode cX11_isShort 21 = .ok (.iload_n 2, 1) := by decide +kernel
theorem dX11_isShort_22 : decode cX11_isShort 22 = .ok (.iaload, 1) := by decide +kernel
theorem dX11_isShort_23 : decode cX11_isShort 23 = .ok (.iadd, 1) := by decide +kernel
theorem dX11_isShort_24 : decode cX11_isShort 24 = .ok (.istore_n 1, 1) := by decide +kernel
theorem dX11_isShort_25 : decode cX11_isShort 25 = .ok (.iinc 2 1, 3) := by decide +kernel
theorem dX11_isShort_28 : decode cX11_isShort 28 = .ok (.goto (-20), 3) := by decide +kernel
theorem dX11_isShort_31 : decode cX11_isShort 31 = .ok (.iload_n 1, 1) := by decide +kernel
theorem dX11_isShort_32 : decode cX11_isShort 32 = .ok (.aload_n 0, 1) := by decide +kernel
theorem dX11_isShort_33 : decode cX11_isShort 33 = .ok (.getfield 7, 3) := by decide +kernel
theorem dX11_isShort_36 : decode cX11_isShort 36 = .ok (.bipush 55, 2) := by decide +kernel
theorem dX11_isShort_38 : decode cX11_isShort 38 = .ok (.iaload, 1) := by decide +kernel
theorem dX11_isShort_39 : decode cX11_isShort 39 = .ok (.if_icmp .le 7, 3) := by decide +kernel
theorem dX11_isShort_42 : decode cX11_isShort 42 = .ok (.iconst 1, 1) := by decide +kernel
theorem dX11_isShort_43 : decode cX11_isShort 43 = .ok (.goto 4, 3) := by decide +kernel
theorem dX11_isShort_46 : decode cX11_isShort 46 = .ok (.iconst 0, 1) := by decide +kernel
theorem dX11_isShort_47 : decode cX11_isShort 47 = .ok (.ireturn, 1) := by decide +kernel
theorem dX11_has_0 : decode cX11_has 0 = .ok (.iload_n 1, 1) := by decide +kernel
theorem dX11_has_1 : decode cX11_has 1 = .ok (.iconst (-1), 1) := by decide +kernel
theorem dX11_has_2 : decode cX11_has 2 = .ok (.if_icmp .ne 8, 3) := by decide +kernel
theorem dX11_has_5 : decode cX11_has 5 = .ok (.aload_n 0, 1) := by decide +kernel
theorem dX11_has_6 : decode cX11_has 6 = .ok (.invokevirtual 217, 3) := by decide +kernel
theorem dX11_has_9 : decode cX11_has 9 = .ok (.ireturn, 1) := by decide +kernel
theorem dX11_has_10 : decode cX11_has 10 = .ok (.aload_n 0, 1) := by decide +kernel
theorem dX11_has_11 : decode cX11_has 11 = .ok (.iload_n 1, 1) := by decide +kernel
theorem dX11_has_12 : decode cX11_has 12 = .ok (.invokevirtual 91, 3) := by decide +kernel
theorem dX11_has_15 : decode cX11_has 15 = .ok (.ifCond .ne 6, 3) := by decide +kernel
theorem dX11_has_18 : decode cX11_has 18 = .ok (.bipush (-2), 2) := by decide +kernel
theorem dX11_has_20 : decode cX11_has 20 = .ok (.ireturn, 1) := by decide +kernel
theorem dX11_has_21 : decode cX11_has 21 = .ok (.aload_n 0, 1) := by decide +kernel
theorem dX11_has_22 : decode cX11_has 22 = .ok (.invokevirtual 211, 3) := by decide +kernel
theorem dX11_has_25 : decode cX11_has 25 = .ok (.aload_n 0, 1) := by decide +kernel
theorem dX11_has_26 : decode cX11_has 26 = .ok (.iload_n 1, 1) := by decide +kernel
theorem dX11_has_27 : decode cX11_has 27 = .ok (.invokevirtual 214, 3) := by decide +kernel
theorem dX11_has_30 : decode cX11_has 30 = .ok (.ireturn, 1) := by decide +kernel
theorem dX11_setRow_0 : decode cX11_setRow 0 = .ok (.aload_n 0, 1) := by decide +kernel
theorem dX11_setRow_1 : decode cX11_setRow 1 = .ok (.getfield 7, 3) := by decide +kernel
theorem dX11_setRow_4 : decode cX11_setRow 4 = .ok (.bipush 35, 2) := by decide +kernel
theorem dX11_setRow_6 : decode cX11_setRow 6 = .ok (.iconst 3, 1) := by decide +kernel
theorem dX11_setRow_7 : decode cX11_setRow 7 = .ok (.iload_n 1, 1) := by decide +kernel
theorem dX11_setRow_8 : decode cX11_setRow 8 = .ok (.imul, 1) := by decide +kernel
theorem dX11_setRow_9 : decode cX11_setRow 9 = .ok (.iadd, 1) := by decide +kernel
theorem dX11_setRow_10 : decode cX11_setRow 10 = .ok (.iload_n 2, 1) := by decide +kernel
theorem dX11_setRow_11 : decode cX11_setRow 11 = .ok (.iastore, 1) := by decide +kernel
theorem dX11_setRow_12 : decode cX11_setRow 12 = .ok (.aload_n 0, 1) := by decide +kernel
theorem dX11_setRow_13 : decode cX11_setRow 13 = .ok (.getfield 7, 3) := by decide +kernel
theorem dX11_setRow_16 : decode cX11_setRow 16 = .ok (.bipush 35, 2) := by decide +kernel
theorem dX11_setRow_18 : decode cX11_setRow 18 = .ok (.iconst 3, 1) := by decide +kernel
theorem dX11_setRow_19 : decode cX11_setRow 19 = .ok (.iload_n 1, 1) := by decide +kernel
theorem dX11_setRow_20 : decode cX11_setRow 20 = .ok (.imul, 1) := by decide +kernel
theorem dX11_setRow_21 : decode cX11_setRow 21 = .ok (.iadd, 1) := by decide +kernel
theorem dX11_setRow_22 : decode cX11_setRow 22 = .ok (.iconst 1, 1) := by decide +kernel
theorem dX11_setRow_23 : decode cX11_setRow 23 = .ok (.iadd, 1) := by decide +kernel
theorem dX11_setRow_24 : decode cX11_setRow 24 = .ok (.iload_n 3, 1) := by decide +kernel
theorem dX11_setRow_25 : decode cX11_setRow 25 = .ok (.iastore, 1) := by decide +kernel
theorem dX11_setRow_26 : decode cX11_setRow 26 = .ok (.aload_n 0, 1) := by decide +kernel
theorem dX11_setRow_27 : decode cX11_setRow 27 = .ok (.getfield 7, 3) := by decide +kernel
theorem dX11_setRow_30 : decode cX11_setRow 30 = .ok (.bipush 35, 2) := by decide +kernel
theorem dX11_setRow_32 : decode cX11_setRow 32 = .ok (.iconst 3, 1) := by decide +kernel
theorem dX11_setRow_33 : decode cX11_setRow 33 = .ok (.iload_n 1, 1) := by decide +kernel
theorem dX11_setRow_34 : decode cX11_setRow 34 = .ok (.imul, 1) := by decide +kernel
theorem dX11_setRow_35 : decode cX11_setRow 35 = .ok (.iadd, 1) := by decide +kernel
theorem dX11_setRow_36 : decode cX11_setRow 36 = .ok (.iconst 2, 1) := by decide +kernel
theorem dX11_setRow_37 : decode cX11_setRow 37 = .ok (.iadd, 1) := by decide +kernel
theorem dX11_setRow_38 : decode cX11_setRow 38 = .ok (.iload 4, 2) := by decide +kernel
theorem dX11_setRow_40 : decode cX11_setRow 40 = .ok (.iastore, 1) := by decide +kernel
theorem dX11_setRow_41 : decode cX11_setRow 41 = .ok (.return_, 1) := by decide +kernel
theorem dX11_findBest_0 : decode cX11_findBest 0 = .ok (.iconst 0, 1) := by decide +kernel
theorem dX11_findBest_1 : decode cX11_findBest 1 = .ok (.istore_n 2, 1) := by decide +kernel
theorem dX11_findBest_2 : decode cX11_findBest 2 = .ok (.iload_n 2, 1) := by decide +kernel
theorem dX11_findBest_3 : decode cX11_findBest 3 = .ok (.iconst 3, 1) := by decide +kernel
theorem dX11_findBest_4 : decode cX11_findBest 4 = .ok (.if_icmp .ge 21, 3) := by decide +kernel
theorem dX11_findBest_7 : decode cX11_findBest 7 = .ok (.aload_n 0, 1) := by decide +kernel
theorem dX11_findBest_8 : decode cX11_findBest 8 = .ok (.getfield 58, 3) := by decide +kernel
theorem dX11_findBest_11 : decode cX11_findBest 11 = .ok (.iload_n 2, 1) := by decide +kernel
theorem dX11_findBest_12 : decode cX11_findBest 12 = .ok (.aload_n 0, 1) := by decide +kernel
theorem dX11_findBest_13 : decode cX11_findBest 13 = .ok (.iload_n 1, 1) := by decide +kernel
theorem dX11_findBest_14 : decode cX11_findBest 14 = .ok (.iload_n 2, 1) := by decide +kernel
theorem dX11_findBest_15 : decode cX11_findBest 15 = .ok (.invokevirtual 186, 3) := by decide +kernel
theorem dX11_findBest_18 : decode cX11_findBest 18 = .ok (.iastore, 1) := by decide +kernel
theorem dX11_findBest_19 : decode cX11_findBest 19 = .ok (.iinc 2 1, 3) := by decide +kernel
theorem dX11_findBest_22 : decode cX11_findBest 22 = .ok (.goto (-20), 3) := by decide +kernel
theorem dX11_findBest_25 : decode cX11_findBest 25 = .ok (.aload_n 0, 1) := by decide +kernel
theorem dX11_findBest_26 : decode cX11_findBest 26 = .ok (.getfield 7, 3) := by decide +kernel
theorem dX11_findBest_29 : decode cX11_findBest 29 = .ok (.iconst 0, 1) := by decide +kernel
theorem dX11_findBest_30 : decode cX11_findBest 30 = .ok (.iload_n 1, 1) := by decide +kernel
theorem dX11_findBest_31 : decode cX11_findBest 31 = .ok (.iadd, 1) := by decide +kernel
theorem dX11_findBest_32 : decode cX11_findBest 32 = .ok (.iaload, 1) := by decide +kernel
theorem dX11_findBest_33 : decode cX11_findBest 33 = .ok (.istore_n 2, 1) := by decide +kernel
theorem dX11_findBest_34 : decode cX11_findBest 34 = .ok (.iconst (-1), 1) := by decide +kernel
theorem dX11_findBest_35 : decode cX11_findBest 35 = .ok (.istore_n 3, 1) := by decide +kernel
theorem dX11_findBest_36 : decode cX11_findBest 36 = .ok (.iconst 0, 1) := by decide +kernel
theorem dX11_findBest_37 : decode cX11_findBest 37 = .ok (.istore 4, 2) := by decide +kernel
theorem dX11_findBest_39 : decode cX11_findBest 39 = .ok (.iload 4, 2) := by decide +kernel
theorem dX11_findBest_41 : decode cX11_findBest 41 = .ok (.aload_n 0, 1) := by decide +kernel
theorem dX11_findBest_42 : decode cX11_findBest 42 = .ok (.invokevirtual 84, 3) := by decide +kernel
theorem dX11_findBest_45 : decode cX11_findBest 45 = .ok (.ifCond .le 7, 3) := by decide +kernel
theorem dX11_findBest_48 : decode cX11_findBest 48 = .ok (.iload_n 2, 1) := by decide +kernel
theorem dX11_findBest_49 : decode cX11_findBest 49 = .ok (.goto 4, 3) := by decide +kernel
theorem dX11_findBest_52 : decode cX11_findBest 52 = .ok (.iconst 0, 1) := by decide +kernel
theorem dX11_findBest_53 : decode cX11_findBest 53 = .ok (.if_icmp .gt 127, 3) := by decide +kernel
theorem dX11_findBest_56 : decode cX11_findBest 56 = .ok (.iconst 0, 1) := by decide +kernel
theorem dX11_findBest_57 : decode cX11_findBest 57 = .ok (.istore 5, 2) := by decide +kernel
theorem dX11_findBest_59 : decode cX11_findBest 59 = .ok (.iload 5, 2) := by decide +kernel
theorem dX11_findBest_61 : decode cX11_findBest 61 = .ok (.aload_n 0, 1) := by decide +kernel
theorem dX11_findBest_62 : decode cX11_findBest 62 = .ok (.invokevirtual 84, 3) := by decide +kernel
theorem dX11_findBest_65 : decode cX11_findBest 65 = .ok (.iconst 1, 1) := by decide +kernel
theorem dX11_findBest_66 : decode cX11_findBest 66 = .ok (.if_icmp .le 10, 3) := by decide +kernel
theorem dX11_findBest_69 : decode cX11_findBest 69 = .ok (.iload_n 2, 1) := by decide +kernel
theorem dX11_findBest_70 : decode cX11_findBest 70 = .ok (.iload 4, 2) := by decide +kernel
theorem dX11_findBest_72 : decode cX11_findBest 72 = .ok (.isub, 1) := by decide +kernel
theorem dX11_findBest_73 : decode cX11_findBest 73 = .ok (.goto 4, 3) := by decide +kernel
theorem dX11_findBest_76 : decode cX11_findBest 76 = .ok (.iconst 0, 1) := by decide +kernel
theorem dX11_findBest_77 : decode cX11_findBest 77 = .ok (.if_icmp .gt 97, 3) := by decide +kernel
theorem dX11_findBest_80 : decode cX11_findBest 80 = .ok (.iconst 0, 1) := by decide +kernel
theorem dX11_findBest_81 : decode cX11_findBest 81 = .ok (.istore 6, 2) := by decide +kernel
theorem dX11_findBest_83 : decode cX11_findBest 83 = .ok (.iload 6, 2) := by decide +kernel
theorem dX11_findBest_85 : decode cX11_findBest 85 = .ok (.aload_n 0, 1) := by decide +kernel
theorem dX11_findBest_86 : decode cX11_findBest 86 = .ok (.invokevirtual 84, 3) := by decide +kernel
theorem dX11_findBest_89 : decode cX11_findBest 89 = .ok (.iconst 2, 1) := by decide +kernel
theorem dX11_findBest_90 : decode cX11_findBest 90 = .ok (.if_icmp .le 13, 3) := by decide +kernel
theorem dX11_findBest_93 : decode cX11_findBest 93 = .ok (.iload_n 2, 1) := by decide +kernel
theorem dX11_findBest_94 : decode cX11_findBest 94 = .ok (.iload 4, 2) := by decide +kernel
theorem dX11_findBest_96 : decode cX11_findBest 96 = .ok (.isub, 1) := by decide +kernel
theorem dX11_findBest_97 : decode cX11_findBest 97 = .ok (.iload 5, 2) := by decide +kernel
theorem dX11_findBest_99 : decode cX11_findBest 99 = .ok (.isub, 1) := by decide +kernel
theorem dX11_findBest_100 : decode cX11_findBest 100 = .ok (.goto 4, 3) := by decide +kernel
theorem dX11_findBest_103 : decode cX11_findBest 103 = .ok (.iconst 0, 1) := by decide +kernel
theorem dX11_findBest_104 : decode cX11_findBest 104 = .ok (.if_icmp .gt 64, 3) := by decide +kernel
theorem dX11_findBest_107 : decode cX11_findBest 107 = .ok (.aload_n 0, 1) := by decide +kernel
theorem dX11_findBest_108 : decode cX11_findBest 108 = .ok (.iload_n 1, 1) := by decide +kernel
theorem dX11_findBest_109 : decode cX11_findBest 109 = .ok (.iload 4, 2) := by decide +kernel
theorem dX11_findBest_111 : decode cX11_findBest 111 = .ok (.iload 5, 2) := by decide +kernel
theorem dX11_findBest_113 : decode cX11_findBest 113 = .ok (.iload 6, 2) := by decide +kernel
theorem dX11_findBest_115 : decode cX11_findBest 115 = .ok (.invokevirtual 220, 3) := by decide +kernel
theorem dX11_findBest_118 : decode cX11_findBest 118 = .ok (.aload_n 0, 1) := by decide +kernel
theorem dX11_findBest_119 : decode cX11_findBest 119 = .ok (.invokevirtual 211, 3) := by decide +kernel
theorem dX11_findBest_122 : decode cX11_findBest 122 = .ok (.aload_n 0, 1) := by decide +kernel
theorem dX11_findBest_123 : decode cX11_findBest 123 = .ok (.iload_n 1, 1) := by decide +kernel
theorem dX11_findBest_124 : decode cX11_findBest 124 = .ok (.invokevirtual 214, 3) := by decide +kernel
theorem dX11_findBest_127 : decode cX11_findBest 127 = .ok (.istore 7, 2) := by decide +kernel
theorem dX11_findBest_129 : decode cX11_findBest 129 = .ok (.iload 7, 2) := by decide +kernel
theorem dX11_findBest_131 : decode cX11_findBest 131 = .ok (.iload_n 3, 1) := by decide +kernel
theorem dX11_findBest_132 : decode cX11_findBest 132 = .ok (.if_icmp .le 30, 3) := by decide +kernel
theorem dX11_findBest_135 : decode cX11_findBest 135 = .ok (.iload 7, 2) := by decide +kernel
theorem dX11_findBest_137 : decode cX11_findBest 137 = .ok (.istore_n 3, 1) := by decide +kernel
theorem dX11_findBest_138 : decode cX11_findBest 138 = .ok (.aload_n 0, 1) := by decide +kernel
theorem dX11_findBest_139 : decode cX11_findBest 139 = .ok (.getfield 55, 3) := by decide +kernel
theorem dX11_findBest_142 : decode cX11_findBest 142 = .ok (.iconst 0, 1) := by decide +kernel
theorem dX11_findBest_143 : decode cX11_findBest 143 = .ok (.iload 4, 2) := by decide +kernel
theorem dX11_findBest_145 : decode cX11_findBest 145 = .ok (.iastore, 1) := by decide +kernel
theorem dX11_findBest_146 : decode cX11_findBest 146 = .ok (.aload_n 0, 1) := by decide +kernel
theorem dX11_findBest_147 : decode cX11_findBest 147 = .ok (.getfield 55, 3) := by decide +kernel
theorem dX11_findBest_150 : decode cX11_findBest 150 = .ok (.iconst 1, 1) := by decide +kernel
theorem dX11_findBest_151 : decode cX11_findBest 151 = .ok (.iload 5, 2) := by decide +kernel
theorem dX11_findBest_153 : decode cX11_findBest 153 = .ok (.iastore, 1) := by decide +kernel
theorem dX11_findBest_154 : decode cX11_findBest 154 = .ok (.aload_n 0, 1) := by decide +kernel
theorem dX11_findBest_155 : decode cX11_findBest 155 = .ok (.getfield 55, 3) := by decide +kernel
theorem dX11_findBest_158 : decode cX11_findBest 158 = .ok (.iconst 2, 1) := by decide +kernel
theorem dX11_findBest_159 : decode cX11_findBest 159 = .ok (.iload 6, 2) := by decide +kernel
theorem dX11_findBest_161 : decode cX11_findBest 161 = .ok (.iastore, 1) := by decide +kernel
theorem dX11_findBest_162 : decode cX11_findBest 162 = .ok (.iinc 6 1, 3) := by decide +kernel
theorem dX11_findBest_165 : decode cX11_findBest 165 = .ok (.goto (-82), 3) := by decide +kernel
theorem dX11_findBest_168 : decode cX11_findBest 168 = .ok (.iinc 5 1, 3) := by decide +kernel
theorem dX11_findBest_171 : decode cX11_findBest 171 = .ok (.goto (-112), 3) := by decide +kernel
theorem dX11_findBest_174 : decode cX11_findBest 174 = .ok (.iinc 4 1, 3) := by decide +kernel
theorem dX11_findBest_177 : decode cX11_findBest 177 = .ok (.goto (-138), 3) := by decide +kernel
theorem dX11_findBest_180 : decode cX11_findBest 180 = .ok (.aload_n 0, 1) := by decide +kernel
theorem dX11_findBest_181 : decode cX11_findBest 181 = .ok (.iload_n 1, 1) := by decide +kernel
theorem dX11_findBest_182 : decode cX11_findBest 182 = .ok (.aload_n 0, 1) := by decide +kernel
theorem dX11_findBest_183 : decode cX11_findBest 183 = .ok (.getfield 58, 3) := by decide +kernel
theorem dX11_findBest_186 : decode cX11_findBest 186 = .ok (.iconst 0, 1) := by decide +kernel
theorem dX11_findBest_187 : decode cX11_findBest 187 = .ok (.iaload, 1) := by decide +kernel
theorem dX11_findBest_188 : decode cX11_findBest 188 = .ok (.aload_n 0, 1) := by decide +kernel
theorem dX11_findBest_189 : decode cX11_findBest 189 = .ok (.getfield 58, 3) := by decide +kernel
theorem dX11_findBest_192 : decode cX11_findBest 192 = .ok (.iconst 1, 1) := by decide +kernel
theorem dX11_findBest_193 : decode cX11_findBest 193 = .ok (.iaload, 1) := by decide +kernel
theorem dX11_findBest_194 : decode cX11_findBest 194 = .ok (.aload_n 0, 1) := by decide +kernel
theorem dX11_findBest_195 : decode cX11_findBest 195 = .ok (.getfield 58, 3) := by decide +kernel
theorem dX11_findBest_198 : decode cX11_findBest 198 = .ok (.iconst 2, 1) := by decide +kernel
theorem dX11_findBest_199 : decode cX11_findBest 199 = .ok (.iaload, 1) := by decide +kernel
theorem dX11_findBest_200 : decode cX11_findBest 200 = .ok (.invokevirtual 220, 3) := by decide +kernel
theorem dX11_findBest_203 : decode cX11_findBest 203 = .ok (.iload_n 3, 1) := by decide +kernel
theorem dX11_findBest_204 : decode cX11_findBest 204 = .ok (.ireturn, 1) := by decide +kernel
theorem dX11_best_0 : decode cX11_best 0 = .ok (.aload_n 0, 1) := by decide +kernel
theorem dX11_best_1 : decode cX11_best 1 = .ok (.iload_n 1, 1) := by decide +kernel
theorem dX11_best_2 : decode cX11_best 2 = .ok (.invokevirtual 91, 3) := by decide +kernel
theorem dX11_best_5 : decode cX11_best 5 = .ok (.ifCond .eq 16, 3) := by decide +kernel
theorem dX11_best_8 : decode cX11_best 8 = .ok (.iload_n 2, 1) := by decide +kernel
theorem dX11_best_9 : decode cX11_best 9 = .ok (.iconst (-1), 1) := by decide +kernel
theorem dX11_best_10 : decode cX11_best 10 = .ok (.if_icmp .eq 14, 3) := by decide +kernel
theorem dX11_best_13 : decode cX11_best 13 = .ok (.aload_n 0, 1) := by decide +kernel
theorem dX11_best_14 : decode cX11_best 14 = .ok (.iload_n 2, 1) := by decide +kernel
theorem dX11_best_15 : decode cX11_best 15 = .ok (.invokevirtual 95, 3) := by decide +kernel
theorem dX11_best_18 : decode cX11_best 18 = .ok (.ifCond .ne 6, 3) := by decide +kernel
theorem dX11_best_21 : decode cX11_best 21 = .ok (.bipush (-10), 2) := by decide +kernel
theorem dX11_best_23 : decode cX11_best 23 = .ok (.ireturn, 1) := by decide +kernel
theorem dX11_best_24 : decode cX11_best 24 = .ok (.aload_n 0, 1) := by decide +kernel
theorem dX11_best_25 : decode cX11_best 25 = .ok (.iload_n 1, 1) := by decide +kernel
theorem dX11_best_26 : decode cX11_best 26 = .ok (.invokevirtual 224, 3) := by decide +kernel
theorem dX11_best_29 : decode cX11_best 29 = .ok (.istore_n 3, 1) := by decide +kernel
theorem dX11_best_30 : decode cX11_best 30 = .ok (.iload_n 2, 1) := by decide +kernel
theorem dX11_best_31 : decode cX11_best 31 = .ok (.iconst (-1), 1) := by decide +kernel
theorem dX11_best_32 : decode cX11_best 32 = .ok (.if_icmp .ne 7, 3) := by decide +kernel
theorem dX11_best_35 : decode cX11_best 35 = .ok (.iload_n 3, 1) := by decide +kernel
theorem dX11_best_36 : decode cX11_best 36 = .ok (.goto 9, 3) := by decide +kernel
theorem dX11_best_39 : decode cX11_best 39 = .ok (.aload_n 0, 1) := by decide +kernel
theorem dX11_best_40 : decode cX11_best 40 = .ok (.getfield 55, 3) := by decide +kernel
theorem dX11_best_43 : decode cX11_best 43 = .ok (.iload_n 2, 1) := by decide +kernel
theorem dX11_best_44 : decode cX11_best 44 = .ok (.iaload, 1) := by decide +kernel
theorem dX11_best_45 : decode cX11_best 45 = .ok (.ireturn, 1) := by decide +kernel
theorem dX11_rest_0 : decode cX11_rest 0 = .ok (.iload_n 1, 1) := by decide +kernel
theorem dX11_rest_1 : decode cX11_rest 1 = .ok (.i2l, 1) := by decide +kernel
theorem dX11_rest_2 : decode cX11_rest 2 = .ok (.lconst 0, 1) := by decide +kernel
theorem dX11_rest_3 : decode cX11_rest 3 = .ok (.lconst 1, 1) := by decide +kernel
theorem dX11_rest_4 : decode cX11_rest 4 = .ok (.invokestatic 80, 3) := by decide +kernel
theorem dX11_rest_7 : decode cX11_rest 7 = .ok (.ifCond .ne 6, 3) := by decide +kernel
theorem dX11_rest_10 : decode cX11_rest 10 = .ok (.bipush (-10), 2) := by decide +kernel
theorem dX11_rest_12 : decode cX11_rest 12 = .ok (.ireturn, 1) := by decide +kernel
theorem dX11_rest_13 : decode cX11_rest 13 = .ok (.iconst 0, 1) := by decide +kernel
theorem dX11_rest_14 : decode cX11_rest 14 = .ok (.istore_n 2, 1) := by decide +kernel
theorem dX11_rest_15 : decode cX11_rest 15 = .ok (.iload_n 2, 1) := by decide +kernel
theorem dX11_rest_16 : decode cX11_rest 16 = .ok (.aload_n 0, 1) := by decide +kernel
theorem dX11_rest_17 : decode cX11_rest 17 = .ok (.invokevirtual 76, 3) := by decide +kernel
theorem dX11_rest_20 : decode cX11_rest 20 = .ok (.if_icmp .ge 41, 3) := by decide +kernel
theorem dX11_rest_23 : decode cX11_rest 23 = .ok (.aload_n 0, 1) := by decide +kernel
theorem dX11_rest_24 : decode cX11_rest 24 = .ok (.iload_n 2, 1) := by decide +kernel
theorem dX11_rest_25 : decode cX11_rest 25 = .ok (.invokevirtual 224, 3) := by decide +kernel
theorem dX11_rest_28 : decode cX11_rest 28 = .ok (.istore_n 3, 1) := by decide +kernel
theorem dX11_rest_29 : decode cX11_rest 29 = .ok (.aload_n 0, 1) := by decide +kernel
theorem dX11_rest_30 : decode cX11_rest 30 = .ok (.invokevirtual 211, 3) := by decide +kernel
theorem dX11_rest_33 : decode cX11_rest 33 = .ok (.iload_n 3, 1) := by decide +kernel
theorem dX11_rest_34 : decode cX11_rest 34 = .ok (.aload_n 0, 1) := by decide +kernel
theorem dX11_rest_35 : decode cX11_rest 35 = .ok (.iload_n 2, 1) := by decide +kernel
theorem dX11_rest_36 : decode cX11_rest 36 = .ok (.invokevirtual 214, 3) := by decide +kernel
theorem dX11_rest_39 : decode cX11_rest 39 = .ok (.isub, 1) := by decide +kernel
theorem dX11_rest_40 : decode cX11_rest 40 = .ok (.istore_n 3, 1) := by decide +kernel
theorem dX11_rest_41 : decode cX11_rest 41 = .ok (.iload_n 3, 1) := by decide +kernel
theorem dX11_rest_42 : decode cX11_rest 42 = .ok (.ifCond .le 13, 3) := by decide +kernel
theorem dX11_rest_45 : decode cX11_rest 45 = .ok (.iload_n 1, 1) := by decide +kernel
theorem dX11_rest_46 : decode cX11_rest 46 = .ok (.ifCond .ne 7, 3) := by decide +kernel
theorem dX11_rest_49 : decode cX11_rest 49 = .ok (.iload_n 2, 1) := by decide +kernel
theorem dX11_rest_50 : decode cX11_rest 50 = .ok (.goto 4, 3) := by decide +kernel
theorem dX11_rest_53 : decode cX11_rest 53 = .ok (.iload_n 3, 1) := by decide +kernel
theorem dX11_rest_54 : decode cX11_rest 54 = .ok (.ireturn, 1) := by decide +kernel
theorem dX11_rest_55 : decode cX11_rest 55 = .ok (.iinc 2 1, 3) := by decide +kernel
theorem dX11_rest_58 : decode cX11_rest 58 = .ok (.goto (-43), 3) := by decide +kernel
theorem dX11_rest_61 : decode cX11_rest 61 = .ok (.iconst (-1), 1) := by decide +kernel
theorem dX11_rest_62 : decode cX11_rest 62 = .ok (.ireturn, 1) := by decide +kernel
theorem dX11_isAgain_0 : decode cX11_isAgain 0 = .ok (.iconst 0, 1) := by decide +kernel
theorem dX11_isAgain_1 : decode cX11_isAgain 1 = .ok (.istore_n 2, 1) := by decide +kernel
theorem dX11_isAgain_2 : decode cX11_isAgain 2 = .ok (.iload_n 2, 1) := by decide +kernel
theorem dX11_isAgain_3 : decode cX11_isAgain 3 = .ok (.iload_n 1, 1) := by decide +kernel
theorem dX11_isAgain_4 : decode cX11_isAgain 4 = .ok (.if_icmp .ge 68, 3) := by decide +kernel
theorem dX11_isAgain_7 : decode cX11_isAgain 7 = .ok (.iconst 1, 1) := by decide +kernel
theorem dX11_isAgain_8 : decode cX11_isAgain 8 = .ok (.istore_n 3, 1) := by decide +kernel
theorem dX11_isAgain_9 : decode cX11_isAgain 9 = .ok (.iconst 0, 1) := by decide +kernel
theorem dX11_isAgain_10 : decode cX11_isAgain 10 = .ok (.istore 4, 2) := by decide +kernel
theorem dX11_isAgain_12 : decode cX11_isAgain 12 = .ok (.iload 4, 2) := by decide +kernel
theorem dX11_isAgain_14 : decode cX11_isAgain 14 = .ok (.bipush 15, 2) := by decide +kernel
theorem dX11_isAgain_16 : decode cX11_isAgain 16 = .ok (.if_icmp .ge 44, 3) := by decide +kernel
theorem dX11_isAgain_19 : decode cX11_isAgain 19 = .ok (.iload_n 3, 1) := by decide +kernel
theorem dX11_isAgain_20 : decode cX11_isAgain 20 = .ok (.ifCond .eq 32, 3) := by decide +kernel
theorem dX11_isAgain_23 : decode cX11_isAgain 23 = .ok (.aload_n 0, 1) := by decide +kernel
theorem dX11_isAgain_24 : decode cX11_isAgain 24 = .ok (.getfield 61, 3) := by decide +kernel
theorem dX11_isAgain_27 : decode cX11_isAgain 27 = .ok (.bipush 15, 2) := by decide +kernel
theorem dX11_isAgain_29 : decode cX11_isAgain 29 = .ok (.iload_n 2, 1) := by decide +kernel
theorem dX11_isAgain_30 : decode cX11_isAgain 30 = .ok (.imul, 1) := by decide +kernel
theorem dX11_isAgain_31 : decode cX11_isAgain 31 = .ok (.iload 4, 2) := by decide +kernel
theorem dX11_isAgain_33 : decode cX11_isAgain 33 = .ok (.iadd, 1) := by decide +kernel
theorem dX11_isAgain_34 : decode cX11_isAgain 34 = .ok (.iaload, 1) := by decide +kernel
theorem dX11_isAgain_35 : decode cX11_isAgain 35 = .ok (.aload_n 0, 1) := by decide +kernel
theorem dX11_isAgain_36 : decode cX11_isAgain 36 = .ok (.getfield 7, 3) := by decide +kernel
theorem dX11_isAgain_39 : decode cX11_isAgain 39 = .ok (.bipush 35, 2) := by decide +kernel
theorem dX11_isAgain_41 : decode cX11_isAgain 41 = .ok (.iload 4, 2) := by decide +kernel
theorem dX11_isAgain_43 : decode cX11_isAgain 43 = .ok (.iadd, 1) := by decide +kernel
theorem dX11_isAgain_44 : decode cX11_isAgain 44 = .ok (.iaload, 1) := by decide +kernel
theorem dX11_isAgain_45 : decode cX11_isAgain 45 = .ok (.if_icmp .ne 7, 3) := by decide +kernel
theorem dX11_isAgain_48 : decode cX11_isAgain 48 = .ok (.iconst 1, 1) := by decide +kernel
theorem dX11_isAgain_49 : decode cX11_isAgain 49 = .ok (.goto 4, 3) := by decide +kernel
theorem dX11_isAgain_52 : decode cX11_isAgain 52 = .ok (.iconst 0, 1) := by decide +kernel
theorem dX11_isAgain_53 : decode cX11_isAgain 53 = .ok (.istore_n 3, 1) := by decide +kernel
theorem dX11_isAgain_54 : decode cX11_isAgain 54 = .ok (.iinc 4 1, 3) := by decide +kernel
theorem dX11_isAgain_57 : decode cX11_isAgain 57 = .ok (.goto (-45), 3) := by decide +kernel
theorem dX11_isAgain_60 : decode cX11_isAgain 60 = .ok (.iload_n 3, 1) := by decide +kernel
theorem dX11_isAgain_61 : decode cX11_isAgain 61 = .ok (.ifCond .eq 5, 3) := by decide +kernel
theorem dX11_isAgain_64 : decode cX11_isAgain 64 = .ok (.iconst 1, 1) := by decide +kernel
theorem dX11_isAgain_65 : decode cX11_isAgain 65 = .ok (.ireturn, 1) := by decide +kernel
theorem dX11_isAgain_66 : decode cX11_isAgain 66 = .ok (.iinc 2 1, 3) := by decide +kernel
theorem dX11_isAgain_69 : decode cX11_isAgain 69 = .ok (.goto (-67), 3) := by decide +kernel
theorem dX11_isAgain_72 : decode cX11_isAgain 72 = .ok (.iconst 0, 1) := by decide +kernel
theorem dX11_isAgain_73 : decode cX11_isAgain 73 = .ok (.ireturn, 1) := by decide +kernel
theorem dX11_note_0 : decode cX11_note 0 = .ok (.iconst 0, 1) := by decide +kernel
theorem dX11_note_1 : decode cX11_note 1 = .ok (.istore_n 2, 1) := by decide +kernel
theorem dX11_note_2 : decode cX11_note 2 = .ok (.iload_n 2, 1) := by decide +kernel
theorem dX11_note_3 : decode cX11_note 3 = .ok (.bipush 15, 2) := by decide +kernel
theorem dX11_note_5 : decode cX11_note 5 = .ok (.if_icmp .ge 29, 3) := by decide +kernel
theorem dX11_note_8 : decode cX11_note 8 = .ok (.aload_n 0, 1) := by decide +kernel
theorem dX11_note_9 : decode cX11_note 9 = .ok (.getfield 61, 3) := by decide +kernel
theorem dX11_note_12 : decode cX11_note 12 = .ok (.bipush 15, 2) := by decide +kernel
theorem dX11_note_14 : decode cX11_note 14 = .ok (.iload_n 1, 1) := by decide +kernel
theorem dX11_note_15 : decode cX11_note 15 = .ok (.imul, 1) := by decide +kernel
theorem dX11_note_16 : decode cX11_note 16 = .ok (.iload_n 2, 1) := by decide +kernel
theorem dX11_note_17 : decode cX11_note 17 = .ok (.iadd, 1) := by decide +kernel
theorem dX11_note_18 : decode cX11_note 18 = .ok (.aload_n 0, 1) := by decide +kernel
theorem dX11_note_19 : decode cX11_note 19 = .ok (.getfield 7, 3) := by decide +kernel
theorem dX11_note_22 : decode cX11_note 22 = .ok (.bipush 35, 2) := by decide +kernel
theorem dX11_note_24 : decode cX11_note 24 = .ok (.iload_n 2, 1) := by decide +kernel
theorem dX11_note_25 : decode cX11_note 25 = .ok (.iadd, 1) := by decide +kernel
theorem dX11_note_26 : decode cX11_note 26 = .ok (.iaload, 1) := by decide +kernel
theorem dX11_note_27 : decode cX11_note 27 = .ok (.iastore, 1) := by decide +kernel
theorem dX11_note_28 : decode cX11_note 28 = .ok (.iinc 2 1, 3) := by decide +kernel
theorem dX11_note_31 : decode cX11_note 31 = .ok (.goto (-29), 3) := by decide +kernel
theorem dX11_note_34 : decode cX11_note 34 = .ok (.return_, 1) := by decide +kernel
theorem dX11_goByTurns_0 : decode cX11_goByTurns 0 = .ok (.iconst 0, 1) := by decide +kernel
theorem dX11_goByTurns_1 : decode cX11_goByTurns 1 = .ok (.istore_n 1, 1) := by decide +kernel
theorem dX11_goByTurns_2 : decode cX11_goByTurns 2 = .ok (.aload_n 0, 1) := by decide +kernel
theorem dX11_goByTurns_3 : decode cX11_goByTurns 3 = .ok (.iconst 0, 1) := by decide +kernel
theorem dX11_goByTurns_4 : decode cX11_goByTurns 4 = .ok (.invokevirtual 227, 3) := by decide +kernel
theorem dX11_goByTurns_7 : decode cX11_goByTurns 7 = .ok (.iconst 1, 1) := by decide +kernel
theorem dX11_goByTurns_8 : decode cX11_goByTurns 8 = .ok (.istore_n 2, 1) := by decide +kernel
theorem dX11_goByTurns_9 : decode cX11_goByTurns 9 = .ok (.iload_n 2, 1) := by decide +kernel
theorem dX11_goByTurns_10 : decode cX11_goByTurns 10 = .ok (.bipush 40, 2) := by decide +kernel
theorem dX11_goByTurns_12 : decode cX11_goByTurns 12 = .ok (.if_icmp .gt 105, 3) := by decide +kernel
theorem dX11_goByTurns_15 : decode cX11_goByTurns 15 = .ok (.iconst 0, 1) := by decide +kernel
theorem dX11_goByTurns_16 : decode cX11_goByTurns 16 = .ok (.istore_n 3, 1) := by decide +kernel
theorem dX11_goByTurns_17 : decode cX11_goByTurns 17 = .ok (.iload_n 3, 1) := by decide +kernel
theorem dX11_goByTurns_18 : decode cX11_goByTurns 18 = .ok (.aload_n 0, 1) := by decide +kernel
theorem dX11_goByTurns_19 : decode cX11_goByTurns 19 = .ok (.invokevirtual 76, 3) := by decide +kernel
theorem dX11_goByTurns_22 : decode cX11_goByTurns 22 = .ok (.if_icmp .ge 68, 3) := by decide +kernel
theorem dX11_goByTurns_25 : decode cX11_goByTurns 25 = .ok (.aload_n 0, 1) := by decide +kernel
theorem dX11_goByTurns_26 : decode cX11_goByTurns 26 = .ok (.iload_n 3, 1) := by decide +kernel
theorem dX11_goByTurns_27 : decode cX11_goByTurns 27 = .ok (.invokevirtual 224, 3) := by decide +kernel
theorem dX11_goByTurns_30 : decode cX11_goByTurns 30 = .ok (.istore 4, 2) := by decide +kernel
theorem dX11_goByTurns_32 : decode cX11_goByTurns 32 = .ok (.aload_n 0, 1) := by decide +kernel
theorem dX11_goByTurns_33 : decode cX11_goByTurns 33 = .ok (.invokevirtual 211, 3) := by decide +kernel
theorem dX11_goByTurns_36 : decode cX11_goByTurns 36 = .ok (.iinc 1 1, 3) := by decide +kernel
theorem dX11_goByTurns_39 : decode cX11_goByTurns 39 = .ok (.iload 4, 2) := by decide +kernel
theorem dX11_goByTurns_41 : decode cX11_goByTurns 41 = .ok (.aload_n 0, 1) := by decide +kernel
theorem dX11_goByTurns_42 : decode cX11_goByTurns 42 = .ok (.iload_n 3, 1) := by decide +kernel
theorem dX11_goByTurns_43 : decode cX11_goByTurns 43 = .ok (.invokevirtual 214, 3) := by decide +kernel
theorem dX11_goByTurns_46 : decode cX11_goByTurns 46 = .ok (.if_icmp .le 28, 3) := by decide +kernel
theorem dX11_goByTurns_49 : decode cX11_goByTurns 49 = .ok (.aload_n 0, 1) := by decide +kernel
theorem dX11_goByTurns_50 : decode cX11_goByTurns 50 = .ok (.iload_n 3, 1) := by decide +kernel
theorem dX11_goByTurns_51 : decode cX11_goByTurns 51 = .ok (.aload_n 0, 1) := by decide +kernel
theorem dX11_goByTurns_52 : decode cX11_goByTurns 52 = .ok (.getfield 55, 3) := by decide +kernel
theorem dX11_goByTurns_55 : decode cX11_goByTurns 55 = .ok (.iconst 0, 1) := by decide +kernel
theorem dX11_goByTurns_56 : decode cX11_goByTurns 56 = .ok (.iaload, 1) := by decide +kernel
theorem dX11_goByTurns_57 : decode cX11_goByTurns 57 = .ok (.aload_n 0, 1) := by decide +kernel
theorem dX11_goByTurns_58 : decode cX11_goByTurns 58 = .ok (.getfield 55, 3) := by decide +kernel
theorem dX11_goByTurns_61 : decode cX11_goByTurns 61 = .ok (.iconst 1, 1) := by decide +kernel
theorem dX11_goByTurns_62 : decode cX11_goByTurns 62 = .ok (.iaload, 1) := by decide +kernel
theorem dX11_goByTurns_63 : decode cX11_goByTurns 63 = .ok (.aload_n 0, 1) := by decide +kernel
theorem dX11_goByTurns_64 : decode cX11_goByTurns 64 = .ok (.getfield 55, 3) := by decide +kernel
theorem dX11_goByTurns_67 : decode cX11_goByTurns 67 = .ok (.iconst 2, 1) := by decide +kernel
theorem dX11_goByTurns_68 : decode cX11_goByTurns 68 = .ok (.iaload, 1) := by decide +kernel
theorem dX11_goByTurns_69 : decode cX11_goByTurns 69 = .ok (.invokevirtual 220, 3) := by decide +kernel
theorem dX11_goByTurns_72 : decode cX11_goByTurns 72 = .ok (.iconst 0, 1) := by decide +kernel
theorem dX11_goByTurns_73 : decode cX11_goByTurns 73 = .ok (.istore_n 1, 1) := by decide +kernel
theorem dX11_goByTurns_74 : decode cX11_goByTurns 74 = .ok (.iload_n 1, 1) := by decide +kernel
theorem dX11_goByTurns_75 : decode cX11_goByTurns 75 = .ok (.aload_n 0, 1) := by decide +kernel
theorem dX11_goByTurns_76 : decode cX11_goByTurns 76 = .ok (.invokevirtual 76, 3) := by decide +kernel
theorem dX11_goByTurns_79 : decode cX11_goByTurns 79 = .ok (.if_icmp .ne 5, 3) := by decide +kernel
theorem dX11_goByTurns_82 : decode cX11_goByTurns 82 = .ok (.iconst 0, 1) := by decide +kernel
theorem dX11_goByTurns_83 : decode cX11_goByTurns 83 = .ok (.ireturn, 1) := by decide +kernel
theorem dX11_goByTurns_84 : decode cX11_goByTurns 84 = .ok (.iinc 3 1, 3) := by decide +kernel
theorem dX11_goByTurns_87 : decode cX11_goByTurns 87 = .ok (.goto (-70), 3) := by decide +kernel
theorem dX11_goByTurns_90 : decode cX11_goByTurns 90 = .ok (.aload_n 0, 1) := by decide +kernel
theorem dX11_goByTurns_91 : decode cX11_goByTurns 91 = .ok (.iload_n 2, 1) := by decide +kernel
theorem dX11_goByTurns_92 : decode cX11_goByTurns 92 = .ok (.invokevirtual 230, 3) := by decide +kernel
theorem dX11_goByTurns_95 : decode cX11_goByTurns 95 = .ok (.ifCond .eq 5, 3) := by decide +kernel
theorem dX11_goByTurns_98 : decode cX11_goByTurns 98 = .ok (.iconst 1, 1) := by decide +kernel
theorem dX11_goByTurns_99 : decode cX11_goByTurns 99 = .ok (.ireturn, 1) := by decide +kernel
theorem dX11_goByTurns_100 : decode cX11_goByTurns 100 = .ok (.iload_n 2, 1) := by decide +kernel
theorem dX11_goByTurns_101 : decode cX11_goByTurns 101 = .ok (.bipush 40, 2) := by decide +kernel
theorem dX11_goByTurns_103 : decode cX11_goByTurns 103 = .ok (.if_icmp .ge 8, 3) := by decide +kernel
theorem dX11_goByTurns_106 : decode cX11_goByTurns 106 = .ok (.aload_n 0, 1) := by decide +kernel
theorem dX11_goByTurns_107 : decode cX11_goByTurns 107 = .ok (.iload_n 2, 1) := by decide +kernel
theorem dX11_goByTurns_108 : decode cX11_goByTurns 108 = .ok (.invokevirtual 227, 3) := by decide +kernel
theorem dX11_goByTurns_111 : decode cX11_goByTurns 111 = .ok (.iinc 2 1, 3) := by decide +kernel
theorem dX11_goByTurns_114 : decode cX11_goByTurns 114 = .ok (.goto (-105), 3) := by decide +kernel
theorem dX11_goByTurns_117 : decode cX11_goByTurns 117 = .ok (.iconst 2, 1) := by decide +kernel
theorem dX11_goByTurns_118 : decode cX11_goByTurns 118 = .ok (.ireturn, 1) := by decide +kernel
theorem dX11_turns_0 : decode cX11_turns 0 = .ok (.aload_n 0, 1) := by decide +kernel
theorem dX11_turns_1 : decode cX11_turns 1 = .ok (.invokevirtual 76, 3) := by decide +kernel
theorem dX11_turns_4 : decode cX11_turns 4 = .ok (.ifCond .ne 8, 3) := by decide +kernel
theorem dX11_turns_7 : decode cX11_turns 7 = .ok (.bipush (-5), 2) := by decide +kernel
theorem dX11_turns_9 : decode cX11_turns 9 = .ok (.goto 7, 3) := by decide +kernel
theorem dX11_turns_12 : decode cX11_turns 12 = .ok (.aload_n 0, 1) := by decide +kernel
theorem dX11_turns_13 : decode cX11_turns 13 = .ok (.invokevirtual 233, 3) := by decide +kernel
theorem dX11_turns_16 : decode cX11_turns 16 = .ok (.ireturn, 1) := by decide +kernel
theorem dX11_allCoin_0 : decode cX11_allCoin 0 = .ok (.iconst 0, 1) := by decide +kernel
theorem dX11_allCoin_1 : decode cX11_allCoin 1 = .ok (.istore_n 1, 1) := by decide +kernel
theorem dX11_allCoin_2 : decode cX11_allCoin 2 = .ok (.iconst 0, 1) := by decide +kernel
theorem dX11_allCoin_3 : decode cX11_allCoin 3 = .ok (.istore_n 2, 1) := by decide +kernel
theorem dX11_allCoin_4 : decode cX11_allCoin 4 = .ok (.iload_n 2, 1) := by decide +kernel
theorem dX11_allCoin_5 : decode cX11_allCoin 5 = .ok (.aload_n 0, 1) := by decide +kernel
theorem dX11_allCoin_6 : decode cX11_allCoin 6 = .ok (.invokevirtual 76, 3) := by decide +kernel
theorem dX11_allCoin_9 : decode cX11_allCoin 9 = .ok (.if_icmp .ge 20, 3) := by decide +kernel
theorem dX11_allCoin_12 : decode cX11_allCoin 12 = .ok (.iload_n 1, 1) := by decide +kernel
theorem dX11_allCoin_13 : decode cX11_allCoin 13 = .ok (.aload_n 0, 1) := by decide +kernel
theorem dX11_allCoin_14 : decode cX11_allCoin 14 = .ok (.getfield 7, 3) := by decide +kernel
theorem dX11_allCoin_17 : decode cX11_allCoin 17 = .ok (.iconst 0, 1) := by decide +kernel
theorem dX11_allCoin_18 : decode cX11_allCoin 18 = .ok (.iload_n 2, 1) := by decide +kernel
theorem dX11_allCoin_19 : decode cX11_allCoin 19 = .ok (.iadd, 1) := by decide +kernel
theorem dX11_allCoin_20 : decode cX11_allCoin 20 = .ok (.iaload, 1) := by decide +kernel
theorem dX11_allCoin_21 : decode cX11_allCoin 21 = .ok (.iadd, 1) := by decide +kernel
theorem dX11_allCoin_22 : decode cX11_allCoin 22 = .ok (.istore_n 1, 1) := by decide +kernel
theorem dX11_allCoin_23 : decode cX11_allCoin 23 = .ok (.iinc 2 1, 3) := by decide +kernel
theorem dX11_allCoin_26 : decode cX11_allCoin 26 = .ok (.goto (-22), 3) := by decide +kernel
theorem dX11_allCoin_29 : decode cX11_allCoin 29 = .ok (.iload_n 1, 1) := by decide +kernel
theorem dX11_allCoin_30 : decode cX11_allCoin 30 = .ok (.ireturn, 1) := by decide +kernel
theorem dX11_findGood_0 : decode cX11_findGood 0 = .ok (.iconst 0, 1) := by decide +kernel
theorem dX11_findGood_1 : decode cX11_findGood 1 = .ok (.istore_n 1, 1) := by decide +kernel
theorem dX11_findGood_2 : decode cX11_findGood 2 = .ok (.iload_n 1, 1) := by decide +kernel
theorem dX11_findGood_3 : decode cX11_findGood 3 = .ok (.iconst 3, 1) := by decide +kernel
theorem dX11_findGood_4 : decode cX11_findGood 4 = .ok (.if_icmp .ge 74, 3) := by decide +kernel
theorem dX11_findGood_7 : decode cX11_findGood 7 = .ok (.iconst 0, 1) := by decide +kernel
theorem dX11_findGood_8 : decode cX11_findGood 8 = .ok (.istore_n 2, 1) := by decide +kernel
theorem dX11_findGood_9 : decode cX11_findGood 9 = .ok (.iload_n 2, 1) := by decide +kernel
theorem dX11_findGood_10 : decode cX11_findGood 10 = .ok (.bipush 60, 2) := by decide +kernel
theorem dX11_findGood_12 : decode cX11_findGood 12 = .ok (.if_icmp .gt 60, 3) := by decide +kernel
theorem dX11_findGood_15 : decode cX11_findGood 15 = .ok (.iconst 0, 1) := by decide +kernel
theorem dX11_findGood_16 : decode cX11_findGood 16 = .ok (.istore_n 3, 1) := by decide +kernel
theorem dX11_findGood_17 : decode cX11_findGood 17 = .ok (.iconst 0, 1) := by decide +kernel
theorem dX11_findGood_18 : decode cX11_findGood 18 = .ok (.istore 4, 2) := by decide +kernel
theorem dX11_findGood_20 : decode cX11_findGood 20 = .ok (.iload 4, 2) := by decide +kernel
theorem dX11_findGood_22 : decode cX11_findGood 22 = .ok (.aload_n 0, 1) := by decide +kernel
theorem dX11_findGood_23 : decode cX11_findGood 23 = .ok (.invokevirtual 76, 3) := by decide +kernel
theorem dX11_findGood_26 : decode cX11_findGood 26 = .ok (.if_icmp .ge 28, 3) := by decide +kernel
theorem dX11_findGood_29 : decode cX11_findGood 29 = .ok (.iload_n 1, 1) := by decide +kernel
theorem dX11_findGood_30 : decode cX11_findGood 30 = .ok (.aload_n 0, 1) := by decide +kernel
theorem dX11_findGood_31 : decode cX11_findGood 31 = .ok (.invokevirtual 84, 3) := by decide +kernel
theorem dX11_findGood_34 : decode cX11_findGood 34 = .ok (.if_icmp .ge 20, 3) := by decide +kernel
theorem dX11_findGood_37 : decode cX11_findGood 37 = .ok (.iload_n 3, 1) := by decide +kernel
theorem dX11_findGood_38 : decode cX11_findGood 38 = .ok (.aload_n 0, 1) := by decide +kernel
theorem dX11_findGood_39 : decode cX11_findGood 39 = .ok (.iload 4, 2) := by decide +kernel
theorem dX11_findGood_41 : decode cX11_findGood 41 = .ok (.iload_n 1, 1) := by decide +kernel
theorem dX11_findGood_42 : decode cX11_findGood 42 = .ok (.iload_n 2, 1) := by decide +kernel
theorem dX11_findGood_43 : decode cX11_findGood 43 = .ok (.invokevirtual 207, 3) := by decide +kernel
theorem dX11_findGood_46 : decode cX11_findGood 46 = .ok (.iadd, 1) := by decide +kernel
theorem dX11_findGood_47 : decode cX11_findGood 47 = .ok (.istore_n 3, 1) := by decide +kernel
theorem dX11_findGood_48 : decode cX11_findGood 48 = .ok (.iinc 4 1, 3) := by decide +kernel
theorem dX11_findGood_51 : decode cX11_findGood 51 = .ok (.goto (-31), 3) := by decide +kernel
theorem dX11_findGood_54 : decode cX11_findGood 54 = .ok (.aload_n 0, 1) := by decide +kernel
theorem dX11_findGood_55 : decode cX11_findGood 55 = .ok (.getfield 64, 3) := by decide +kernel
theorem dX11_findGood_58 : decode cX11_findGood 58 = .ok (.bipush 61, 2) := by decide +kernel
theorem dX11_findGood_60 : decode cX11_findGood 60 = .ok (.iload_n 1, 1) := by decide +kernel
theorem dX11_findGood_61 : decode cX11_findGood 61 = .ok (.imul, 1) := by decide +kernel
theorem dX11_findGood_62 : decode cX11_findGood 62 = .ok (.iload_n 2, 1) := by decide +kernel
theorem dX11_findGood_63 : decode cX11_findGood 63 = .ok (.iadd, 1) := by decide +kernel
theorem dX11_findGood_64 : decode cX11_findGood 64 = .ok (.iload_n 3, 1) := by decide +kernel
theorem dX11_findGood_65 : decode cX11_findGood 65 = .ok (.iastore, 1) := by decide +kernel
theorem dX11_findGood_66 : decode cX11_findGood 66 = .ok (.iinc 2 1, 3) := by decide +kernel
theorem dX11_findGood_69 : decode cX11_findGood 69 = .ok (.goto (-60), 3) := by decide +kernel
theorem dX11_findGood_72 : decode cX11_findGood 72 = .ok (.iinc 1 1, 3) := by decide +kernel
theorem dX11_findGood_75 : decode cX11_findGood 75 = .ok (.goto (-73), 3) := by decide +kernel
theorem dX11_findGood_78 : decode cX11_findGood 78 = .ok (.aload_n 0, 1) := by decide +kernel
theorem dX11_findGood_79 : decode cX11_findGood 79 = .ok (.invokevirtual 236, 3) := by decide +kernel
theorem dX11_findGood_82 : decode cX11_findGood 82 = .ok (.istore_n 1, 1) := by decide +kernel
theorem dX11_findGood_83 : decode cX11_findGood 83 = .ok (.iload_n 1, 1) := by decide +kernel
theorem dX11_findGood_84 : decode cX11_findGood 84 = .ok (.aload_n 0, 1) := by decide +kernel
theorem dX11_findGood_85 : decode cX11_findGood 85 = .ok (.getfield 7, 3) := by decide +kernel
theorem dX11_findGood_88 : decode cX11_findGood 88 = .ok (.bipush 55, 2) := by decide +kernel
theorem dX11_findGood_90 : decode cX11_findGood 90 = .ok (.iaload, 1) := by decide +kernel
theorem dX11_findGood_91 : decode cX11_findGood 91 = .ok (.iadd, 1) := by decide +kernel
theorem dX11_findGood_92 : decode cX11_findGood 92 = .ok (.istore_n 2, 1) := by decide +kernel
theorem dX11_findGood_93 : decode cX11_findGood 93 = .ok (.iconst (-1), 1) := by decide +kernel
theorem dX11_findGood_94 : decode cX11_findGood 94 = .ok (.istore_n 3, 1) := by decide +kernel
theorem dX11_findGood_95 : decode cX11_findGood 95 = .ok (.iconst 0, 1) := by decide +kernel
theorem dX11_findGood_96 : decode cX11_findGood 96 = .ok (.istore 4, 2) := by decide +kernel
theorem dX11_findGood_98 : decode cX11_findGood 98 = .ok (.iload 4, 2) := by decide +kernel
theorem dX11_findGood_100 : decode cX11_findGood 100 = .ok (.aload_n 0, 1) := by decide +kernel
theorem dX11_findGood_101 : decode cX11_findGood 101 = .ok (.invokevirtual 84, 3) := by decide +kernel
theorem dX11_findGood_104 : decode cX11_findGood 104 = .ok (.ifCond .le 8, 3) := by decide +kernel
theorem dX11_findGood_107 : decode cX11_findGood 107 = .ok (.bipush 60, 2) := by decide +kernel
theorem dX11_findGood_109 : decode cX11_findGood 109 = .ok (.goto 4, 3) := by decide +kernel
theorem dX11_findGood_112 : decode cX11_findGood 112 = .ok (.iconst 0, 1) := by decide +kernel
theorem dX11_findGood_113 : decode cX11_findGood 113 = .ok (.if_icmp .gt 189, 3) := by decide +kernel
theorem dX11_findGood_116 : decode cX11_findGood 116 = .ok (.iload 4, 2) := by decide +kernel
theorem dX11_findGood_118 : decode cX11_findGood 118 = .ok (.iload_n 2, 1) := by decide +kernel
theorem dX11_findGood_119 : decode cX11_findGood 119 = .ok (.if_icmp .gt 183, 3) := by decide +kernel
theorem dX11_findGood_122 : decode cX11_findGood 122 = .ok (.iconst 0, 1) := by decide +kernel
theorem dX11_findGood_123 : decode cX11_findGood 123 = .ok (.istore 5, 2) := by decide +kernel
theorem dX11_findGood_125 : decode cX11_findGood 125 = .ok (.iload 5, 2) := by decide +kernel
theorem dX11_findGood_127 : decode cX11_findGood 127 = .ok (.aload_n 0, 1) := by decide +kernel
theorem dX11_findGood_128 : decode cX11_findGood 128 = .ok (.invokevirtual 84, 3) := by decide +kernel
theorem dX11_findGood_131 : decode cX11_findGood 131 = .ok (.iconst 1, 1) := by decide +kernel
theorem dX11_findGood_132 : decode cX11_findGood 132 = .ok (.if_icmp .le 8, 3) := by decide +kernel
theorem dX11_findGood_135 : decode cX11_findGood 135 = .ok (.bipush 60, 2) := by decide +kernel
theorem dX11_findGood_137 : decode cX11_findGood 137 = .ok (.goto 4, 3) := by decide +kernel
theorem dX11_findGood_140 : decode cX11_findGood 140 = .ok (.iconst 0, 1) := by decide +kernel
theorem dX11_findGood_141 : decode cX11_findGood 141 = .ok (.if_icmp .gt 155, 3) := by decide +kernel
theorem dX11_findGood_144 : decode cX11_findGood 144 = .ok (.iload 4, 2) := by decide +kernel
theorem dX11_findGood_146 : decode cX11_findGood 146 = .ok (.iload 5, 2) := by decide +kernel
theorem dX11_findGood_148 : decode cX11_findGood 148 = .ok (.iadd, 1) := by decide +kernel
theorem dX11_findGood_149 : decode cX11_findGood 149 = .ok (.iload_n 2, 1) := by decide +kernel
theorem dX11_findGood_150 : decode cX11_findGood 150 = .ok (.if_icmp .gt 146, 3) := by decide +kernel
theorem dX11_findGood_153 : decode cX11_findGood 153 = .ok (.iconst 0, 1) := by decide +kernel
theorem dX11_findGood_154 : decode cX11_findGood 154 = .ok (.istore 6, 2) := by decide +kernel
theorem dX11_findGood_156 : decode cX11_findGood 156 = .ok (.iload 6, 2) := by decide +kernel
theorem dX11_findGood_158 : decode cX11_findGood 158 = .ok (.aload_n 0, 1) := by decide +kernel
theorem dX11_findGood_159 : decode cX11_findGood 159 = .ok (.invokevirtual 84, 3) := by decide +kernel
theorem dX11_findGood_162 : decode cX11_findGood 162 = .ok (.iconst 2, 1) := by decide +kernel
theorem dX11_findGood_163 : decode cX11_findGood 163 = .ok (.if_icmp .le 8, 3) := by decide +kernel
theorem dX11_findGood_166 : decode cX11_findGood 166 = .ok (.bipush 60, 2) := by decide +kernel
theorem dX11_findGood_168 : decode cX11_findGood 168 = .ok (.goto 4, 3) := by decide +kernel
theorem dX11_findGood_171 : decode cX11_findGood 171 = .ok (.iconst 0, 1) := by decide +kernel
theorem dX11_findGood_172 : decode cX11_findGood 172 = .ok (.if_icmp .gt 118, 3) := by decide +kernel
theorem dX11_findGood_175 : decode cX11_findGood 175 = .ok (.iload 4, 2) := by decide +kernel
theorem dX11_findGood_177 : decode cX11_findGood 177 = .ok (.iload 5, 2) := by decide +kernel
theorem dX11_findGood_179 : decode cX11_findGood 179 = .ok (.iadd, 1) := by decide +kernel
theorem dX11_findGood_180 : decode cX11_findGood 180 = .ok (.iload 6, 2) := by decide +kernel
theorem dX11_findGood_182 : decode cX11_findGood 182 = .ok (.iadd, 1) := by decide +kernel
theorem dX11_findGood_183 : decode cX11_findGood 183 = .ok (.iload_n 2, 1) := by decide +kernel
theorem dX11_findGood_184 : decode cX11_findGood 184 = .ok (.if_icmp .gt 106, 3) := by decide +kernel
theorem dX11_findGood_187 : decode cX11_findGood 187 = .ok (.iload_n 2, 1) := by decide +kernel
theorem dX11_findGood_188 : decode cX11_findGood 188 = .ok (.iload 4, 2) := by decide +kernel
theorem dX11_findGood_190 : decode cX11_findGood 190 = .ok (.isub, 1) := by decide +kernel
theorem dX11_findGood_191 : decode cX11_findGood 191 = .ok (.iload 5, 2) := by decide +kernel
theorem dX11_findGood_193 : decode cX11_findGood 193 = .ok (.isub, 1) := by decide +kernel
theorem dX11_findGood_194 : decode cX11_findGood 194 = .ok (.iload 6, 2) := by decide +kernel
theorem dX11_findGood_196 : decode cX11_findGood 196 = .ok (.isub, 1) := by decide +kernel
theorem dX11_findGood_197 : decode cX11_findGood 197 = .ok (.istore 7, 2) := by decide +kernel
theorem dX11_findGood_199 : decode cX11_findGood 199 = .ok (.aload_n 0, 1) := by decide +kernel
theorem dX11_findGood_200 : decode cX11_findGood 200 = .ok (.getfield 64, 3) := by decide +kernel
theorem dX11_findGood_203 : decode cX11_findGood 203 = .ok (.iload 4, 2) := by decide +kernel
theorem dX11_findGood_205 : decode cX11_findGood 205 = .ok (.iaload, 1) := by decide +kernel
theorem dX11_findGood_206 : decode cX11_findGood 206 = .ok (.aload_n 0, 1) := by decide +kernel
theorem dX11_findGood_207 : decode cX11_findGood 207 = .ok (.getfield 64, 3) := by decide +kernel
theorem dX11_findGood_210 : decode cX11_findGood 210 = .ok (.bipush 61, 2) := by decide +kernel
theorem dX11_findGood_212 : decode cX11_findGood 212 = .ok (.iload 5, 2) := by decide +kernel
theorem dX11_findGood_214 : decode cX11_findGood 214 = .ok (.iadd, 1) := by decide +kernel
theorem dX11_findGood_215 : decode cX11_findGood 215 = .ok (.iaload, 1) := by decide +kernel
theorem dX11_findGood_216 : decode cX11_findGood 216 = .ok (.iadd, 1) := by decide +kernel
theorem dX11_findGood_217 : decode cX11_findGood 217 = .ok (.aload_n 0, 1) := by decide +kernel
theorem dX11_findGood_218 : decode cX11_findGood 218 = .ok (.getfield 64, 3) := by decide +kernel
theorem dX11_findGood_221 : decode cX11_findGood 221 = .ok (.bipush 122, 2) := by decide +kernel
theorem dX11_findGood_223 : decode cX11_findGood 223 = .ok (.iload 6, 2) := by decide +kernel
theorem dX11_findGood_225 : decode cX11_findGood 225 = .ok (.iadd, 1) := by decide +kernel
theorem dX11_findGood_226 : decode cX11_findGood 226 = .ok (.iaload, 1) := by decide +kernel
theorem dX11_findGood_227 : decode cX11_findGood 227 = .ok (.iadd, 1) := by decide +kernel
theorem dX11_findGood_228 : decode cX11_findGood 228 = .ok (.aload_n 0, 1) := by decide +kernel
theorem dX11_findGood_229 : decode cX11_findGood 229 = .ok (.getfield 7, 3) := by decide +kernel
theorem dX11_findGood_232 : decode cX11_findGood 232 = .ok (.bipush 53, 2) := by decide +kernel
theorem dX11_findGood_234 : decode cX11_findGood 234 = .ok (.iaload, 1) := by decide +kernel
theorem dX11_findGood_235 : decode cX11_findGood 235 = .ok (.iload 7, 2) := by decide +kernel
theorem dX11_findGood_237 : decode cX11_findGood 237 = .ok (.iload_n 1, 1) := by decide +kernel
theorem dX11_findGood_238 : decode cX11_findGood 238 = .ok (.if_icmp .ge 8, 3) := by decide +kernel
theorem dX11_findGood_241 : decode cX11_findGood 241 = .ok (.iload 7, 2) := by decide +kernel
theorem dX11_findGood_243 : decode cX11_findGood 243 = .ok (.goto 4, 3) := by decide +kernel
theorem dX11_findGood_246 : decode cX11_findGood 246 = .ok (.iload_n 1, 1) := by decide +kernel
theorem dX11_findGood_247 : decode cX11_findGood 247 = .ok (.imul, 1) := by decide +kernel
theorem dX11_findGood_248 : decode cX11_findGood 248 = .ok (.iadd, 1) := by decide +kernel
theorem dX11_findGood_249 : decode cX11_findGood 249 = .ok (.istore 8, 2) := by decide +kernel
theorem dX11_findGood_251 : decode cX11_findGood 251 = .ok (.iload 8, 2) := by decide +kernel
theorem dX11_findGood_253 : decode cX11_findGood 253 = .ok (.iload_n 3, 1) := by decide +kernel
theorem dX11_findGood_254 : decode cX11_findGood 254 = .ok (.if_icmp .le 30, 3) := by decide +kernel
theorem dX11_findGood_257 : decode cX11_findGood 257 = .ok (.iload 8, 2) := by decide +kernel
theorem dX11_findGood_259 : decode cX11_findGood 259 = .ok (.istore_n 3, 1) := by decide +kernel
theorem dX11_findGood_260 : decode cX11_findGood 260 = .ok (.aload_n 0, 1) := by decide +kernel
theorem dX11_findGood_261 : decode cX11_findGood 261 = .ok (.getfield 67, 3) := by decide +kernel
theorem dX11_findGood_264 : decode cX11_findGood 264 = .ok (.iconst 0, 1) := by decide +kernel
theorem dX11_findGood_265 : decode cX11_findGood 265 = .ok (.iload 4, 2) := by decide +kernel
theorem dX11_findGood_267 : decode cX11_findGood 267 = .ok (.iastore, 1) := by decide +kernel
theorem dX11_findGood_268 : decode cX11_findGood 268 = .ok (.aload_n 0, 1) := by decide +kernel
theorem dX11_findGood_269 : decode cX11_findGood 269 = .ok (.getfield 67, 3) := by decide +kernel
theorem dX11_findGood_272 : decode cX11_findGood 272 = .ok (.iconst 1, 1) := by decide +kernel
theorem dX11_findGood_273 : decode cX11_findGood 273 = .ok (.iload 5, 2) := by decide +kernel
theorem dX11_findGood_275 : decode cX11_findGood 275 = .ok (.iastore, 1) := by decide +kernel
theorem dX11_findGood_276 : decode cX11_findGood 276 = .ok (.aload_n 0, 1) := by decide +kernel
theorem dX11_findGood_277 : decode cX11_findGood 277 = .ok (.getfield 67, 3) := by decide +kernel
theorem dX11_findGood_280 : decode cX11_findGood 280 = .ok (.iconst 2, 1) := by decide +kernel
theorem dX11_findGood_281 : decode cX11_findGood 281 = .ok (.iload 6, 2) := by decide +kernel
theorem dX11_findGood_283 : decode cX11_findGood 283 = .ok (.iastore, 1) := by decide +kernel
theorem dX11_findGood_284 : decode cX11_findGood 284 = .ok (.iinc 6 1, 3) := by decide +kernel
theorem dX11_findGood_287 : decode cX11_findGood 287 = .ok (.goto (-131), 3) := by decide +kernel
theorem dX11_findGood_290 : decode cX11_findGood 290 = .ok (.iinc 5 1, 3) := by decide +kernel
theorem dX11_findGood_293 : decode cX11_findGood 293 = .ok (.goto (-168), 3) := by decide +kernel
theorem dX11_findGood_296 : decode cX11_findGood 296 = .ok (.iinc 4 1, 3) := by decide +kernel
theorem dX11_findGood_299 : decode cX11_findGood 299 = .ok (.goto (-201), 3) := by decide +kernel
theorem dX11_findGood_302 : decode cX11_findGood 302 = .ok (.iload_n 3, 1) := by decide +kernel
theorem dX11_findGood_303 : decode cX11_findGood 303 = .ok (.ireturn, 1) := by decide +kernel
theorem dX11_good_0 : decode cX11_good 0 = .ok (.iload_n 1, 1) := by decide +kernel
theorem dX11_good_1 : decode cX11_good 1 = .ok (.iconst (-1), 1) := by decide +kernel
theorem dX11_good_2 : decode cX11_good 2 = .ok (.if_icmp .eq 14, 3) := by decide +kernel
theorem dX11_good_5 : decode cX11_good 5 = .ok (.aload_n 0, 1) := by decide +kernel
theorem dX11_good_6 : decode cX11_good 6 = .ok (.iload_n 1, 1) := by decide +kernel
theorem dX11_good_7 : decode cX11_good 7 = .ok (.invokevirtual 95, 3) := by decide +kernel
theorem dX11_good_10 : decode cX11_good 10 = .ok (.ifCond .ne 6, 3) := by decide +kernel
theorem dX11_good_13 : decode cX11_good 13 = .ok (.bipush (-10), 2) := by decide +kernel
theorem dX11_good_15 : decode cX11_good 15 = .ok (.ireturn, 1) := by decide +kernel
theorem dX11_good_16 : decode cX11_good 16 = .ok (.aload_n 0, 1) := by decide +kernel
theorem dX11_good_17 : decode cX11_good 17 = .ok (.invokevirtual 239, 3) := by decide +kernel
theorem dX11_good_20 : decode cX11_good 20 = .ok (.istore_n 2, 1) := by decide +kernel
theorem dX11_good_21 : decode cX11_good 21 = .ok (.iload_n 1, 1) := by decide +kernel
theorem dX11_good_22 : decode cX11_good 22 = .ok (.iconst (-1), 1) := by decide +kernel
theorem dX11_good_23 : decode cX11_good 23 = .ok (.if_icmp .ne 7, 3) := by decide +kernel
theorem dX11_good_26 : decode cX11_good 26 = .ok (.iload_n 2, 1) := by decide +kernel
theorem dX11_good_27 : decode cX11_good 27 = .ok (.goto 9, 3) := by decide +kernel
theorem dX11_good_30 : decode cX11_good 30 = .ok (.aload_n 0, 1) := by decide +kernel
theorem dX11_good_31 : decode cX11_good 31 = .ok (.getfield 67, 3) := by decide +kernel
theorem dX11_good_34 : decode cX11_good 34 = .ok (.iload_n 1, 1) := by decide +kernel
theorem dX11_good_35 : decode cX11_good 35 = .ok (.iaload, 1) := by decide +kernel
theorem dX11_good_36 : decode cX11_good 36 = .ok (.ireturn, 1) := by decide +kernel
theorem dX11_lost_0 : decode cX11_lost 0 = .ok (.aload_n 0, 1) := by decide +kernel
theorem dX11_lost_1 : decode cX11_lost 1 = .ok (.invokevirtual 239, 3) := by decide +kernel
theorem dX11_lost_4 : decode cX11_lost 4 = .ok (.aload_n 0, 1) := by decide +kernel
theorem dX11_lost_5 : decode cX11_lost 5 = .ok (.invokevirtual 217, 3) := by decide +kernel
theorem dX11_lost_8 : decode cX11_lost 8 = .ok (.isub, 1) := by decide +kernel
theorem dX11_lost_9 : decode cX11_lost 9 = .ok (.ireturn, 1) := by decide +kernel
theorem dX11_findHands_0 : decode cX11_findHands 0 = .ok (.aload_n 0, 1) := by decide +kernel
theorem dX11_findHands_1 : decode cX11_findHands 1 = .ok (.iload_n 1, 1) := by decide +kernel
theorem dX11_findHands_2 : decode cX11_findHands 2 = .ok (.iload_n 2, 1) := by decide +kernel
theorem dX11_findHands_3 : decode cX11_findHands 3 = .ok (.invokevirtual 186, 3) := by decide +kernel
theorem dX11_findHands_6 : decode cX11_findHands 6 = .ok (.istore_n 3, 1) := by decide +kernel
theorem dX11_findHands_7 : decode cX11_findHands 7 = .ok (.iconst 0, 1) := by decide +kernel
theorem dX11_findHands_8 : decode cX11_findHands 8 = .ok (.istore 4, 2) := by decide +kernel
theorem dX11_findHands_10 : decode cX11_findHands 10 = .ok (.iload 4, 2) := by decide +kernel
theorem dX11_findHands_12 : decode cX11_findHands 12 = .ok (.iconst 5, 1) := by decide +kernel
theorem dX11_findHands_13 : decode cX11_findHands 13 = .ok (.if_icmp .ge 17, 3) := by decide +kernel
theorem dX11_findHands_16 : decode cX11_findHands 16 = .ok (.aload_n 0, 1) := by decide +kernel
theorem dX11_findHands_17 : decode cX11_findHands 17 = .ok (.getfield 70, 3) := by decide +kernel
theorem dX11_findHands_20 : decode cX11_findHands 20 = .ok (.iload 4, 2) := by decide +kernel
theorem dX11_findHands_22 : decode cX11_findHands 22 = .ok (.iconst (-1), 1) := by decide +kernel
theorem dX11_findHands_23 : decode cX11_findHands 23 = .ok (.iastore, 1) := by decide +kernel
theorem dX11_findHands_24 : decode cX11_findHands 24 = .ok (.iinc 4 1, 3) := by decide +kernel
theorem dX11_findHands_27 : decode cX11_findHands 27 = .ok (.goto (-17), 3) := by decide +kernel
theorem dX11_findHands_30 : decode cX11_findHands 30 = .ok (.aload_n 0, 1) := by decide +kernel
theorem dX11_findHands_31 : decode cX11_findHands 31 = .ok (.iload_n 1, 1) := by decide +kernel
theorem dX11_findHands_32 : decode cX11_findHands 32 = .ok (.putfield 45, 3) := by decide +kernel
theorem dX11_findHands_35 : decode cX11_findHands 35 = .ok (.aload_n 0, 1) := by decide +kernel
theorem dX11_findHands_36 : decode cX11_findHands 36 = .ok (.iload_n 2, 1) := by decide +kernel
theorem dX11_findHands_37 : decode cX11_findHands 37 = .ok (.putfield 49, 3) := by decide +kernel
theorem dX11_findHands_40 : decode cX11_findHands 40 = .ok (.iconst 0, 1) := by decide +kernel
theorem dX11_findHands_41 : decode cX11_findHands 41 = .ok (.istore 4, 2) := by decide +kernel
theorem dX11_findHands_43 : decode cX11_findHands 43 = .ok (.iload 4, 2) := by decide +kernel
theorem dX11_findHands_45 : decode cX11_findHands 45 = .ok (.iload_n 3, 1) := by decide +kernel
theorem dX11_findHands_46 : decode cX11_findHands 46 = .ok (.if_icmp .gt 191, 3) := by decide +kernel
theorem dX11_findHands_49 : decode cX11_findHands 49 = .ok (.iconst 0, 1) := by decide +kernel
theorem dX11_findHands_50 : decode cX11_findHands 50 = .ok (.istore 5, 2) := by decide +kernel
theorem dX11_findHands_52 : decode cX11_findHands 52 = .ok (.iload 5, 2) := by decide +kernel
theorem dX11_findHands_54 : decode cX11_findHands 54 = .ok (.iload 4, 2) := by decide +kernel
theorem dX11_findHands_56 : decode cX11_findHands 56 = .ok (.if_icmp .gt 175, 3) := by decide +kernel
theorem dX11_findHands_59 : decode cX11_findHands 59 = .ok (.iload 4, 2) := by decide +kernel
theorem dX11_findHands_61 : decode cX11_findHands 61 = .ok (.iload 5, 2) := by decide +kernel
theorem dX11_findHands_63 : decode cX11_findHands 63 = .ok (.iadd, 1) := by decide +kernel
theorem dX11_findHands_64 : decode cX11_findHands 64 = .ok (.iload_n 3, 1) := by decide +kernel
theorem dX11_findHands_65 : decode cX11_findHands 65 = .ok (.if_icmp .gt 166, 3) := by decide +kernel
theorem dX11_findHands_68 : decode cX11_findHands 68 = .ok (.iconst 0, 1) := by decide +kernel
theorem dX11_findHands_69 : decode cX11_findHands 69 = .ok (.istore 6, 2) := by decide +kernel
theorem dX11_findHands_71 : decode cX11_findHands 71 = .ok (.iload 6, 2) := by decide +kernel
theorem dX11_findHands_73 : decode cX11_findHands 73 = .ok (.iload 5, 2) := by decide +kernel
theorem dX11_findHands_75 : decode cX11_findHands 75 = .ok (.if_icmp .gt 150, 3) := by decide +kernel
theorem dX11_findHands_78 : decode cX11_findHands 78 = .ok (.iload 4, 2) := by decide +kernel
theorem dX11_findHands_80 : decode cX11_findHands 80 = .ok (.iload 5, 2) := by decide +kernel
theorem dX11_findHands_82 : decode cX11_findHands 82 = .ok (.iadd, 1) := by decide +kernel
theorem dX11_findHands_83 : decode cX11_findHands 83 = .ok (.iload 6, 2) := by decide +kernel
theorem dX11_findHands_85 : decode cX11_findHands 85 = .ok (.iadd, 1) := by decide +kernel
theorem dX11_findHands_86 : decode cX11_findHands 86 = .ok (.iload_n 3, 1) := by decide +kernel
theorem dX11_findHands_87 : decode cX11_findHands 87 = .ok (.if_icmp .gt 138, 3) := by decide +kernel
theorem dX11_findHands_90 : decode cX11_findHands 90 = .ok (.iload_n 3, 1) := by decide +kernel
theorem dX11_findHands_91 : decode cX11_findHands 91 = .ok (.iload 4, 2) := by decide +kernel
theorem dX11_findHands_93 : decode cX11_findHands 93 = .ok (.isub, 1) := by decide +kernel
theorem dX11_findHands_94 : decode cX11_findHands 94 = .ok (.iload 5, 2) := by decide +kernel
theorem dX11_findHands_96 : decode cX11_findHands 96 = .ok (.isub, 1) := by decide +kernel
theorem dX11_findHands_97 : decode cX11_findHands 97 = .ok (.iload 6, 2) := by decide +kernel
theorem dX11_findHands_99 : decode cX11_findHands 99 = .ok (.isub, 1) := by decide +kernel
theorem dX11_findHands_100 : decode cX11_findHands 100 = .ok (.istore 7, 2) := by decide +kernel
theorem dX11_findHands_102 : decode cX11_findHands 102 = .ok (.iload 7, 2) := by decide +kernel
theorem dX11_findHands_104 : decode cX11_findHands 104 = .ok (.iload 4, 2) := by decide +kernel
theorem dX11_findHands_106 : decode cX11_findHands 106 = .ok (.if_icmp .lt 113, 3) := by decide +kernel
theorem dX11_findHands_109 : decode cX11_findHands 109 = .ok (.aload_n 0, 1) := by decide +kernel
theorem dX11_findHands_110 : decode cX11_findHands 110 = .ok (.getfield 52, 3) := by decide +kernel
theorem dX11_findHands_113 : decode cX11_findHands 113 = .ok (.iconst 0, 1) := by decide +kernel
theorem dX11_findHands_114 : decode cX11_findHands 114 = .ok (.iload 7, 2) := by decide +kernel
theorem dX11_findHands_116 : decode cX11_findHands 116 = .ok (.iastore, 1) := by decide +kernel
theorem dX11_findHands_117 : decode cX11_findHands 117 = .ok (.aload_n 0, 1) := by decide +kernel
theorem dX11_findHands_118 : decode cX11_findHands 118 = .ok (.getfield 52, 3) := by decide +kernel
theorem dX11_findHands_121 : decode cX11_findHands 121 = .ok (.iconst 1, 1) := by decide +kernel
theorem dX11_findHands_122 : decode cX11_findHands 122 = .ok (.iload 4, 2) := by decide +kernel
theorem dX11_findHands_124 : decode cX11_findHands 124 = .ok (.iastore, 1) := by decide +kernel
theorem dX11_findHands_125 : decode cX11_findHands 125 = .ok (.aload_n 0, 1) := by decide +kernel
theorem dX11_findHands_126 : decode cX11_findHands 126 = .ok (.getfield 52, 3) := by decide +kernel
theorem dX11_findHands_129 : decode cX11_findHands 129 = .ok (.iconst 2, 1) := by decide +kernel
theorem dX11_findHands_130 : decode cX11_findHands 130 = .ok (.iload 5, 2) := by decide +kernel
theorem dX11_findHands_132 : decode cX11_findHands 132 = .ok (.iastore, 1) := by decide +kernel
theorem dX11_findHands_133 : decode cX11_findHands 133 = .ok (.aload_n 0, 1) := by decide +kernel
theorem dX11_findHands_134 : decode cX11_findHands 134 = .ok (.getfield 52, 3) := by decide +kernel
theorem dX11_findHands_137 : decode cX11_findHands 137 = .ok (.iconst 3, 1) := by decide +kernel
theorem dX11_findHands_138 : decode cX11_findHands 138 = .ok (.iload 6, 2) := by decide +kernel
theorem dX11_findHands_140 : decode cX11_findHands 140 = .ok (.iastore, 1) := by decide +kernel
theorem dX11_findHands_141 : decode cX11_findHands 141 = .ok (.iconst 1, 1) := by decide +kernel
theorem dX11_findHands_142 : decode cX11_findHands 142 = .ok (.iload 4, 2) := by decide +kernel
theorem dX11_findHands_144 : decode cX11_findHands 144 = .ok (.ifCond .le 7, 3) := by decide +kernel
theorem dX11_findHands_147 : decode cX11_findHands 147 = .ok (.iconst 1, 1) := by decide +kernel
theorem dX11_findHands_148 : decode cX11_findHands 148 = .ok (.goto 4, 3) := by decide +kernel
theorem dX11_findHands_151 : decode cX11_findHands 151 = .ok (.iconst 0, 1) := by decide +kernel
theorem dX11_findHands_152 : decode cX11_findHands 152 = .ok (.iadd, 1) := by decide +kernel
theorem dX11_findHands_153 : decode cX11_findHands 153 = .ok (.iload 5, 2) := by decide +kernel
theorem dX11_findHands_155 : decode cX11_findHands 155 = .ok (.ifCond .le 7, 3) := by decide +kernel
theorem dX11_findHands_158 : decode cX11_findHands 158 = .ok (.iconst 1, 1) := by decide +kernel
theorem dX11_findHands_159 : decode cX11_findHands 159 = .ok (.goto 4, 3) := by decide +kernel
theorem dX11_findHands_162 : decode cX11_findHands 162 = .ok (.iconst 0, 1) := by decide +kernel
theorem dX11_findHands_163 : decode cX11_findHands 163 = .ok (.iadd, 1) := by decide +kernel
theorem dX11_findHands_164 : decode cX11_findHands 164 = .ok (.iload 6, 2) := by decide +kernel
theorem dX11_findHands_166 : decode cX11_findHands 166 = .ok (.ifCond .le 7, 3) := by decide +kernel
theorem dX11_findHands_169 : decode cX11_findHands 169 = .ok (.iconst 1, 1) := by decide +kernel
theorem dX11_findHands_170 : decode cX11_findHands 170 = .ok (.goto 4, 3) := by decide +kernel
theorem dX11_findHands_173 : decode cX11_findHands 173 = .ok (.iconst 0, 1) := by decide +kernel
theorem dX11_findHands_174 : decode cX11_findHands 174 = .ok (.iadd, 1) := by decide +kernel
theorem dX11_findHands_175 : decode cX11_findHands 175 = .ok (.istore 8, 2) := by decide +kernel
theorem dX11_findHands_177 : decode cX11_findHands 177 = .ok (.aload_n 0, 1) := by decide +kernel
theorem dX11_findHands_178 : decode cX11_findHands 178 = .ok (.invokevirtual 211, 3) := by decide +kernel
theorem dX11_findHands_181 : decode cX11_findHands 181 = .ok (.aload_n 0, 1) := by decide +kernel
theorem dX11_findHands_182 : decode cX11_findHands 182 = .ok (.iload_n 1, 1) := by decide +kernel
theorem dX11_findHands_183 : decode cX11_findHands 183 = .ok (.invokevirtual 214, 3) := by decide +kernel
theorem dX11_findHands_186 : decode cX11_findHands 186 = .ok (.istore 9, 2) := by decide +kernel
theorem dX11_findHands_188 : decode cX11_findHands 188 = .ok (.aload_n 0, 1) := by decide +kernel
theorem dX11_findHands_189 : decode cX11_findHands 189 = .ok (.getfield 70, 3) := by decide +kernel
theorem dX11_findHands_192 : decode cX11_findHands 192 = .ok (.iload 8, 2) := by decide +kernel
theorem dX11_findHands_194 : decode cX11_findHands 194 = .ok (.iload 9, 2) := by decide +kernel
theorem dX11_findHands_196 : decode cX11_findHands 196 = .ok (.aload_n 0, 1) := by decide +kernel
theorem dX11_findHands_197 : decode cX11_findHands 197 = .ok (.getfield 70, 3) := by decide +kernel
theorem dX11_findHands_200 : decode cX11_findHands 200 = .ok (.iload 8, 2) := by decide +kernel
theorem dX11_findHands_202 : decode cX11_findHands 202 = .ok (.iaload, 1) := by decide +kernel
theorem dX11_findHands_203 : decode cX11_findHands 203 = .ok (.if_icmp .le 8, 3) := by decide +kernel
theorem dX11_findHands_206 : decode cX11_findHands 206 = .ok (.iload 9, 2) := by decide +kernel
theorem dX11_findHands_208 : decode cX11_findHands 208 = .ok (.goto 10, 3) := by decide +kernel
theorem dX11_findHands_211 : decode cX11_findHands 211 = .ok (.aload_n 0, 1) := by decide +kernel
theorem dX11_findHands_212 : decode cX11_findHands 212 = .ok (.getfield 70, 3) := by decide +kernel
theorem dX11_findHands_215 : decode cX11_findHands 215 = .ok (.iload 8, 2) := by decide +kernel
theorem dX11_findHands_217 : decode cX11_findHands 217 = .ok (.iaload, 1) := by decide +kernel
theorem dX11_findHands_218 : decode cX11_findHands 218 = .ok (.iastore, 1) := by decide +kernel
theorem dX11_findHands_219 : decode cX11_findHands 219 = .ok (.iinc 6 1, 3) := by decide +kernel
theorem dX11_findHands_222 : decode cX11_findHands 222 = .ok (.goto (-151), 3) := by decide +kernel
theorem dX11_findHands_225 : decode cX11_findHands 225 = .ok (.iinc 5 1, 3) := by decide +kernel
theorem dX11_findHands_228 : decode cX11_findHands 228 = .ok (.goto (-176), 3) := by decide +kernel
theorem dX11_findHands_231 : decode cX11_findHands 231 = .ok (.iinc 4 1, 3) := by decide +kernel
theorem dX11_findHands_234 : decode cX11_findHands 234 = .ok (.goto (-191), 3) := by decide +kernel
theorem dX11_findHands_237 : decode cX11_findHands 237 = .ok (.aload_n 0, 1) := by decide +kernel
theorem dX11_findHands_238 : decode cX11_findHands 238 = .ok (.iconst (-1), 1) := by decide +kernel
theorem dX11_findHands_239 : decode cX11_findHands 239 = .ok (.putfield 45, 3) := by decide +kernel
theorem dX11_findHands_242 : decode cX11_findHands 242 = .ok (.aload_n 0, 1) := by decide +kernel
theorem dX11_findHands_243 : decode cX11_findHands 243 = .ok (.iconst (-1), 1) := by decide +kernel
theorem dX11_findHands_244 : decode cX11_findHands 244 = .ok (.putfield 49, 3) := by decide +kernel
theorem dX11_findHands_247 : decode cX11_findHands 247 = .ok (.return_, 1) := by decide +kernel
theorem dX11_gain_0 : decode cX11_gain 0 = .ok (.aload_n 0, 1) := by decide +kernel
theorem dX11_gain_1 : decode cX11_gain 1 = .ok (.iload_n 1, 1) := by decide +kernel
theorem dX11_gain_2 : decode cX11_gain 2 = .ok (.invokevirtual 91, 3) := by decide +kernel
theorem dX11_gain_5 : decode cX11_gain 5 = .ok (.ifCond .eq 11, 3) := by decide +kernel
theorem dX11_gain_8 : decode cX11_gain 8 = .ok (.aload_n 0, 1) := by decide +kernel
theorem dX11_gain_9 : decode cX11_gain 9 = .ok (.iload_n 2, 1) := by decide +kernel
theorem dX11_gain_10 : decode cX11_gain 10 = .ok (.invokevirtual 95, 3) := by decide +kernel
theorem dX11_gain_13 : decode cX11_gain 13 = .ok (.ifCond .ne 6, 3) := by decide +kernel
theorem dX11_gain_16 : decode cX11_gain 16 = .ok (.bipush (-2), 2) := by decide +kernel
theorem dX11_gain_18 : decode cX11_gain 18 = .ok (.ireturn, 1) := by decide +kernel
theorem dX11_gain_19 : decode cX11_gain 19 = .ok (.aload_n 0, 1) := by decide +kernel
theorem dX11_gain_20 : decode cX11_gain 20 = .ok (.iload_n 1, 1) := by decide +kernel
theorem dX11_gain_21 : decode cX11_gain 21 = .ok (.iload_n 2, 1) := by decide +kernel
theorem dX11_gain_22 : decode cX11_gain 22 = .ok (.invokevirtual 242, 3) := by decide +kernel
theorem dX11_gain_25 : decode cX11_gain 25 = .ok (.aload_n 0, 1) := by decide +kernel
theorem dX11_gain_26 : decode cX11_gain 26 = .ok (.getfield 70, 3) := by decide +kernel
theorem dX11_gain_29 : decode cX11_gain 29 = .ok (.iconst 1, 1) := by decide +kernel
theorem dX11_gain_30 : decode cX11_gain 30 = .ok (.iaload, 1) := by decide +kernel
theorem dX11_gain_31 : decode cX11_gain 31 = .ok (.istore_n 3, 1) := by decide +kernel
theorem dX11_gain_32 : decode cX11_gain 32 = .ok (.iconst 2, 1) := by decide +kernel
theorem dX11_gain_33 : decode cX11_gain 33 = .ok (.istore 4, 2) := by decide +kernel
theorem dX11_gain_35 : decode cX11_gain 35 = .ok (.iload 4, 2) := by decide +kernel
theorem dX11_gain_37 : decode cX11_gain 37 = .ok (.iconst 5, 1) := by decide +kernel
theorem dX11_gain_38 : decode cX11_gain 38 = .ok (.if_icmp .ge 32, 3) := by decide +kernel
theorem dX11_gain_41 : decode cX11_gain 41 = .ok (.aload_n 0, 1) := by decide +kernel
theorem dX11_gain_42 : decode cX11_gain 42 = .ok (.getfield 70, 3) := by decide +kernel
theorem dX11_gain_45 : decode cX11_gain 45 = .ok (.iload 4, 2) := by decide +kernel
theorem dX11_gain_47 : decode cX11_gain 47 = .ok (.iaload, 1) := by decide +kernel
theorem dX11_gain_48 : decode cX11_gain 48 = .ok (.iload_n 3, 1) := by decide +kernel
theorem dX11_gain_49 : decode cX11_gain 49 = .ok (.if_icmp .le 13, 3) := by decide +kernel
theorem dX11_gain_52 : decode cX11_gain 52 = .ok (.aload_n 0, 1) := by decide +kernel
theorem dX11_gain_53 : decode cX11_gain 53 = .ok (.getfield 70, 3) := by decide +kernel
theorem dX11_gain_56 : decode cX11_gain 56 = .ok (.iload 4, 2) := by decide +kernel
theorem dX11_gain_58 : decode cX11_gain 58 = .ok (.iaload, 1) := by decide +kernel
theorem dX11_gain_59 : decode cX11_gain 59 = .ok (.goto 4, 3) := by decide +kernel
theorem dX11_gain_62 : decode cX11_gain 62 = .ok (.iload_n 3, 1) := by decide +kernel
theorem dX11_gain_63 : decode cX11_gain 63 = .ok (.istore_n 3, 1) := by decide +kernel
theorem dX11_gain_64 : decode cX11_gain 64 = .ok (.iinc 4 1, 3) := by decide +kernel
theorem dX11_gain_67 : decode cX11_gain 67 = .ok (.goto (-32), 3) := by decide +kernel
theorem dX11_gain_70 : decode cX11_gain 70 = .ok (.iload_n 3, 1) := by decide +kernel
theorem dX11_gain_71 : decode cX11_gain 71 = .ok (.aload_n 0, 1) := by decide +kernel
theorem dX11_gain_72 : decode cX11_gain 72 = .ok (.getfield 70, 3) := by decide +kernel
theorem dX11_gain_75 : decode cX11_gain 75 = .ok (.iconst 1, 1) := by decide +kernel
theorem dX11_gain_76 : decode cX11_gain 76 = .ok (.iaload, 1) := by decide +kernel
theorem dX11_gain_77 : decode cX11_gain 77 = .ok (.isub, 1) := by decide +kernel
theorem dX11_gain_78 : decode cX11_gain 78 = .ok (.ireturn, 1) := by decide +kernel
theorem dX11_hand_0 : decode cX11_hand 0 = .ok (.aload_n 0, 1) := by decide +kernel
theorem dX11_hand_1 : decode cX11_hand 1 = .ok (.iload_n 1, 1) := by decide +kernel
theorem dX11_hand_2 : decode cX11_hand 2 = .ok (.invokevirtual 91, 3) := by decide +kernel
theorem dX11_hand_5 : decode cX11_hand 5 = .ok (.ifCond .eq 11, 3) := by decide +kernel
theorem dX11_hand_8 : decode cX11_hand 8 = .ok (.aload_n 0, 1) := by decide +kernel
theorem dX11_hand_9 : decode cX11_hand 9 = .ok (.iload_n 2, 1) := by decide +kernel
theorem dX11_hand_10 : decode cX11_hand 10 = .ok (.invokevirtual 95, 3) := by decide +kernel
theorem dX11_hand_13 : decode cX11_hand 13 = .ok (.ifCond .ne 6, 3) := by decide +kernel
theorem dX11_hand_16 : decode cX11_hand 16 = .ok (.bipush (-2), 2) := by decide +kernel
theorem dX11_hand_18 : decode cX11_hand 18 = .ok (.ireturn, 1) := by decide +kernel
theorem dX11_hand_19 : decode cX11_hand 19 = .ok (.aload_n 0, 1) := by decide +kernel
theorem dX11_hand_20 : decode cX11_hand 20 = .ok (.iload_n 1, 1) := by decide +kernel
theorem dX11_hand_21 : decode cX11_hand 21 = .ok (.iload_n 2, 1) := by decide +kernel
theorem dX11_hand_22 : decode cX11_hand 22 = .ok (.invokevirtual 242, 3) := by decide +kernel
theorem dX11_hand_25 : decode cX11_hand 25 = .ok (.iconst 0, 1) := by decide +kernel
theorem dX11_hand_26 : decode cX11_hand 26 = .ok (.istore_n 3, 1) := by decide +kernel
theorem dX11_hand_27 : decode cX11_hand 27 = .ok (.iload_n 3, 1) := by decide +kernel
theorem dX11_hand_28 : decode cX11_hand 28 = .ok (.sipush 999, 3) := by decide +kernel
theorem dX11_hand_31 : decode cX11_hand 31 = .ok (.if_icmp .gt 69, 3) := by decide +kernel
theorem dX11_hand_34 : decode cX11_hand 34 = .ok (.iconst 1, 1) := by decide +kernel
theorem dX11_hand_35 : decode cX11_hand 35 = .ok (.istore 4, 2) := by decide +kernel
theorem dX11_hand_37 : decode cX11_hand 37 = .ok (.iconst 2, 1) := by decide +kernel
theorem dX11_hand_38 : decode cX11_hand 38 = .ok (.istore 5, 2) := by decide +kernel
theorem dX11_hand_40 : decode cX11_hand 40 = .ok (.iload 5, 2) := by decide +kernel
theorem dX11_hand_42 : decode cX11_hand 42 = .ok (.iconst 5, 1) := by decide +kernel
theorem dX11_hand_43 : decode cX11_hand 43 = .ok (.if_icmp .ge 44, 3) := by decide +kernel
theorem dX11_hand_46 : decode cX11_hand 46 = .ok (.iload 4, 2) := by decide +kernel
theorem dX11_hand_48 : decode cX11_hand 48 = .ok (.ifCond .eq 30, 3) := by decide +kernel
theorem dX11_hand_51 : decode cX11_hand 51 = .ok (.aload_n 0, 1) := by decide +kernel
theorem dX11_hand_52 : decode cX11_hand 52 = .ok (.getfield 70, 3) := by decide +kernel
theorem dX11_hand_55 : decode cX11_hand 55 = .ok (.iload 5, 2) := by decide +kernel
theorem dX11_hand_57 : decode cX11_hand 57 = .ok (.iaload, 1) := by decide +kernel
theorem dX11_hand_58 : decode cX11_hand 58 = .ok (.iload_n 3, 1) := by decide +kernel
theorem dX11_hand_59 : decode cX11_hand 59 = .ok (.iload 5, 2) := by decide +kernel
theorem dX11_hand_61 : decode cX11_hand 61 = .ok (.iconst 1, 1) := by decide +kernel
theorem dX11_hand_62 : decode cX11_hand 62 = .ok (.isub, 1) := by decide +kernel
theorem dX11_hand_63 : decode cX11_hand 63 = .ok (.imul, 1) := by decide +kernel
theorem dX11_hand_64 : decode cX11_hand 64 = .ok (.isub, 1) := by decide +kernel
theorem dX11_hand_65 : decode cX11_hand 65 = .ok (.aload_n 0, 1) := by decide +kernel
theorem dX11_hand_66 : decode cX11_hand 66 = .ok (.getfield 70, 3) := by decide +kernel
theorem dX11_hand_69 : decode cX11_hand 69 = .ok (.iconst 1, 1) := by decide +kernel
theorem dX11_hand_70 : decode cX11_hand 70 = .ok (.iaload, 1) := by decide +kernel
theorem dX11_hand_71 : decode cX11_hand 71 = .ok (.if_icmp .gt 7, 3) := by decide +kernel
theorem dX11_hand_74 : decode cX11_hand 74 = .ok (.iconst 1, 1) := by decide +kernel
theorem dX11_hand_75 : decode cX11_hand 75 = .ok (.goto 4, 3) := by decide +kernel
theorem dX11_hand_78 : decode cX11_hand 78 = .ok (.iconst 0, 1) := by decide +kernel
theorem dX11_hand_79 : decode cX11_hand 79 = .ok (.istore 4, 2) := by decide +kernel
theorem dX11_hand_81 : decode cX11_hand 81 = .ok (.iinc 5 1, 3) := by decide +kernel
theorem dX11_hand_84 : decode cX11_hand 84 = .ok (.goto (-44), 3) := by decide +kernel
theorem dX11_hand_87 : decode cX11_hand 87 = .ok (.iload 4, 2) := by decide +kernel
theorem dX11_hand_89 : decode cX11_hand 89 = .ok (.ifCond .eq 5, 3) := by decide +kernel
theorem dX11_hand_92 : decode cX11_hand 92 = .ok (.iload_n 3, 1) := by decide +kernel
theorem dX11_hand_93 : decode cX11_hand 93 = .ok (.ireturn, 1) := by decide +kernel
theorem dX11_hand_94 : decode cX11_hand 94 = .ok (.iinc 3 1, 3) := by decide +kernel
theorem dX11_hand_97 : decode cX11_hand 97 = .ok (.goto (-70), 3) := by decide +kernel
theorem dX11_hand_100 : decode cX11_hand 100 = .ok (.iconst (-1), 1) := by decide +kernel
theorem dX11_hand_101 : decode cX11_hand 101 = .ok (.ireturn, 1) := by decide +kernel
theorem dX11_coinsGiven_0 : decode cX11_coinsGiven 0 = .ok (.iconst 0, 1) := by decide +kernel
theorem dX11_coinsGiven_1 : decode cX11_coinsGiven 1 = .ok (.istore_n 1, 1) := by decide +kernel
theorem dX11_coinsGiven_2 : decode cX11_coinsGiven 2 = .ok (.iconst 0, 1) := by decide +kernel
theorem dX11_coinsGiven_3 : decode cX11_coinsGiven 3 = .ok (.istore_n 2, 1) := by decide +kernel
theorem dX11_coinsGiven_4 : decode cX11_coinsGiven 4 = .ok (.iload_n 2, 1) := by decide +kernel
theorem dX11_coinsGiven_5 : decode cX11_coinsGiven 5 = .ok (.bipush 15, 2) := by decide +kernel
theorem dX11_coinsGiven_7 : decode cX11_coinsGiven 7 = .ok (.if_icmp .ge 21, 3) := by decide +kernel
theorem dX11_coinsGiven_10 : decode cX11_coinsGiven 10 = .ok (.iload_n 1, 1) := by decide +kernel
theorem dX11_coinsGiven_11 : decode cX11_coinsGiven 11 = .ok (.aload_n 0, 1) := by decide +kernel
theorem dX11_coinsGiven_12 : decode cX11_coinsGiven 12 = .ok (.getfield 7, 3) := by decide +kernel
theorem dX11_coinsGiven_15 : decode cX11_coinsGiven 15 = .ok (.bipush 35, 2) := by decide +kernel
theorem dX11_coinsGiven_17 : decode cX11_coinsGiven 17 = .ok (.iload_n 2, 1) := by decide +kernel
theorem dX11_coinsGiven_18 : decode cX11_coinsGiven 18 = .ok (.iadd, 1) := by decide +kernel
theorem dX11_coinsGiven_19 : decode cX11_coinsGiven 19 = .ok (.iaload, 1) := by decide +kernel
theorem dX11_coinsGiven_20 : decode cX11_coinsGiven 20 = .ok (.iadd, 1) := by decide +kernel
theorem dX11_coinsGiven_21 : decode cX11_coinsGiven 21 = .ok (.istore_n 1, 1) := by decide +kernel
theorem dX11_coinsGiven_22 : decode cX11_coinsGiven 22 = .ok (.iinc 2 1, 3) := by decide +kernel
theorem dX11_coinsGiven_25 : decode cX11_coinsGiven 25 = .ok (.goto (-21), 3) := by decide +kernel
theorem dX11_coinsGiven_28 : decode cX11_coinsGiven 28 = .ok (.iload_n 1, 1) := by decide +kernel
theorem dX11_coinsGiven_29 : decode cX11_coinsGiven 29 = .ok (.ireturn, 1) := by decide +kernel
theorem dX11_anyway_0 : decode cX11_anyway 0 = .ok (.iload_n 1, 1) := by decide +kernel
theorem dX11_anyway_1 : decode cX11_anyway 1 = .ok (.i2l, 1) := by decide +kernel
theorem dX11_anyway_2 : decode cX11_anyway 2 = .ok (.lconst 0, 1) := by decide +kernel
theorem dX11_anyway_3 : decode cX11_anyway 3 = .ok (.lconst 1, 1) := by decide +kernel
theorem dX11_anyway_4 : decode cX11_anyway 4 = .ok (.invokestatic 80, 3) := by decide +kernel
theorem dX11_anyway_7 : decode cX11_anyway 7 = .ok (.ifCond .ne 7, 3) := by decide +kernel
theorem dX11_anyway_10 : decode cX11_anyway 10 = .ok (.sipush (-1000), 3) := by decide +kernel
theorem dX11_anyway_13 : decode cX11_anyway 13 = .ok (.ireturn, 1) := by decide +kernel
theorem dX11_anyway_14 : decode cX11_anyway 14 = .ok (.aload_n 0, 1) := by decide +kernel
theorem dX11_anyway_15 : decode cX11_anyway 15 = .ok (.invokevirtual 245, 3) := by decide +kernel
theorem dX11_anyway_18 : decode cX11_anyway 18 = .ok (.istore_n 2, 1) := by decide +kernel
theorem dX11_anyway_19 : decode cX11_anyway 19 = .ok (.iconst 0, 1) := by decide +kernel
theorem dX11_anyway_20 : decode cX11_anyway 20 = .ok (.istore_n 3, 1) := by decide +kernel
theorem dX11_anyway_21 : decode cX11_anyway 21 = .ok (.iload_n 3, 1) := by decide +kernel
theorem dX11_anyway_22 : decode cX11_anyway 22 = .ok (.bipush 15, 2) := by decide +kernel
theorem dX11_anyway_24 : decode cX11_anyway 24 = .ok (.if_icmp .ge 34, 3) := by decide +kernel
theorem dX11_anyway_27 : decode cX11_anyway 27 = .ok (.aload_n 0, 1) := by decide +kernel
theorem dX11_anyway_28 : decode cX11_anyway 28 = .ok (.getfield 73, 3) := by decide +kernel
theorem dX11_anyway_31 : decode cX11_anyway 31 = .ok (.iload_n 3, 1) := by decide +kernel
theorem dX11_anyway_32 : decode cX11_anyway 32 = .ok (.aload_n 0, 1) := by decide +kernel
theorem dX11_anyway_33 : decode cX11_anyway 33 = .ok (.getfield 7, 3) := by decide +kernel
theorem dX11_anyway_36 : decode cX11_anyway 36 = .ok (.bipush 35, 2) := by decide +kernel
theorem dX11_anyway_38 : decode cX11_anyway 38 = .ok (.iload_n 3, 1) := by decide +kernel
theorem dX11_anyway_39 : decode cX11_anyway 39 = .ok (.iadd, 1) := by decide +kernel
theorem dX11_anyway_40 : decode cX11_anyway 40 = .ok (.iaload, 1) := by decide +kernel
theorem dX11_anyway_41 : decode cX11_anyway 41 = .ok (.iastore, 1) := by decide +kernel
theorem dX11_anyway_42 : decode cX11_anyway 42 = .ok (.aload_n 0, 1) := by decide +kernel
theorem dX11_anyway_43 : decode cX11_anyway 43 = .ok (.getfield 7, 3) := by decide +kernel
theorem dX11_anyway_46 : decode cX11_anyway 46 = .ok (.bipush 35, 2) := by decide +kernel
theorem dX11_anyway_48 : decode cX11_anyway 48 = .ok (.iload_n 3, 1) := by decide +kernel
theorem dX11_anyway_49 : decode cX11_anyway 49 = .ok (.iadd, 1) := by decide +kernel
theorem dX11_anyway_50 : decode cX11_anyway 50 = .ok (.iconst 0, 1) := by decide +kernel
theorem dX11_anyway_51 : decode cX11_anyway 51 = .ok (.iastore, 1) := by decide +kernel
theorem dX11_anyway_52 : decode cX11_anyway 52 = .ok (.iinc 3 1, 3) := by decide +kernel
theorem dX11_anyway_55 : decode cX11_anyway 55 = .ok (.goto (-34), 3) := by decide +kernel
theorem dX11_anyway_58 : decode cX11_anyway 58 = .ok (.aload_n 0, 1) := by decide +kernel
theorem dX11_anyway_59 : decode cX11_anyway 59 = .ok (.iconst 1, 1) := by decide +kernel
theorem dX11_anyway_60 : decode cX11_anyway 60 = .ok (.putfield 193, 3) := by decide +kernel
theorem dX11_anyway_63 : decode cX11_anyway 63 = .ok (.aload_n 0, 1) := by decide +kernel
theorem dX11_anyway_64 : decode cX11_anyway 64 = .ok (.invokevirtual 76, 3) := by decide +kernel
theorem dX11_anyway_67 : decode cX11_anyway 67 = .ok (.ifCond .ne 7, 3) := by decide +kernel
theorem dX11_anyway_70 : decode cX11_anyway 70 = .ok (.iconst 0, 1) := by decide +kernel
theorem dX11_anyway_71 : decode cX11_anyway 71 = .ok (.goto 7, 3) := by decide +kernel
theorem dX11_anyway_74 : decode cX11_anyway 74 = .ok (.aload_n 0, 1) := by decide +kernel
theorem dX11_anyway_75 : decode cX11_anyway 75 = .ok (.invokevirtual 233, 3) := by decide +kernel
theorem dX11_anyway_78 : decode cX11_anyway 78 = .ok (.istore_n 3, 1) := by decide +kernel
theorem dX11_anyway_79 : decode cX11_anyway 79 = .ok (.aload_n 0, 1) := by decide +kernel
theorem dX11_anyway_80 : decode cX11_anyway 80 = .ok (.iconst 0, 1) := by decide +kernel
theorem dX11_anyway_81 : decode cX11_anyway 81 = .ok (.putfield 193, 3) := by decide +kernel
theorem dX11_anyway_84 : decode cX11_anyway 84 = .ok (.aload_n 0, 1) := by decide +kernel
theorem dX11_anyway_85 : decode cX11_anyway 85 = .ok (.invokevirtual 245, 3) := by decide +kernel
theorem dX11_anyway_88 : decode cX11_anyway 88 = .ok (.istore 4, 2) := by decide +kernel
theorem dX11_anyway_90 : decode cX11_anyway 90 = .ok (.iconst 0, 1) := by decide +kernel
theorem dX11_anyway_91 : decode cX11_anyway 91 = .ok (.istore 5, 2) := by decide +kernel
theorem dX11_anyway_93 : decode cX11_anyway 93 = .ok (.iload 5, 2) := by decide +kernel
theorem dX11_anyway_95 : decode cX11_anyway 95 = .ok (.bipush 15, 2) := by decide +kernel
theorem dX11_anyway_97 : decode cX11_anyway 97 = .ok (.if_icmp .ge 26, 3) := by decide +kernel
