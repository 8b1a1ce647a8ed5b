theorem dX7_init_0 : decode cX7_init 0 = .ok (.aload_n 0, 1) := by decide +kernel
theorem dX7_init_1 : decode cX7_init 1 = .ok (.invokespecial 3, 3) := by decide +kernel
theorem dX7_init_4 : decode cX7_init 4 = .ok (.aload_n 0, 1) := by decide +kernel
theorem dX7_init_5 : decode cX7_init 5 = .ok (.bipush 40, 2) := by decide +kernel
theorem dX7_init_7 : decode cX7_init 7 = .ok (.newarray .int, 2) := by decide +kernel
theorem dX7_init_9 : decode cX7_init 9 = .ok (.putfield 9, 3) := by decide +kernel
theorem dX7_init_12 : decode cX7_init 12 = .ok (.aload_n 0, 1) := by decide +kernel
theorem dX7_init_13 : decode cX7_init 13 = .ok (.bipush 40, 2) := by decide +kernel
theorem dX7_init_15 : decode cX7_init 15 = .ok (.newarray .int, 2) := by decide +kernel
theorem dX7_init_17 : decode cX7_init 17 = .ok (.putfield 15, 3) := by decide +kernel
theorem dX7_init_20 : decode cX7_init 20 = .ok (.aload_n 0, 1) := by decide +kernel
theorem dX7_init_21 : decode cX7_init 21 = .ok (.iconst 0, 1) := by decide +kernel
theorem dX7_init_22 : decode cX7_init 22 = .ok (.putfield 18, 3) := by decide +kernel
theorem dX7_init_25 : decode cX7_init 25 = .ok (.aload_n 0, 1) := by decide +kernel
theorem dX7_init_26 : decode cX7_init 26 = .ok (.iconst 0, 1) := by decide +kernel
theorem dX7_init_27 : decode cX7_init 27 = .ok (.putfield 22, 3) := by decide +kernel
theorem dX7_init_30 : decode cX7_init 30 = .ok (.aload_n 0, 1) := by decide +kernel
theorem dX7_init_31 : decode cX7_init 31 = .ok (.iconst 1, 1) := by decide +kernel
theorem dX7_init_32 : decode cX7_init 32 = .ok (.putfield 25, 3) := by decide +kernel
theorem dX7_init_35 : decode cX7_init 35 = .ok (.return_, 1) := by decide +kernel
theorem dX7_take_0 : decode cX7_take 0 = .ok (.aload_n 1, 1) := by decide +kernel
theorem dX7_take_1 : decode cX7_take 1 = .ok (.getfield 9, 3) := by decide +kernel
theorem dX7_take_4 : decode cX7_take 4 = .ok (.iconst 0, 1) := by decide +kernel
theorem dX7_take_5 : decode cX7_take 5 = .ok (.aload_n 0, 1) := by decide +kernel
theorem dX7_take_6 : decode cX7_take 6 = .ok (.getfield 9, 3) := by decide +kernel
theorem dX7_take_9 : decode cX7_take 9 = .ok (.iconst 0, 1) := by decide +kernel
theorem dX7_take_10 : decode cX7_take 10 = .ok (.bipush 40, 2) := by decide +kernel
theorem dX7_take_12 : decode cX7_take 12 = .ok (.invokestatic 28, 3) := by decide +kernel
theorem dX7_take_15 : decode cX7_take 15 = .ok (.aload_n 1, 1) := by decide +kernel
theorem dX7_take_16 : decode cX7_take 16 = .ok (.getfield 15, 3) := by decide +kernel
theorem dX7_take_19 : decode cX7_take 19 = .ok (.iconst 0, 1) := by decide +kernel
theorem dX7_take_20 : decode cX7_take 20 = .ok (.aload_n 0, 1) := by decide +kernel
theorem dX7_take_21 : decode cX7_take 21 = .ok (.getfield 15, 3) := by decide +kernel
theorem dX7_take_24 : decode cX7_take 24 = .ok (.iconst 0, 1) := by decide +kernel
theorem dX7_take_25 : decode cX7_take 25 = .ok (.bipush 40, 2) := by decide +kernel
theorem dX7_take_27 : decode cX7_take 27 = .ok (.invokestatic 28, 3) := by decide +kernel
theorem dX7_take_30 : decode cX7_take 30 = .ok (.aload_n 0, 1) := by decide +kernel
theorem dX7_take_31 : decode cX7_take 31 = .ok (.aload_n 1, 1) := by decide +kernel
theorem dX7_take_32 : decode cX7_take 32 = .ok (.getfield 18, 3) := by decide +kernel
theorem dX7_take_35 : decode cX7_take 35 = .ok (.putfield 18, 3) := by decide +kernel
theorem dX7_take_38 : decode cX7_take 38 = .ok (.aload_n 0, 1) := by decide +kernel
theorem dX7_take_39 : decode cX7_take 39 = .ok (.aload_n 1, 1) := by decide +kernel
theorem dX7_take_40 : decode cX7_take 40 = .ok (.getfield 22, 3) := by decide +kernel
theorem dX7_take_43 : decode cX7_take 43 = .ok (.putfield 22, 3) := by decide +kernel
theorem dX7_take_46 : decode cX7_take 46 = .ok (.aload_n 0, 1) := by decide +kernel
theorem dX7_take_47 : decode cX7_take 47 = .ok (.aload_n 1, 1) := by decide +kernel
theorem dX7_take_48 : decode cX7_take 48 = .ok (.getfield 25, 3) := by decide +kernel
theorem dX7_take_51 : decode cX7_take 51 = .ok (.putfield 25, 3) := by decide +kernel
theorem dX7_take_54 : decode cX7_take 54 = .ok (.return_, 1) := by decide +kernel
theorem dX7_addStep_0 : decode cX7_addStep 0 = .ok (.aload_n 0, 1) := by decide +kernel
theorem dX7_addStep_1 : decode cX7_addStep 1 = .ok (.getfield 22, 3) := by decide +kernel
theorem dX7_addStep_4 : decode cX7_addStep 4 = .ok (.bipush 40, 2) := by decide +kernel
theorem dX7_addStep_6 : decode cX7_addStep 6 = .ok (.if_icmp .ge 23, 3) := by decide +kernel
theorem dX7_addStep_9 : decode cX7_addStep 9 = .ok (.aload_n 0, 1) := by decide +kernel
theorem dX7_addStep_10 : decode cX7_addStep 10 = .ok (.getfield 15, 3) := by decide +kernel
theorem dX7_addStep_13 : decode cX7_addStep 13 = .ok (.aload_n 0, 1) := by decide +kernel
theorem dX7_addStep_14 : decode cX7_addStep 14 = .ok (.getfield 22, 3) := by decide +kernel
theorem dX7_addStep_17 : decode cX7_addStep 17 = .ok (.iload_n 1, 1) := by decide +kernel
theorem dX7_addStep_18 : decode cX7_addStep 18 = .ok (.iastore, 1) := by decide +kernel
theorem dX7_addStep_19 : decode cX7_addStep 19 = .ok (.aload_n 0, 1) := by decide +kernel
theorem dX7_addStep_20 : decode cX7_addStep 20 = .ok (.dup, 1) := by decide +kernel
theorem dX7_addStep_21 : decode cX7_addStep 21 = .ok (.getfield 22, 3) := by decide +kernel
theorem dX7_addStep_24 : decode cX7_addStep 24 = .ok (.iconst 1, 1) := by decide +kernel
theorem dX7_addStep_25 : decode cX7_addStep 25 = .ok (.iadd, 1) := by decide +kernel
theorem dX7_addStep_26 : decode cX7_addStep 26 = .ok (.putfield 22, 3) := by decide +kernel
theorem dX7_addStep_29 : decode cX7_addStep 29 = .ok (.return_, 1) := by decide +kernel
theorem dX9_init_0 : decode cX9_init 0 = .ok (.aload_n 0, 1) := by decide +kernel
theorem dX9_init_1 : decode cX9_init 1 = .ok (.invokespecial 3, 3) := by decide +kernel
theorem dX9_init_4 : decode cX9_init 4 = .ok (.aload_n 0, 1) := by decide +kernel
theorem dX9_init_5 : decode cX9_init 5 = .ok (.bipush 40, 2) := by decide +kernel
theorem dX9_init_7 : decode cX9_init 7 = .ok (.newarray .long, 2) := by decide +kernel
theorem dX9_init_9 : decode cX9_init 9 = .ok (.putfield 9, 3) := by decide +kernel
theorem dX9_init_12 : decode cX9_init 12 = .ok (.return_, 1) := by decide +kernel
theorem dX9_clear_0 : decode cX9_clear 0 = .ok (.aload_n 0, 1) := by decide +kernel
theorem dX9_clear_1 : decode cX9_clear 1 = .ok (.iconst 0, 1) := by decide +kernel
theorem dX9_clear_2 : decode cX9_clear 2 = .ok (.putfield 15, 3) := by decide +kernel
theorem dX9_clear_5 : decode cX9_clear 5 = .ok (.aload_n 0, 1) := by decide +kernel
theorem dX9_clear_6 : decode cX9_clear 6 = .ok (.iconst 0, 1) := by decide +kernel
theorem dX9_clear_7 : decode cX9_clear 7 = .ok (.putfield 19, 3) := by decide +kernel
theorem dX9_clear_10 : decode cX9_clear 10 = .ok (.aload_n 0, 1) := by decide +kernel
theorem dX9_clear_11 : decode cX9_clear 11 = .ok (.iconst 0, 1) := by decide +kernel
theorem dX9_clear_12 : decode cX9_clear 12 = .ok (.putfield 22, 3) := by decide +kernel
theorem dX9_clear_15 : decode cX9_clear 15 = .ok (.aload_n 0, 1) := by decide +kernel
theorem dX9_clear_16 : decode cX9_clear 16 = .ok (.iconst 0, 1) := by decide +kernel
theorem dX9_clear_17 : decode cX9_clear 17 = .ok (.putfield 25, 3) := by decide +kernel
theorem dX9_clear_20 : decode cX9_clear 20 = .ok (.aload_n 0, 1) := by decide +kernel
theorem dX9_clear_21 : decode cX9_clear 21 = .ok (.lconst 0, 1) := by decide +kernel
theorem dX9_clear_22 : decode cX9_clear 22 = .ok (.putfield 28, 3) := by decide +kernel
theorem dX9_clear_25 : decode cX9_clear 25 = .ok (.return_, 1) := by decide +kernel
theorem dX9_see_0 : decode cX9_see 0 = .ok (.iload_n 1, 1) := by decide +kernel
theorem dX9_see_1 : decode cX9_see 1 = .ok (.ifCond .le 9, 3) := by decide +kernel
theorem dX9_see_4 : decode cX9_see 4 = .ok (.iload_n 1, 1) := by decide +kernel
theorem dX9_see_5 : decode cX9_see 5 = .ok (.bipush 12, 2) := by decide +kernel
theorem dX9_see_7 : decode cX9_see 7 = .ok (.if_icmp .le 4, 3) := by decide +kernel
theorem dX9_see_10 : decode cX9_see 10 = .ok (.return_, 1) := by decide +kernel
theorem dX9_see_11 : decode cX9_see 11 = .ok (.aload_n 0, 1) := by decide +kernel
theorem dX9_see_12 : decode cX9_see 12 = .ok (.dup, 1) := by decide +kernel
theorem dX9_see_13 : decode cX9_see 13 = .ok (.getfield 15, 3) := by decide +kernel
theorem dX9_see_16 : decode cX9_see 16 = .ok (.iload_n 1, 1) := by decide +kernel
theorem dX9_see_17 : decode cX9_see 17 = .ok (.iadd, 1) := by decide +kernel
theorem dX9_see_18 : decode cX9_see 18 = .ok (.putfield 15, 3) := by decide +kernel
theorem dX9_see_21 : decode cX9_see 21 = .ok (.aload_n 0, 1) := by decide +kernel
theorem dX9_see_22 : decode cX9_see 22 = .ok (.dup, 1) := by decide +kernel
theorem dX9_see_23 : decode cX9_see 23 = .ok (.getfield 19, 3) := by decide +kernel
theorem dX9_see_26 : decode cX9_see 26 = .ok (.iconst 1, 1) := by decide +kernel
theorem dX9_see_27 : decode cX9_see 27 = .ok (.iadd, 1) := by decide +kernel
theorem dX9_see_28 : decode cX9_see 28 = .ok (.putfield 19, 3) := by decide +kernel
theorem dX9_see_31 : decode cX9_see 31 = .ok (.aload_n 0, 1) := by decide +kernel
theorem dX9_see_32 : decode cX9_see 32 = .ok (.aload_n 0, 1) := by decide +kernel
theorem dX9_see_33 : decode cX9_see 33 = .ok (.getfield 22, 3) := by decide +kernel
theorem dX9_see_36 : decode cX9_see 36 = .ok (.iload_n 1, 1) := by decide +kernel
theorem dX9_see_37 : decode cX9_see 37 = .ok (.invokestatic 32, 3) := by decide +kernel
theorem dX9_see_40 : decode cX9_see 40 = .ok (.putfield 22, 3) := by decide +kernel
theorem dX9_see_43 : decode cX9_see 43 = .ok (.aload_n 0, 1) := by decide +kernel
theorem dX9_see_44 : decode cX9_see 44 = .ok (.aload_n 0, 1) := by decide +kernel
theorem dX9_see_45 : decode cX9_see 45 = .ok (.getfield 25, 3) := by decide +kernel
theorem dX9_see_48 : decode cX9_see 48 = .ok (.ifCond .ne 7, 3) := by decide +kernel
theorem dX9_see_51 : decode cX9_see 51 = .ok (.iload_n 1, 1) := by decide +kernel
theorem dX9_see_52 : decode cX9_see 52 = .ok (.goto 11, 3) := by decide +kernel
theorem dX9_see_55 : decode cX9_see 55 = .ok (.aload_n 0, 1) := by decide +kernel
theorem dX9_see_56 : decode cX9_see 56 = .ok (.getfield 25, 3) := by decide +kernel
theorem dX9_see_59 : decode cX9_see 59 = .ok (.iload_n 1, 1) := by decide +kernel
theorem dX9_see_60 : decode cX9_see 60 = .ok (.invokestatic 38, 3) := by decide +kernel
theorem dX9_see_63 : decode cX9_see 63 = .ok (.putfield 25, 3) := by decide +kernel
theorem dX9_see_66 : decode cX9_see 66 = .ok (.aload_n 0, 1) := by decide +kernel
theorem dX9_see_67 : decode cX9_see 67 = .ok (.dup, 1) := by decide +kernel
theorem dX9_see_68 : decode cX9_see 68 = .ok (.getfield 28, 3) := by decide +kernel
theorem dX9_see_71 : decode cX9_see 71 = .ok (.getstatic 41, 3) := by decide +kernel
theorem dX9_see_74 : decode cX9_see 74 = .ok (.iload_n 1, 1) := by decide +kernel
theorem dX9_see_75 : decode cX9_see 75 = .ok (.iaload, 1) := by decide +kernel
theorem dX9_see_76 : decode cX9_see 76 = .ok (.i2l, 1) := by decide +kernel
theorem dX9_see_77 : decode cX9_see 77 = .ok (.ladd, 1) := by decide +kernel
theorem dX9_see_78 : decode cX9_see 78 = .ok (.putfield 28, 3) := by decide +kernel
theorem dX9_see_81 : decode cX9_see 81 = .ok (.return_, 1) := by decide +kernel
theorem dX9_seeAllBut_0 : decode cX9_seeAllBut 0 = .ok (.aload_n 0, 1) := by decide +kernel
theorem dX9_seeAllBut_1 : decode cX9_seeAllBut 1 = .ok (.invokevirtual 45, 3) := by decide +kernel
theorem dX9_seeAllBut_4 : decode cX9_seeAllBut 4 = .ok (.iconst 0, 1) := by decide +kernel
theorem dX9_seeAllBut_5 : decode cX9_seeAllBut 5 = .ok (.istore 4, 2) := by decide +kernel
theorem dX9_seeAllBut_7 : decode cX9_seeAllBut 7 = .ok (.iload 4, 2) := by decide +kernel
theorem dX9_seeAllBut_9 : decode cX9_seeAllBut 9 = .ok (.aload_n 1, 1) := by decide +kernel
theorem dX9_seeAllBut_10 : decode cX9_seeAllBut 10 = .ok (.getfield 48, 3) := by decide +kernel
theorem dX9_seeAllBut_13 : decode cX9_seeAllBut 13 = .ok (.if_icmp .ge 30, 3) := by decide +kernel
theorem dX9_seeAllBut_16 : decode cX9_seeAllBut 16 = .ok (.iload 4, 2) := by decide +kernel
theorem dX9_seeAllBut_18 : decode cX9_seeAllBut 18 = .ok (.iload_n 3, 1) := by decide +kernel
theorem dX9_seeAllBut_19 : decode cX9_seeAllBut 19 = .ok (.if_icmp .eq 18, 3) := by decide +kernel
theorem dX9_seeAllBut_22 : decode cX9_seeAllBut 22 = .ok (.aload_n 0, 1) := by decide +kernel
theorem dX9_seeAllBut_23 : decode cX9_seeAllBut 23 = .ok (.aload_n 1, 1) := by decide +kernel
theorem dX9_seeAllBut_24 : decode cX9_seeAllBut 24 = .ok (.getfield 53, 3) := by decide +kernel
theorem dX9_seeAllBut_27 : decode cX9_seeAllBut 27 = .ok (.iload 4, 2) := by decide +kernel
theorem dX9_seeAllBut_29 : decode cX9_seeAllBut 29 = .ok (.iconst 3, 1) := by decide +kernel
theorem dX9_seeAllBut_30 : decode cX9_seeAllBut 30 = .ok (.imul, 1) := by decide +kernel
theorem dX9_seeAllBut_31 : decode cX9_seeAllBut 31 = .ok (.iload_n 2, 1) := by decide +kernel
theorem dX9_seeAllBut_32 : decode cX9_seeAllBut 32 = .ok (.iadd, 1) := by decide +kernel
theorem dX9_seeAllBut_33 : decode cX9_seeAllBut 33 = .ok (.iaload, 1) := by decide +kernel
theorem dX9_seeAllBut_34 : decode cX9_seeAllBut 34 = .ok (.invokevirtual 56, 3) := by decide +kernel
theorem dX9_seeAllBut_37 : decode cX9_seeAllBut 37 = .ok (.iinc 4 1, 3) := by decide +kernel
theorem dX9_seeAllBut_40 : decode cX9_seeAllBut 40 = .ok (.goto (-33), 3) := by decide +kernel
theorem dX9_seeAllBut_43 : decode cX9_seeAllBut 43 = .ok (.return_, 1) := by decide +kernel
theorem dX9_toldBy_0 : decode cX9_toldBy 0 = .ok (.aload_n 1, 1) := by decide +kernel
theorem dX9_toldBy_1 : decode cX9_toldBy 1 = .ok (.getfield 60, 3) := by decide +kernel
theorem dX9_toldBy_4 : decode cX9_toldBy 4 = .ok (.iconst (-1), 1) := by decide +kernel
theorem dX9_toldBy_5 : decode cX9_toldBy 5 = .ok (.if_icmp .eq 5, 3) := by decide +kernel
theorem dX9_toldBy_8 : decode cX9_toldBy 8 = .ok (.iconst 0, 1) := by decide +kernel
theorem dX9_toldBy_9 : decode cX9_toldBy 9 = .ok (.ireturn, 1) := by decide +kernel
theorem dX9_toldBy_10 : decode cX9_toldBy 10 = .ok (.aload_n 0, 1) := by decide +kernel
theorem dX9_toldBy_11 : decode cX9_toldBy 11 = .ok (.iconst 0, 1) := by decide +kernel
theorem dX9_toldBy_12 : decode cX9_toldBy 12 = .ok (.putfield 65, 3) := by decide +kernel
theorem dX9_toldBy_15 : decode cX9_toldBy 15 = .ok (.iconst 0, 1) := by decide +kernel
theorem dX9_toldBy_16 : decode cX9_toldBy 16 = .ok (.istore_n 2, 1) := by decide +kernel
theorem dX9_toldBy_17 : decode cX9_toldBy 17 = .ok (.iload_n 2, 1) := by decide +kernel
theorem dX9_toldBy_18 : decode cX9_toldBy 18 = .ok (.aload_n 1, 1) := by decide +kernel
theorem dX9_toldBy_19 : decode cX9_toldBy 19 = .ok (.getfield 68, 3) := by decide +kernel
theorem dX9_toldBy_22 : decode cX9_toldBy 22 = .ok (.if_icmp .ge 35, 3) := by decide +kernel
theorem dX9_toldBy_25 : decode cX9_toldBy 25 = .ok (.aload_n 1, 1) := by decide +kernel
theorem dX9_toldBy_26 : decode cX9_toldBy 26 = .ok (.getfield 71, 3) := by decide +kernel
theorem dX9_toldBy_29 : decode cX9_toldBy 29 = .ok (.iload_n 2, 1) := by decide +kernel
theorem dX9_toldBy_30 : decode cX9_toldBy 30 = .ok (.iaload, 1) := by decide +kernel
theorem dX9_toldBy_31 : decode cX9_toldBy 31 = .ok (.istore_n 3, 1) := by decide +kernel
theorem dX9_toldBy_32 : decode cX9_toldBy 32 = .ok (.iload_n 3, 1) := by decide +kernel
theorem dX9_toldBy_33 : decode cX9_toldBy 33 = .ok (.ifCond .lt 12, 3) := by decide +kernel
theorem dX9_toldBy_36 : decode cX9_toldBy 36 = .ok (.aload_n 0, 1) := by decide +kernel
theorem dX9_toldBy_37 : decode cX9_toldBy 37 = .ok (.iload_n 3, 1) := by decide +kernel
theorem dX9_toldBy_38 : decode cX9_toldBy 38 = .ok (.i2l, 1) := by decide +kernel
theorem dX9_toldBy_39 : decode cX9_toldBy 39 = .ok (.invokevirtual 74, 3) := by decide +kernel
theorem dX9_toldBy_42 : decode cX9_toldBy 42 = .ok (.goto 9, 3) := by decide +kernel
theorem dX9_toldBy_45 : decode cX9_toldBy 45 = .ok (.aload_n 0, 1) := by decide +kernel
theorem dX9_toldBy_46 : decode cX9_toldBy 46 = .ok (.iload_n 3, 1) := by decide +kernel
theorem dX9_toldBy_47 : decode cX9_toldBy 47 = .ok (.ineg, 1) := by decide +kernel
theorem dX9_toldBy_48 : decode cX9_toldBy 48 = .ok (.invokevirtual 78, 3) := by decide +kernel
theorem dX9_toldBy_51 : decode cX9_toldBy 51 = .ok (.iinc 2 1, 3) := by decide +kernel
theorem dX9_toldBy_54 : decode cX9_toldBy 54 = .ok (.goto (-37), 3) := by decide +kernel
theorem dX9_toldBy_57 : decode cX9_toldBy 57 = .ok (.lconst 0, 1) := by decide +kernel
theorem dX9_toldBy_58 : decode cX9_toldBy 58 = .ok (.ldc2_w 81, 3) := by decide +kernel
theorem dX9_toldBy_61 : decode cX9_toldBy 61 = .ok (.aload_n 0, 1) := by decide +kernel
theorem dX9_toldBy_62 : decode cX9_toldBy 62 = .ok (.invokevirtual 83, 3) := by decide +kernel
theorem dX9_toldBy_65 : decode cX9_toldBy 65 = .ok (.invokestatic 87, 3) := by decide +kernel
theorem dX9_toldBy_68 : decode cX9_toldBy 68 = .ok (.invokestatic 90, 3) := by decide +kernel
theorem dX9_toldBy_71 : decode cX9_toldBy 71 = .ok (.l2i, 1) := by decide +kernel
theorem dX9_toldBy_72 : decode cX9_toldBy 72 = .ok (.ireturn, 1) := by decide +kernel
theorem dX9_doStep_0 : decode cX9_doStep 0 = .ok (.iload_n 1, 1) := by decide +kernel
theorem dX9_doStep_1 : decode cX9_doStep 1 = .ok (.lookupswitch 168 #[(33, 135), (108, 103), (109, 91), (110, 79), (114, 115), (115, 67), (126, 156)], 67) := by decide +kernel
theorem dX9_doStep_68 : decode cX9_doStep 68 = .ok (.aload_n 0, 1) := by decide +kernel
theorem dX9_doStep_69 : decode cX9_doStep 69 = .ok (.aload_n 0, 1) := by decide +kernel
theorem dX9_doStep_70 : decode cX9_doStep 70 = .ok (.getfield 15, 3) := by decide +kernel
theorem dX9_doStep_73 : decode cX9_doStep 73 = .ok (.i2l, 1) := by decide +kernel
theorem dX9_doStep_74 : decode cX9_doStep 74 = .ok (.invokevirtual 74, 3) := by decide +kernel
theorem dX9_doStep_77 : decode cX9_doStep 77 = .ok (.goto 114, 3) := by decide +kernel
theorem dX9_doStep_80 : decode cX9_doStep 80 = .ok (.aload_n 0, 1) := by decide +kernel
theorem dX9_doStep_81 : decode cX9_doStep 81 = .ok (.aload_n 0, 1) := by decide +kernel
theorem dX9_doStep_82 : decode cX9_doStep 82 = .ok (.getfield 19, 3) := by decide +kernel
theorem dX9_doStep_85 : decode cX9_doStep 85 = .ok (.i2l, 1) := by decide +kernel
theorem dX9_doStep_86 : decode cX9_doStep 86 = .ok (.invokevirtual 74, 3) := by decide +kernel
theorem dX9_doStep_89 : decode cX9_doStep 89 = .ok (.goto 102, 3) := by decide +kernel
theorem dX9_doStep_92 : decode cX9_doStep 92 = .ok (.aload_n 0, 1) := by decide +kernel
theorem dX9_doStep_93 : decode cX9_doStep 93 = .ok (.aload_n 0, 1) := by decide +kernel
theorem dX9_doStep_94 : decode cX9_doStep 94 = .ok (.getfield 22, 3) := by decide +kernel
theorem dX9_doStep_97 : decode cX9_doStep 97 = .ok (.i2l, 1) := by decide +kernel
theorem dX9_doStep_98 : decode cX9_doStep 98 = .ok (.invokevirtual 74, 3) := by decide +kernel
theorem dX9_doStep_101 : decode cX9_doStep 101 = .ok (.goto 90, 3) := by decide +kernel
theorem dX9_doStep_104 : decode cX9_doStep 104 = .ok (.aload_n 0, 1) := by decide +kernel
theorem dX9_doStep_105 : decode cX9_doStep 105 = .ok (.aload_n 0, 1) := by decide +kernel
theorem dX9_doStep_106 : decode cX9_doStep 106 = .ok (.getfield 25, 3) := by decide +kernel
theorem dX9_doStep_109 : decode cX9_doStep 109 = .ok (.i2l, 1) := by decide +kernel
theorem dX9_doStep_110 : decode cX9_doStep 110 = .ok (.invokevirtual 74, 3) := by decide +kernel
theorem dX9_doStep_113 : decode cX9_doStep 113 = .ok (.goto 78, 3) := by decide +kernel
theorem dX9_doStep_116 : decode cX9_doStep 116 = .ok (.aload_n 0, 1) := by decide +kernel
theorem dX9_doStep_117 : decode cX9_doStep 117 = .ok (.aload_n 0, 1) := by decide +kernel
theorem dX9_doStep_118 : decode cX9_doStep 118 = .ok (.getfield 28, 3) := by decide +kernel
theorem dX9_doStep_121 : decode cX9_doStep 121 = .ok (.aload_n 0, 1) := by decide +kernel
theorem dX9_doStep_122 : decode cX9_doStep 122 = .ok (.getfield 28, 3) := by decide +kernel
theorem dX9_doStep_125 : decode cX9_doStep 125 = .ok (.lmul, 1) := by decide +kernel
theorem dX9_doStep_126 : decode cX9_doStep 126 = .ok (.ldc2_w 92, 3) := by decide +kernel
theorem dX9_doStep_129 : decode cX9_doStep 129 = .ok (.ldiv, 1) := by decide +kernel
theorem dX9_doStep_130 : decode cX9_doStep 130 = .ok (.invokevirtual 74, 3) := by decide +kernel
theorem dX9_doStep_133 : decode cX9_doStep 133 = .ok (.goto 58, 3) := by decide +kernel
theorem dX9_doStep_136 : decode cX9_doStep 136 = .ok (.aload_n 0, 1) := by decide +kernel
theorem dX9_doStep_137 : decode cX9_doStep 137 = .ok (.aload_n 0, 1) := by decide +kernel
theorem dX9_doStep_138 : decode cX9_doStep 138 = .ok (.invokevirtual 83, 3) := by decide +kernel
theorem dX9_doStep_141 : decode cX9_doStep 141 = .ok (.lconst 0, 1) := by decide +kernel
theorem dX9_doStep_142 : decode cX9_doStep 142 = .ok (.lcmp, 1) := by decide +kernel
theorem dX9_doStep_143 : decode cX9_doStep 143 = .ok (.ifCond .ne 7, 3) := by decide +kernel
theorem dX9_doStep_146 : decode cX9_doStep 146 = .ok (.lconst 1, 1) := by decide +kernel
theorem dX9_doStep_147 : decode cX9_doStep 147 = .ok (.goto 4, 3) := by decide +kernel
theorem dX9_doStep_150 : decode cX9_doStep 150 = .ok (.lconst 0, 1) := by decide +kernel
theorem dX9_doStep_151 : decode cX9_doStep 151 = .ok (.invokevirtual 74, 3) := by decide +kernel
theorem dX9_doStep_154 : decode cX9_doStep 154 = .ok (.goto 37, 3) := by decide +kernel
theorem dX9_doStep_157 : decode cX9_doStep 157 = .ok (.aload_n 0, 1) := by decide +kernel
theorem dX9_doStep_158 : decode cX9_doStep 158 = .ok (.aload_n 0, 1) := by decide +kernel
theorem dX9_doStep_159 : decode cX9_doStep 159 = .ok (.invokevirtual 83, 3) := by decide +kernel
theorem dX9_doStep_162 : decode cX9_doStep 162 = .ok (.lneg, 1) := by decide +kernel
theorem dX9_doStep_163 : decode cX9_doStep 163 = .ok (.invokevirtual 74, 3) := by decide +kernel
theorem dX9_doStep_166 : decode cX9_doStep 166 = .ok (.goto 25, 3) := by decide +kernel
theorem dX9_doStep_169 : decode cX9_doStep 169 = .ok (.aload_n 0, 1) := by decide +kernel
theorem dX9_doStep_170 : decode cX9_doStep 170 = .ok (.invokevirtual 83, 3) := by decide +kernel
theorem dX9_doStep_173 : decode cX9_doStep 173 = .ok (.lstore_n 2, 1) := by decide +kernel
theorem dX9_doStep_174 : decode cX9_doStep 174 = .ok (.aload_n 0, 1) := by decide +kernel
theorem dX9_doStep_175 : decode cX9_doStep 175 = .ok (.invokevirtual 83, 3) := by decide +kernel
theorem dX9_doStep_178 : decode cX9_doStep 178 = .ok (.lstore 4, 2) := by decide +kernel
theorem dX9_doStep_180 : decode cX9_doStep 180 = .ok (.aload_n 0, 1) := by decide +kernel
theorem dX9_doStep_181 : decode cX9_doStep 181 = .ok (.iload_n 1, 1) := by decide +kernel
theorem dX9_doStep_182 : decode cX9_doStep 182 = .ok (.lload 4, 2) := by decide +kernel
theorem dX9_doStep_184 : decode cX9_doStep 184 = .ok (.lload_n 2, 1) := by decide +kernel
theorem dX9_doStep_185 : decode cX9_doStep 185 = .ok (.invokestatic 94, 3) := by decide +kernel
theorem dX9_doStep_188 : decode cX9_doStep 188 = .ok (.invokevirtual 74, 3) := by decide +kernel
theorem dX9_doStep_191 : decode cX9_doStep 191 = .ok (.return_, 1) := by decide +kernel
theorem dX9_joined_0 : decode cX9_joined 0 = .ok (.iload_n 0, 1) := by decide +kernel
theorem dX9_joined_1 : decode cX9_joined 1 = .ok (.lookupswitch 181 #[(38, 101), (42, 163), (43, 155), (45, 159), (47, 167), (60, 119), (61, 143), (62, 131), (124, 83)], 83) := by decide +kernel
theorem dX9_joined_84 : decode cX9_joined 84 = .ok (.lload_n 1, 1) := by decide +kernel
theorem dX9_joined_85 : decode cX9_joined 85 = .ok (.lconst 0, 1) := by decide +kernel
theorem dX9_joined_86 : decode cX9_joined 86 = .ok (.lcmp, 1) := by decide +kernel
theorem dX9_joined_87 : decode cX9_joined 87 = .ok (.ifCond .ne 9, 3) := by decide +kernel
theorem dX9_joined_90 : decode cX9_joined 90 = .ok (.lload_n 3, 1) := by decide +kernel
theorem dX9_joined_91 : decode cX9_joined 91 = .ok (.lconst 0, 1) := by decide +kernel
theorem dX9_joined_92 : decode cX9_joined 92 = .ok (.lcmp, 1) := by decide +kernel
theorem dX9_joined_93 : decode cX9_joined 93 = .ok (.ifCond .eq 7, 3) := by decide +kernel
theorem dX9_joined_96 : decode cX9_joined 96 = .ok (.lconst 1, 1) := by decide +kernel
theorem dX9_joined_97 : decode cX9_joined 97 = .ok (.goto 4, 3) := by decide +kernel
theorem dX9_joined_100 : decode cX9_joined 100 = .ok (.lconst 0, 1) := by decide +kernel
theorem dX9_joined_101 : decode cX9_joined 101 = .ok (.lreturn, 1) := by decide +kernel
theorem dX9_joined_102 : decode cX9_joined 102 = .ok (.lload_n 1, 1) := by decide +kernel
theorem dX9_joined_103 : decode cX9_joined 103 = .ok (.lconst 0, 1) := by decide +kernel
theorem dX9_joined_104 : decode cX9_joined 104 = .ok (.lcmp, 1) := by decide +kernel
theorem dX9_joined_105 : decode cX9_joined 105 = .ok (.ifCond .eq 13, 3) := by decide +kernel
theorem dX9_joined_108 : decode cX9_joined 108 = .ok (.lload_n 3, 1) := by decide +kernel
theorem dX9_joined_109 : decode cX9_joined 109 = .ok (.lconst 0, 1) := by decide +kernel
theorem dX9_joined_110 : decode cX9_joined 110 = .ok (.lcmp, 1) := by decide +kernel
theorem dX9_joined_111 : decode cX9_joined 111 = .ok (.ifCond .eq 7, 3) := by decide +kernel
theorem dX9_joined_114 : decode cX9_joined 114 = .ok (.lconst 1, 1) := by decide +kernel
theorem dX9_joined_115 : decode cX9_joined 115 = .ok (.goto 4, 3) := by decide +kernel
theorem dX9_joined_118 : decode cX9_joined 118 = .ok (.lconst 0, 1) := by decide +kernel
theorem dX9_joined_119 : decode cX9_joined 119 = .ok (.lreturn, 1) := by decide +kernel
theorem dX9_joined_120 : decode cX9_joined 120 = .ok (.lload_n 1, 1) := by decide +kernel
theorem dX9_joined_121 : decode cX9_joined 121 = .ok (.lload_n 3, 1) := by decide +kernel
theorem dX9_joined_122 : decode cX9_joined 122 = .ok (.lcmp, 1) := by decide +kernel
theorem dX9_joined_123 : decode cX9_joined 123 = .ok (.ifCond .ge 7, 3) := by decide +kernel
theorem dX9_joined_126 : decode cX9_joined 126 = .ok (.lconst 1, 1) := by decide +kernel
theorem dX9_joined_127 : decode cX9_joined 127 = .ok (.goto 4, 3) := by decide +kernel
theorem dX9_joined_130 : decode cX9_joined 130 = .ok (.lconst 0, 1) := by decide +kernel
theorem dX9_joined_131 : decode cX9_joined 131 = .ok (.lreturn, 1) := by decide +kernel
theorem dX9_joined_132 : decode cX9_joined 132 = .ok (.lload_n 1, 1) := by decide +kernel
theorem dX9_joined_133 : decode cX9_joined 133 = .ok (.lload_n 3, 1) := by decide +kernel
theorem dX9_joined_134 : decode cX9_joined 134 = .ok (.lcmp, 1) := by decide +kernel
theorem dX9_joined_135 : decode cX9_joined 135 = .ok (.ifCond .le 7, 3) := by decide +kernel
theorem dX9_joined_138 : decode cX9_joined 138 = .ok (.lconst 1, 1) := by decide +kernel
theorem dX9_joined_139 : decode cX9_joined 139 = .ok (.goto 4, 3) := by decide +kernel
theorem dX9_joined_142 : decode cX9_joined 142 = .ok (.lconst 0, 1) := by decide +kernel
theorem dX9_joined_143 : decode cX9_joined 143 = .ok (.lreturn, 1) := by decide +kernel
theorem dX9_joined_144 : decode cX9_joined 144 = .ok (.lload_n 1, 1) := by decide +kernel
theorem dX9_joined_145 : decode cX9_joined 145 = .ok (.lload_n 3, 1) := by decide +kernel
theorem dX9_joined_146 : decode cX9_joined 146 = .ok (.lcmp, 1) := by decide +kernel
theorem dX9_joined_147 : decode cX9_joined 147 = .ok (.ifCond .ne 7, 3) := by decide +kernel
theorem dX9_joined_150 : decode cX9_joined 150 = .ok (.lconst 1, 1) := by decide +kernel
theorem dX9_joined_151 : decode cX9_joined 151 = .ok (.goto 4, 3) := by decide +kernel
theorem dX9_joined_154 : decode cX9_joined 154 = .ok (.lconst 0, 1) := by decide +kernel
theorem dX9_joined_155 : decode cX9_joined 155 = .ok (.lreturn, 1) := by decide +kernel
theorem dX9_joined_156 : decode cX9_joined 156 = .ok (.lload_n 1, 1) := by decide +kernel
theorem dX9_joined_157 : decode cX9_joined 157 = .ok (.lload_n 3, 1) := by decide +kernel
theorem dX9_joined_158 : decode cX9_joined 158 = .ok (.ladd, 1) := by decide +kernel
theorem dX9_joined_159 : decode cX9_joined 159 = .ok (.lreturn, 1) := by decide +kernel
theorem dX9_joined_160 : decode cX9_joined 160 = .ok (.lload_n 1, 1) := by decide +kernel
theorem dX9_joined_161 : decode cX9_joined 161 = .ok (.lload_n 3, 1) := by decide +kernel
theorem dX9_joined_162 : decode cX9_joined 162 = .ok (.lsub, 1) := by decide +kernel
theorem dX9_joined_163 : decode cX9_joined 163 = .ok (.lreturn, 1) := by decide +kernel
theorem dX9_joined_164 : decode cX9_joined 164 = .ok (.lload_n 1, 1) := by decide +kernel
theorem dX9_joined_165 : decode cX9_joined 165 = .ok (.lload_n 3, 1) := by decide +kernel
theorem dX9_joined_166 : decode cX9_joined 166 = .ok (.lmul, 1) := by decide +kernel
theorem dX9_joined_167 : decode cX9_joined 167 = .ok (.lreturn, 1) := by decide +kernel
theorem dX9_joined_168 : decode cX9_joined 168 = .ok (.lload_n 3, 1) := by decide +kernel
theorem dX9_joined_169 : decode cX9_joined 169 = .ok (.lconst 0, 1) := by decide +kernel
theorem dX9_joined_170 : decode cX9_joined 170 = .ok (.lcmp, 1) := by decide +kernel
theorem dX9_joined_171 : decode cX9_joined 171 = .ok (.ifCond .ne 7, 3) := by decide +kernel
theorem dX9_joined_174 : decode cX9_joined 174 = .ok (.lconst 0, 1) := by decide +kernel
theorem dX9_joined_175 : decode cX9_joined 175 = .ok (.goto 6, 3) := by decide +kernel
theorem dX9_joined_178 : decode cX9_joined 178 = .ok (.lload_n 1, 1) := by decide +kernel
theorem dX9_joined_179 : decode cX9_joined 179 = .ok (.lload_n 3, 1) := by decide +kernel
theorem dX9_joined_180 : decode cX9_joined 180 = .ok (.ldiv, 1) := by decide +kernel
theorem dX9_joined_181 : decode cX9_joined 181 = .ok (.lreturn, 1) := by decide +kernel
theorem dX9_joined_182 : decode cX9_joined 182 = .ok (.lconst 0, 1) := by decide +kernel
theorem dX9_joined_183 : decode cX9_joined 183 = .ok (.lreturn, 1) := by decide +kernel
theorem dX9_push_0 : decode cX9_push 0 = .ok (.aload_n 0, 1) := by decide +kernel
theorem dX9_push_1 : decode cX9_push 1 = .ok (.getfield 65, 3) := by decide +kernel
theorem dX9_push_4 : decode cX9_push 4 = .ok (.bipush 40, 2) := by decide +kernel
theorem dX9_push_6 : decode cX9_push 6 = .ok (.if_icmp .ge 23, 3) := by decide +kernel
theorem dX9_push_9 : decode cX9_push 9 = .ok (.aload_n 0, 1) := by decide +kernel
theorem dX9_push_10 : decode cX9_push 10 = .ok (.getfield 9, 3) := by decide +kernel
theorem dX9_push_13 : decode cX9_push 13 = .ok (.aload_n 0, 1) := by decide +kernel
theorem dX9_push_14 : decode cX9_push 14 = .ok (.getfield 65, 3) := by decide +kernel
theorem dX9_push_17 : decode cX9_push 17 = .ok (.lload_n 1, 1) := by decide +kernel
theorem dX9_push_18 : decode cX9_push 18 = .ok (.lastore, 1) := by decide +kernel
theorem dX9_push_19 : decode cX9_push 19 = .ok (.aload_n 0, 1) := by decide +kernel
theorem dX9_push_20 : decode cX9_push 20 = .ok (.dup, 1) := by decide +kernel
theorem dX9_push_21 : decode cX9_push 21 = .ok (.getfield 65, 3) := by decide +kernel
theorem dX9_push_24 : decode cX9_push 24 = .ok (.iconst 1, 1) := by decide +kernel
theorem dX9_push_25 : decode cX9_push 25 = .ok (.iadd, 1) := by decide +kernel
theorem dX9_push_26 : decode cX9_push 26 = .ok (.putfield 65, 3) := by decide +kernel
theorem dX9_push_29 : decode cX9_push 29 = .ok (.return_, 1) := by decide +kernel
theorem dX9_pop_0 : decode cX9_pop 0 = .ok (.aload_n 0, 1) := by decide +kernel
theorem dX9_pop_1 : decode cX9_pop 1 = .ok (.getfield 65, 3) := by decide +kernel
theorem dX9_pop_4 : decode cX9_pop 4 = .ok (.ifCond .ne 5, 3) := by decide +kernel
theorem dX9_pop_7 : decode cX9_pop 7 = .ok (.lconst 0, 1) := by decide +kernel
theorem dX9_pop_8 : decode cX9_pop 8 = .ok (.lreturn, 1) := by decide +kernel
theorem dX9_pop_9 : decode cX9_pop 9 = .ok (.aload_n 0, 1) := by decide +kernel
theorem dX9_pop_10 : decode cX9_pop 10 = .ok (.dup, 1) := by decide +kernel
theorem dX9_pop_11 : decode cX9_pop 11 = .ok (.getfield 65, 3) := by decide +kernel
theorem dX9_pop_14 : decode cX9_pop 14 = .ok (.iconst 1, 1) := by decide +kernel
theorem dX9_pop_15 : decode cX9_pop 15 = .ok (.isub, 1) := by decide +kernel
theorem dX9_pop_16 : decode cX9_pop 16 = .ok (.putfield 65, 3) := by decide +kernel
theorem dX9_pop_19 : decode cX9_pop 19 = .ok (.aload_n 0, 1) := by decide +kernel
theorem dX9_pop_20 : decode cX9_pop 20 = .ok (.getfield 9, 3) := by decide +kernel
theorem dX9_pop_23 : decode cX9_pop 23 = .ok (.aload_n 0, 1) := by decide +kernel
theorem dX9_pop_24 : decode cX9_pop 24 = .ok (.getfield 65, 3) := by decide +kernel
theorem dX9_pop_27 : decode cX9_pop 27 = .ok (.laload, 1) := by decide +kernel
theorem dX9_pop_28 : decode cX9_pop 28 = .ok (.lreturn, 1) := by decide +kernel
theorem dX2_init_0 : decode cX2_init 0 = .ok (.aload_n 0, 1) := by decide +kernel
theorem dX2_init_1 : decode cX2_init 1 = .ok (.invokespecial 1, 3) := by decide +kernel
theorem dX2_init_4 : decode cX2_init 4 = .ok (.aload_n 0, 1) := by decide +kernel
theorem dX2_init_5 : decode cX2_init 5 = .ok (.aload_n 1, 1) := by decide +kernel
theorem dX2_init_6 : decode cX2_init 6 = .ok (.putfield 7, 3) := by decide +kernel
theorem dX2_init_9 : decode cX2_init 9 = .ok (.return_, 1) := by decide +kernel
theorem dX2_hold_0 : decode cX2_hold 0 = .ok (.aload_n 0, 1) := by decide +kernel
theorem dX2_hold_1 : decode cX2_hold 1 = .ok (.aload_n 1, 1) := by decide +kernel
theorem dX2_hold_2 : decode cX2_hold 2 = .ok (.iload 4, 2) := by decide +kernel
theorem dX2_hold_4 : decode cX2_hold 4 = .ok (.iload 5, 2) := by decide +kernel
theorem dX2_hold_6 : decode cX2_hold 6 = .ok (.iconst 0, 1) := by decide +kernel
theorem dX2_hold_7 : decode cX2_hold 7 = .ok (.invokevirtual 13, 3) := by decide +kernel
theorem dX2_hold_10 : decode cX2_hold 10 = .ok (.istore 6, 2) := by decide +kernel
theorem dX2_hold_12 : decode cX2_hold 12 = .ok (.iload_n 2, 1) := by decide +kernel
theorem dX2_hold_13 : decode cX2_hold 13 = .ok (.tableswitch 86 0 2 #[27, 58, 70], 27) := by decide +kernel
theorem dX2_hold_40 : decode cX2_hold 40 = .ok (.iload 4, 2) := by decide +kernel
theorem dX2_hold_42 : decode cX2_hold 42 = .ok (.iload_n 3, 1) := by decide +kernel
theorem dX2_hold_43 : decode cX2_hold 43 = .ok (.if_icmp .eq 22, 3) := by decide +kernel
theorem dX2_hold_46 : decode cX2_hold 46 = .ok (.iconst 1, 1) := by decide +kernel
theorem dX2_hold_47 : decode cX2_hold 47 = .ok (.aload_n 0, 1) := by decide +kernel
theorem dX2_hold_48 : decode cX2_hold 48 = .ok (.aload_n 1, 1) := by decide +kernel
theorem dX2_hold_49 : decode cX2_hold 49 = .ok (.iload 4, 2) := by decide +kernel
theorem dX2_hold_51 : decode cX2_hold 51 = .ok (.iconst 1, 1) := by decide +kernel
theorem dX2_hold_52 : decode cX2_hold 52 = .ok (.iadd, 1) := by decide +kernel
theorem dX2_hold_53 : decode cX2_hold 53 = .ok (.iload 5, 2) := by decide +kernel
theorem dX2_hold_55 : decode cX2_hold 55 = .ok (.iconst 0, 1) := by decide +kernel
theorem dX2_hold_56 : decode cX2_hold 56 = .ok (.invokevirtual 13, 3) := by decide +kernel
theorem dX2_hold_59 : decode cX2_hold 59 = .ok (.iadd, 1) := by decide +kernel
theorem dX2_hold_60 : decode cX2_hold 60 = .ok (.iload 6, 2) := by decide +kernel
theorem dX2_hold_62 : decode cX2_hold 62 = .ok (.if_icmp .lt 7, 3) := by decide +kernel
theorem dX2_hold_65 : decode cX2_hold 65 = .ok (.iconst 1, 1) := by decide +kernel
theorem dX2_hold_66 : decode cX2_hold 66 = .ok (.goto 4, 3) := by decide +kernel
theorem dX2_hold_69 : decode cX2_hold 69 = .ok (.iconst 0, 1) := by decide +kernel
theorem dX2_hold_70 : decode cX2_hold 70 = .ok (.ireturn, 1) := by decide +kernel
theorem dX2_hold_71 : decode cX2_hold 71 = .ok (.aload_n 0, 1) := by decide +kernel
theorem dX2_hold_72 : decode cX2_hold 72 = .ok (.aload_n 1, 1) := by decide +kernel
theorem dX2_hold_73 : decode cX2_hold 73 = .ok (.iload 4, 2) := by decide +kernel
theorem dX2_hold_75 : decode cX2_hold 75 = .ok (.iload 5, 2) := by decide +kernel
theorem dX2_hold_77 : decode cX2_hold 77 = .ok (.iload 6, 2) := by decide +kernel
theorem dX2_hold_79 : decode cX2_hold 79 = .ok (.invokevirtual 17, 3) := by decide +kernel
theorem dX2_hold_82 : decode cX2_hold 82 = .ok (.ireturn, 1) := by decide +kernel
theorem dX2_hold_83 : decode cX2_hold 83 = .ok (.iload 6, 2) := by decide +kernel
theorem dX2_hold_85 : decode cX2_hold 85 = .ok (.iload 4, 2) := by decide +kernel
theorem dX2_hold_87 : decode cX2_hold 87 = .ok (.iload 5, 2) := by decide +kernel
theorem dX2_hold_89 : decode cX2_hold 89 = .ok (.iadd, 1) := by decide +kernel
theorem dX2_hold_90 : decode cX2_hold 90 = .ok (.if_icmp .gt 7, 3) := by decide +kernel
theorem dX2_hold_93 : decode cX2_hold 93 = .ok (.iconst 1, 1) := by decide +kernel
theorem dX2_hold_94 : decode cX2_hold 94 = .ok (.goto 4, 3) := by decide +kernel
theorem dX2_hold_97 : decode cX2_hold 97 = .ok (.iconst 0, 1) := by decide +kernel
theorem dX2_hold_98 : decode cX2_hold 98 = .ok (.ireturn, 1) := by decide +kernel
theorem dX2_hold_99 : decode cX2_hold 99 = .ok (.iload 4, 2) := by decide +kernel
theorem dX2_hold_101 : decode cX2_hold 101 = .ok (.ifCond .eq 13, 3) := by decide +kernel
theorem dX2_hold_104 : decode cX2_hold 104 = .ok (.iload 5, 2) := by decide +kernel
theorem dX2_hold_106 : decode cX2_hold 106 = .ok (.ifCond .eq 8, 3) := by decide +kernel
theorem dX2_hold_109 : decode cX2_hold 109 = .ok (.iload 6, 2) := by decide +kernel
theorem dX2_hold_111 : decode cX2_hold 111 = .ok (.ifCond .le 7, 3) := by decide +kernel
theorem dX2_hold_114 : decode cX2_hold 114 = .ok (.iconst 1, 1) := by decide +kernel
theorem dX2_hold_115 : decode cX2_hold 115 = .ok (.goto 4, 3) := by decide +kernel
theorem dX2_hold_118 : decode cX2_hold 118 = .ok (.iconst 0, 1) := by decide +kernel
theorem dX2_hold_119 : decode cX2_hold 119 = .ok (.ireturn, 1) := by decide +kernel
theorem dX2_noneMoreByHands_0 : decode cX2_noneMoreByHands 0 = .ok (.iconst 1, 1) := by decide +kernel
theorem dX2_noneMoreByHands_1 : decode cX2_noneMoreByHands 1 = .ok (.istore 5, 2) := by decide +kernel
theorem dX2_noneMoreByHands_3 : decode cX2_noneMoreByHands 3 = .ok (.iload 5, 2) := by decide +kernel
theorem dX2_noneMoreByHands_5 : decode cX2_noneMoreByHands 5 = .ok (.iload_n 2, 1) := by decide +kernel
theorem dX2_noneMoreByHands_6 : decode cX2_noneMoreByHands 6 = .ok (.if_icmp .ge 28, 3) := by decide +kernel
theorem dX2_noneMoreByHands_9 : decode cX2_noneMoreByHands 9 = .ok (.aload_n 0, 1) := by decide +kernel
theorem dX2_noneMoreByHands_10 : decode cX2_noneMoreByHands 10 = .ok (.aload_n 1, 1) := by decide +kernel
theorem dX2_noneMoreByHands_11 : decode cX2_noneMoreByHands 11 = .ok (.iload 5, 2) := by decide +kernel
theorem dX2_noneMoreByHands_13 : decode cX2_noneMoreByHands 13 = .ok (.iload_n 3, 1) := by decide +kernel
theorem dX2_noneMoreByHands_14 : decode cX2_noneMoreByHands 14 = .ok (.iload_n 2, 1) := by decide +kernel
theorem dX2_noneMoreByHands_15 : decode cX2_noneMoreByHands 15 = .ok (.iload 5, 2) := by decide +kernel
theorem dX2_noneMoreByHands_17 : decode cX2_noneMoreByHands 17 = .ok (.isub, 1) := by decide +kernel
theorem dX2_noneMoreByHands_18 : decode cX2_noneMoreByHands 18 = .ok (.invokevirtual 13, 3) := by decide +kernel
theorem dX2_noneMoreByHands_21 : decode cX2_noneMoreByHands 21 = .ok (.iload 4, 2) := by decide +kernel
theorem dX2_noneMoreByHands_23 : decode cX2_noneMoreByHands 23 = .ok (.if_icmp .le 5, 3) := by decide +kernel
theorem dX2_noneMoreByHands_26 : decode cX2_noneMoreByHands 26 = .ok (.iconst 0, 1) := by decide +kernel
theorem dX2_noneMoreByHands_27 : decode cX2_noneMoreByHands 27 = .ok (.ireturn, 1) := by decide +kernel
theorem dX2_noneMoreByHands_28 : decode cX2_noneMoreByHands 28 = .ok (.iinc 5 1, 3) := by decide +kernel
theorem dX2_noneMoreByHands_31 : decode cX2_noneMoreByHands 31 = .ok (.goto (-28), 3) := by decide +kernel
theorem dX2_noneMoreByHands_34 : decode cX2_noneMoreByHands 34 = .ok (.iconst 1, 1) := by decide +kernel
theorem dX2_noneMoreByHands_35 : decode cX2_noneMoreByHands 35 = .ok (.ireturn, 1) := by decide +kernel
theorem dX2_addedTo_0 : decode cX2_addedTo 0 = .ok (.aload_n 0, 1) := by decide +kernel
theorem dX2_addedTo_1 : decode cX2_addedTo 1 = .ok (.getfield 7, 3) := by decide +kernel
theorem dX2_addedTo_4 : decode cX2_addedTo 4 = .ok (.invokevirtual 21, 3) := by decide +kernel
theorem dX2_addedTo_7 : decode cX2_addedTo 7 = .ok (.aload_n 0, 1) := by decide +kernel
theorem dX2_addedTo_8 : decode cX2_addedTo 8 = .ok (.getfield 7, 3) := by decide +kernel
theorem dX2_addedTo_11 : decode cX2_addedTo 11 = .ok (.iload_n 2, 1) := by decide +kernel
theorem dX2_addedTo_12 : decode cX2_addedTo 12 = .ok (.invokevirtual 26, 3) := by decide +kernel
theorem dX2_addedTo_15 : decode cX2_addedTo 15 = .ok (.aload_n 0, 1) := by decide +kernel
theorem dX2_addedTo_16 : decode cX2_addedTo 16 = .ok (.getfield 7, 3) := by decide +kernel
theorem dX2_addedTo_19 : decode cX2_addedTo 19 = .ok (.iload_n 3, 1) := by decide +kernel
theorem dX2_addedTo_20 : decode cX2_addedTo 20 = .ok (.invokevirtual 26, 3) := by decide +kernel
theorem dX2_addedTo_23 : decode cX2_addedTo 23 = .ok (.aload_n 0, 1) := by decide +kernel
theorem dX2_addedTo_24 : decode cX2_addedTo 24 = .ok (.getfield 7, 3) := by decide +kernel
theorem dX2_addedTo_27 : decode cX2_addedTo 27 = .ok (.iload 4, 2) := by decide +kernel
theorem dX2_addedTo_29 : decode cX2_addedTo 29 = .ok (.invokevirtual 26, 3) := by decide +kernel
theorem dX2_addedTo_32 : decode cX2_addedTo 32 = .ok (.aload_n 0, 1) := by decide +kernel
theorem dX2_addedTo_33 : decode cX2_addedTo 33 = .ok (.getfield 7, 3) := by decide +kernel
theorem dX2_addedTo_36 : decode cX2_addedTo 36 = .ok (.aload_n 1, 1) := by decide +kernel
theorem dX2_addedTo_37 : decode cX2_addedTo 37 = .ok (.invokevirtual 30, 3) := by decide +kernel
theorem dX2_addedTo_40 : decode cX2_addedTo 40 = .ok (.ireturn, 1) := by decide +kernel
theorem dX5_init_0 : decode cX5_init 0 = .ok (.aload_n 0, 1) := by decide +kernel
theorem dX5_init_1 : decode cX5_init 1 = .ok (.invokespecial 3, 3) := by decide +kernel
theorem dX5_init_4 : decode cX5_init 4 = .ok (.aload_n 0, 1) := by decide +kernel
theorem dX5_init_5 : decode cX5_init 5 = .ok (.bipush 40, 2) := by decide +kernel
theorem dX5_init_7 : decode cX5_init 7 = .ok (.newarray .int, 2) := by decide +kernel
theorem dX5_init_9 : decode cX5_init 9 = .ok (.putfield 9, 3) := by decide +kernel
theorem dX5_init_12 : decode cX5_init 12 = .ok (.return_, 1) := by decide +kernel
theorem dX5_read_0 : decode cX5_read 0 = .ok (.aload_n 0, 1) := by decide +kernel
theorem dX5_read_1 : decode cX5_read 1 = .ok (.iconst 0, 1) := by decide +kernel
theorem dX5_read_2 : decode cX5_read 2 = .ok (.putfield 15, 3) := by decide +kernel
theorem dX5_read_5 : decode cX5_read 5 = .ok (.aload_n 0, 1) := by decide +kernel
theorem dX5_read_6 : decode cX5_read 6 = .ok (.iconst 0, 1) := by decide +kernel
theorem dX5_read_7 : decode cX5_read 7 = .ok (.putfield 19, 3) := by decide +kernel
theorem dX5_read_10 : decode cX5_read 10 = .ok (.aload_n 0, 1) := by decide +kernel
theorem dX5_read_11 : decode cX5_read 11 = .ok (.iconst 0, 1) := by decide +kernel
theorem dX5_read_12 : decode cX5_read 12 = .ok (.putfield 22, 3) := by decide +kernel
theorem dX5_read_15 : decode cX5_read 15 = .ok (.aload_n 0, 1) := by decide +kernel
theorem dX5_read_16 : decode cX5_read 16 = .ok (.iconst 1, 1) := by decide +kernel
theorem dX5_read_17 : decode cX5_read 17 = .ok (.putfield 25, 3) := by decide +kernel
theorem dX5_read_20 : decode cX5_read 20 = .ok (.aload_n 1, 1) := by decide +kernel
theorem dX5_read_21 : decode cX5_read 21 = .ok (.iconst 0, 1) := by decide +kernel
theorem dX5_read_22 : decode cX5_read 22 = .ok (.putfield 29, 3) := by decide +kernel
theorem dX5_read_25 : decode cX5_read 25 = .ok (.aload_n 1, 1) := by decide +kernel
theorem dX5_read_26 : decode cX5_read 26 = .ok (.iconst (-1), 1) := by decide +kernel
theorem dX5_read_27 : decode cX5_read 27 = .ok (.putfield 34, 3) := by decide +kernel
theorem dX5_read_30 : decode cX5_read 30 = .ok (.iconst 0, 1) := by decide +kernel
theorem dX5_read_31 : decode cX5_read 31 = .ok (.istore_n 2, 1) := by decide +kernel
theorem dX5_read_32 : decode cX5_read 32 = .ok (.iload_n 2, 1) := by decide +kernel
theorem dX5_read_33 : decode cX5_read 33 = .ok (.aload_n 1, 1) := by decide +kernel
theorem dX5_read_34 : decode cX5_read 34 = .ok (.getfield 37, 3) := by decide +kernel
theorem dX5_read_37 : decode cX5_read 37 = .ok (.if_icmp .ge 23, 3) := by decide +kernel
theorem dX5_read_40 : decode cX5_read 40 = .ok (.aload_n 1, 1) := by decide +kernel
theorem dX5_read_41 : decode cX5_read 41 = .ok (.getfield 34, 3) := by decide +kernel
theorem dX5_read_44 : decode cX5_read 44 = .ok (.iconst (-1), 1) := by decide +kernel
theorem dX5_read_45 : decode cX5_read 45 = .ok (.if_icmp .ne 15, 3) := by decide +kernel
theorem dX5_read_48 : decode cX5_read 48 = .ok (.aload_n 0, 1) := by decide +kernel
theorem dX5_read_49 : decode cX5_read 49 = .ok (.aload_n 1, 1) := by decide +kernel
theorem dX5_read_50 : decode cX5_read 50 = .ok (.iload_n 2, 1) := by decide +kernel
theorem dX5_read_51 : decode cX5_read 51 = .ok (.invokevirtual 40, 3) := by decide +kernel
theorem dX5_read_54 : decode cX5_read 54 = .ok (.iinc 2 1, 3) := by decide +kernel
theorem dX5_read_57 : decode cX5_read 57 = .ok (.goto (-25), 3) := by decide +kernel
theorem dX5_read_60 : decode cX5_read 60 = .ok (.aload_n 1, 1) := by decide +kernel
theorem dX5_read_61 : decode cX5_read 61 = .ok (.getfield 34, 3) := by decide +kernel
theorem dX5_read_64 : decode cX5_read 64 = .ok (.iconst (-1), 1) := by decide +kernel
theorem dX5_read_65 : decode cX5_read 65 = .ok (.if_icmp .ne 30, 3) := by decide +kernel
theorem dX5_read_68 : decode cX5_read 68 = .ok (.aload_n 0, 1) := by decide +kernel
theorem dX5_read_69 : decode cX5_read 69 = .ok (.getfield 25, 3) := by decide +kernel
theorem dX5_read_72 : decode cX5_read 72 = .ok (.ifCond .ne 10, 3) := by decide +kernel
theorem dX5_read_75 : decode cX5_read 75 = .ok (.aload_n 0, 1) := by decide +kernel
theorem dX5_read_76 : decode cX5_read 76 = .ok (.getfield 19, 3) := by decide +kernel
theorem dX5_read_79 : decode cX5_read 79 = .ok (.ifCond .le 16, 3) := by decide +kernel
theorem dX5_read_82 : decode cX5_read 82 = .ok (.aload_n 1, 1) := by decide +kernel
theorem dX5_read_83 : decode cX5_read 83 = .ok (.bipush 10, 2) := by decide +kernel
theorem dX5_read_85 : decode cX5_read 85 = .ok (.aload_n 1, 1) := by decide +kernel
theorem dX5_read_86 : decode cX5_read 86 = .ok (.getfield 37, 3) := by decide +kernel
theorem dX5_read_89 : decode cX5_read 89 = .ok (.imul, 1) := by decide +kernel
theorem dX5_read_90 : decode cX5_read 90 = .ok (.iconst 1, 1) := by decide +kernel
theorem dX5_read_91 : decode cX5_read 91 = .ok (.iadd, 1) := by decide +kernel
theorem dX5_read_92 : decode cX5_read 92 = .ok (.putfield 34, 3) := by decide +kernel
theorem dX5_read_95 : decode cX5_read 95 = .ok (.aload_n 0, 1) := by decide +kernel
theorem dX5_read_96 : decode cX5_read 96 = .ok (.aload_n 1, 1) := by decide +kernel
theorem dX5_read_97 : decode cX5_read 97 = .ok (.iconst 1, 1) := by decide +kernel
theorem dX5_read_98 : decode cX5_read 98 = .ok (.invokevirtual 44, 3) := by decide +kernel
theorem dX5_read_101 : decode cX5_read 101 = .ok (.return_, 1) := by decide +kernel
theorem dX5_readCharacter_0 : decode cX5_readCharacter 0 = .ok (.aload_n 1, 1) := by decide +kernel
theorem dX5_readCharacter_1 : decode cX5_readCharacter 1 = .ok (.getfield 47, 3) := by decide +kernel
theorem dX5_readCharacter_4 : decode cX5_readCharacter 4 = .ok (.iload_n 2, 1) := by decide +kernel
theorem dX5_readCharacter_5 : decode cX5_readCharacter 5 = .ok (.iaload, 1) := by decide +kernel
theorem dX5_readCharacter_6 : decode cX5_readCharacter 6 = .ok (.istore_n 3, 1) := by decide +kernel
theorem dX5_readCharacter_7 : decode cX5_readCharacter 7 = .ok (.iload_n 3, 1) := by decide +kernel
theorem dX5_readCharacter_8 : decode cX5_readCharacter 8 = .ok (.bipush 48, 2) := by decide +kernel
theorem dX5_readCharacter_10 : decode cX5_readCharacter 10 = .ok (.if_icmp .lt 20, 3) := by decide +kernel
theorem dX5_readCharacter_13 : decode cX5_readCharacter 13 = .ok (.iload_n 3, 1) := by decide +kernel
theorem dX5_readCharacter_14 : decode cX5_readCharacter 14 = .ok (.bipush 57, 2) := by decide +kernel
theorem dX5_readCharacter_16 : decode cX5_readCharacter 16 = .ok (.if_icmp .gt 14, 3) := by decide +kernel
theorem dX5_readCharacter_19 : decode cX5_readCharacter 19 = .ok (.aload_n 0, 1) := by decide +kernel
theorem dX5_readCharacter_20 : decode cX5_readCharacter 20 = .ok (.aload_n 1, 1) := by decide +kernel
theorem dX5_readCharacter_21 : decode cX5_readCharacter 21 = .ok (.iload_n 2, 1) := by decide +kernel
theorem dX5_readCharacter_22 : decode cX5_readCharacter 22 = .ok (.iload_n 3, 1) := by decide +kernel
theorem dX5_readCharacter_23 : decode cX5_readCharacter 23 = .ok (.bipush 48, 2) := by decide +kernel
theorem dX5_readCharacter_25 : decode cX5_readCharacter 25 = .ok (.isub, 1) := by decide +kernel
theorem dX5_readCharacter_26 : decode cX5_readCharacter 26 = .ok (.invokevirtual 50, 3) := by decide +kernel
theorem dX5_readCharacter_29 : decode cX5_readCharacter 29 = .ok (.return_, 1) := by decide +kernel
theorem dX5_readCharacter_30 : decode cX5_readCharacter 30 = .ok (.aload_n 0, 1) := by decide +kernel
theorem dX5_readCharacter_31 : decode cX5_readCharacter 31 = .ok (.iconst 0, 1) := by decide +kernel
theorem dX5_readCharacter_32 : decode cX5_readCharacter 32 = .ok (.putfield 22, 3) := by decide +kernel
theorem dX5_readCharacter_35 : decode cX5_readCharacter 35 = .ok (.iload_n 3, 1) := by decide +kernel
theorem dX5_readCharacter_36 : decode cX5_readCharacter 36 = .ok (.bipush 32, 2) := by decide +kernel
theorem dX5_readCharacter_38 : decode cX5_readCharacter 38 = .ok (.if_icmp .ne 4, 3) := by decide +kernel
theorem dX5_readCharacter_41 : decode cX5_readCharacter 41 = .ok (.return_, 1) := by decide +kernel
theorem dX5_readCharacter_42 : decode cX5_readCharacter 42 = .ok (.aload_n 0, 1) := by decide +kernel
theorem dX5_readCharacter_43 : decode cX5_readCharacter 43 = .ok (.getfield 25, 3) := by decide +kernel
theorem dX5_readCharacter_46 : decode cX5_readCharacter 46 = .ok (.ifCond .eq 12, 3) := by decide +kernel
theorem dX5_readCharacter_49 : decode cX5_readCharacter 49 = .ok (.aload_n 0, 1) := by decide +kernel
theorem dX5_readCharacter_50 : decode cX5_readCharacter 50 = .ok (.aload_n 1, 1) := by decide +kernel
theorem dX5_readCharacter_51 : decode cX5_readCharacter 51 = .ok (.iload_n 2, 1) := by decide +kernel
theorem dX5_readCharacter_52 : decode cX5_readCharacter 52 = .ok (.invokevirtual 54, 3) := by decide +kernel
theorem dX5_readCharacter_55 : decode cX5_readCharacter 55 = .ok (.goto 9, 3) := by decide +kernel
theorem dX5_readCharacter_58 : decode cX5_readCharacter 58 = .ok (.aload_n 0, 1) := by decide +kernel
theorem dX5_readCharacter_59 : decode cX5_readCharacter 59 = .ok (.aload_n 1, 1) := by decide +kernel
theorem dX5_readCharacter_60 : decode cX5_readCharacter 60 = .ok (.iload_n 3, 1) := by decide +kernel
theorem dX5_readCharacter_61 : decode cX5_readCharacter 61 = .ok (.invokevirtual 58, 3) := by decide +kernel
theorem dX5_readCharacter_64 : decode cX5_readCharacter 64 = .ok (.istore 4, 2) := by decide +kernel
theorem dX5_readCharacter_66 : decode cX5_readCharacter 66 = .ok (.iload 4, 2) := by decide +kernel
theorem dX5_readCharacter_68 : decode cX5_readCharacter 68 = .ok (.ifCond .ne 21, 3) := by decide +kernel
theorem dX5_readCharacter_71 : decode cX5_readCharacter 71 = .ok (.aload_n 1, 1) := by decide +kernel
theorem dX5_readCharacter_72 : decode cX5_readCharacter 72 = .ok (.getfield 34, 3) := by decide +kernel
theorem dX5_readCharacter_75 : decode cX5_readCharacter 75 = .ok (.iconst (-1), 1) := by decide +kernel
theorem dX5_readCharacter_76 : decode cX5_readCharacter 76 = .ok (.if_icmp .ne 13, 3) := by decide +kernel
theorem dX5_readCharacter_79 : decode cX5_readCharacter 79 = .ok (.aload_n 1, 1) := by decide +kernel
theorem dX5_readCharacter_80 : decode cX5_readCharacter 80 = .ok (.bipush 10, 2) := by decide +kernel
theorem dX5_readCharacter_82 : decode cX5_readCharacter 82 = .ok (.iload_n 2, 1) := by decide +kernel
theorem dX5_readCharacter_83 : decode cX5_readCharacter 83 = .ok (.imul, 1) := by decide +kernel
theorem dX5_readCharacter_84 : decode cX5_readCharacter 84 = .ok (.iconst 1, 1) := by decide +kernel
theorem dX5_readCharacter_85 : decode cX5_readCharacter 85 = .ok (.iadd, 1) := by decide +kernel
theorem dX5_readCharacter_86 : decode cX5_readCharacter 86 = .ok (.putfield 34, 3) := by decide +kernel
theorem dX5_readCharacter_89 : decode cX5_readCharacter 89 = .ok (.return_, 1) := by decide +kernel
theorem dX5_readDigit_0 : decode cX5_readDigit 0 = .ok (.aload_n 1, 1) := by decide +kernel
theorem dX5_readDigit_1 : decode cX5_readDigit 1 = .ok (.getfield 29, 3) := by decide +kernel
theorem dX5_readDigit_4 : decode cX5_readDigit 4 = .ok (.iconst 1, 1) := by decide +kernel
theorem dX5_readDigit_5 : decode cX5_readDigit 5 = .ok (.isub, 1) := by decide +kernel
theorem dX5_readDigit_6 : decode cX5_readDigit 6 = .ok (.istore 4, 2) := by decide +kernel
theorem dX5_readDigit_8 : decode cX5_readDigit 8 = .ok (.aload_n 0, 1) := by decide +kernel
theorem dX5_readDigit_9 : decode cX5_readDigit 9 = .ok (.getfield 22, 3) := by decide +kernel
theorem dX5_readDigit_12 : decode cX5_readDigit 12 = .ok (.bipush 6, 2) := by decide +kernel
theorem dX5_readDigit_14 : decode cX5_readDigit 14 = .ok (.if_icmp .ne 19, 3) := by decide +kernel
theorem dX5_readDigit_17 : decode cX5_readDigit 17 = .ok (.aload_n 1, 1) := by decide +kernel
theorem dX5_readDigit_18 : decode cX5_readDigit 18 = .ok (.bipush 10, 2) := by decide +kernel
theorem dX5_readDigit_20 : decode cX5_readDigit 20 = .ok (.iload_n 2, 1) := by decide +kernel
theorem dX5_readDigit_21 : decode cX5_readDigit 21 = .ok (.bipush 6, 2) := by decide +kernel
theorem dX5_readDigit_23 : decode cX5_readDigit 23 = .ok (.isub, 1) := by decide +kernel
theorem dX5_readDigit_24 : decode cX5_readDigit 24 = .ok (.imul, 1) := by decide +kernel
theorem dX5_readDigit_25 : decode cX5_readDigit 25 = .ok (.iconst 2, 1) := by decide +kernel
theorem dX5_readDigit_26 : decode cX5_readDigit 26 = .ok (.iadd, 1) := by decide +kernel
theorem dX5_readDigit_27 : decode cX5_readDigit 27 = .ok (.putfield 34, 3) := by decide +kernel
theorem dX5_readDigit_30 : decode cX5_readDigit 30 = .ok (.goto 82, 3) := by decide +kernel
theorem dX5_readDigit_33 : decode cX5_readDigit 33 = .ok (.aload_n 0, 1) := by decide +kernel
theorem dX5_readDigit_34 : decode cX5_readDigit 34 = .ok (.getfield 22, 3) := by decide +kernel
theorem dX5_readDigit_37 : decode cX5_readDigit 37 = .ok (.ifCond .le 40, 3) := by decide +kernel
theorem dX5_readDigit_40 : decode cX5_readDigit 40 = .ok (.iload 4, 2) := by decide +kernel
theorem dX5_readDigit_42 : decode cX5_readDigit 42 = .ok (.ifCond .lt 35, 3) := by decide +kernel
theorem dX5_readDigit_45 : decode cX5_readDigit 45 = .ok (.aload_n 1, 1) := by decide +kernel
theorem dX5_readDigit_46 : decode cX5_readDigit 46 = .ok (.getfield 61, 3) := by decide +kernel
theorem dX5_readDigit_49 : decode cX5_readDigit 49 = .ok (.iload 4, 2) := by decide +kernel
theorem dX5_readDigit_51 : decode cX5_readDigit 51 = .ok (.bipush 10, 2) := by decide +kernel
theorem dX5_readDigit_53 : decode cX5_readDigit 53 = .ok (.aload_n 1, 1) := by decide +kernel
theorem dX5_readDigit_54 : decode cX5_readDigit 54 = .ok (.getfield 61, 3) := by decide +kernel
theorem dX5_readDigit_57 : decode cX5_readDigit 57 = .ok (.iload 4, 2) := by decide +kernel
theorem dX5_readDigit_59 : decode cX5_readDigit 59 = .ok (.iaload, 1) := by decide +kernel
theorem dX5_readDigit_60 : decode cX5_readDigit 60 = .ok (.imul, 1) := by decide +kernel
theorem dX5_readDigit_61 : decode cX5_readDigit 61 = .ok (.iload_n 3, 1) := by decide +kernel
theorem dX5_readDigit_62 : decode cX5_readDigit 62 = .ok (.iadd, 1) := by decide +kernel
theorem dX5_readDigit_63 : decode cX5_readDigit 63 = .ok (.iastore, 1) := by decide +kernel
theorem dX5_readDigit_64 : decode cX5_readDigit 64 = .ok (.aload_n 0, 1) := by decide +kernel
theorem dX5_readDigit_65 : decode cX5_readDigit 65 = .ok (.dup, 1) := by decide +kernel
theorem dX5_readDigit_66 : decode cX5_readDigit 66 = .ok (.getfield 22, 3) := by decide +kernel
theorem dX5_readDigit_69 : decode cX5_readDigit 69 = .ok (.iconst 1, 1) := by decide +kernel
theorem dX5_readDigit_70 : decode cX5_readDigit 70 = .ok (.iadd, 1) := by decide +kernel
theorem dX5_readDigit_71 : decode cX5_readDigit 71 = .ok (.putfield 22, 3) := by decide +kernel
theorem dX5_readDigit_74 : decode cX5_readDigit 74 = .ok (.goto 38, 3) := by decide +kernel
theorem dX5_readDigit_77 : decode cX5_readDigit 77 = .ok (.aload_n 0, 1) := by decide +kernel
theorem dX5_readDigit_78 : decode cX5_readDigit 78 = .ok (.getfield 25, 3) := by decide +kernel
theorem dX5_readDigit_81 : decode cX5_readDigit 81 = .ok (.ifCond .eq 21, 3) := by decide +kernel
theorem dX5_readDigit_84 : decode cX5_readDigit 84 = .ok (.aload_n 1, 1) := by decide +kernel
theorem dX5_readDigit_85 : decode cX5_readDigit 85 = .ok (.iload_n 3, 1) := by decide +kernel
theorem dX5_readDigit_86 : decode cX5_readDigit 86 = .ok (.invokevirtual 64, 3) := by decide +kernel
theorem dX5_readDigit_89 : decode cX5_readDigit 89 = .ok (.aload_n 0, 1) := by decide +kernel
theorem dX5_readDigit_90 : decode cX5_readDigit 90 = .ok (.iconst 0, 1) := by decide +kernel
theorem dX5_readDigit_91 : decode cX5_readDigit 91 = .ok (.putfield 25, 3) := by decide +kernel
theorem dX5_readDigit_94 : decode cX5_readDigit 94 = .ok (.aload_n 0, 1) := by decide +kernel
theorem dX5_readDigit_95 : decode cX5_readDigit 95 = .ok (.iconst 1, 1) := by decide +kernel
theorem dX5_readDigit_96 : decode cX5_readDigit 96 = .ok (.putfield 22, 3) := by decide +kernel
theorem dX5_readDigit_99 : decode cX5_readDigit 99 = .ok (.goto 13, 3) := by decide +kernel
theorem dX5_readDigit_102 : decode cX5_readDigit 102 = .ok (.aload_n 1, 1) := by decide +kernel
theorem dX5_readDigit_103 : decode cX5_readDigit 103 = .ok (.bipush 10, 2) := by decide +kernel
theorem dX5_readDigit_105 : decode cX5_readDigit 105 = .ok (.iload_n 2, 1) := by decide +kernel
theorem dX5_readDigit_106 : decode cX5_readDigit 106 = .ok (.imul, 1) := by decide +kernel
theorem dX5_readDigit_107 : decode cX5_readDigit 107 = .ok (.iconst 1, 1) := by decide +kernel
theorem dX5_readDigit_108 : decode cX5_readDigit 108 = .ok (.iadd, 1) := by decide +kernel
theorem dX5_readDigit_109 : decode cX5_readDigit 109 = .ok (.putfield 34, 3) := by decide +kernel
theorem dX5_readDigit_112 : decode cX5_readDigit 112 = .ok (.return_, 1) := by decide +kernel
theorem dX5_readUnit_0 : decode cX5_readUnit 0 = .ok (.aload_n 1, 1) := by decide +kernel
theorem dX5_readUnit_1 : decode cX5_readUnit 1 = .ok (.getfield 47, 3) := by decide +kernel
theorem dX5_readUnit_4 : decode cX5_readUnit 4 = .ok (.iload_n 2, 1) := by decide +kernel
theorem dX5_readUnit_5 : decode cX5_readUnit 5 = .ok (.iaload, 1) := by decide +kernel
theorem dX5_readUnit_6 : decode cX5_readUnit 6 = .ok (.istore_n 3, 1) := by decide +kernel
theorem dX5_readUnit_7 : decode cX5_readUnit 7 = .ok (.iload_n 3, 1) := by decide +kernel
theorem dX5_readUnit_8 : decode cX5_readUnit 8 = .ok (.lookupswitch 144 #[(33, 89), (40, 105), (45, 97), (108, 76), (109, 76), (110, 76), (114, 76), (115, 76)], 76) := by decide +kernel
theorem dX5_readUnit_84 : decode cX5_readUnit 84 = .ok (.aload_n 1, 1) := by decide +kernel
theorem dX5_readUnit_85 : decode cX5_readUnit 85 = .ok (.iload_n 3, 1) := by decide +kernel
theorem dX5_readUnit_86 : decode cX5_readUnit 86 = .ok (.ineg, 1) := by decide +kernel
theorem dX5_readUnit_87 : decode cX5_readUnit 87 = .ok (.invokevirtual 64, 3) := by decide +kernel
theorem dX5_readUnit_90 : decode cX5_readUnit 90 = .ok (.aload_n 0, 1) := by decide +kernel
theorem dX5_readUnit_91 : decode cX5_readUnit 91 = .ok (.iconst 0, 1) := by decide +kernel
theorem dX5_readUnit_92 : decode cX5_readUnit 92 = .ok (.putfield 25, 3) := by decide +kernel
theorem dX5_readUnit_95 : decode cX5_readUnit 95 = .ok (.iconst 1, 1) := by decide +kernel
theorem dX5_readUnit_96 : decode cX5_readUnit 96 = .ok (.ireturn, 1) := by decide +kernel
theorem dX5_readUnit_97 : decode cX5_readUnit 97 = .ok (.aload_n 0, 1) := by decide +kernel
theorem dX5_readUnit_98 : decode cX5_readUnit 98 = .ok (.bipush 33, 2) := by decide +kernel
theorem dX5_readUnit_100 : decode cX5_readUnit 100 = .ok (.invokevirtual 68, 3) := by decide +kernel
theorem dX5_readUnit_103 : decode cX5_readUnit 103 = .ok (.iconst 1, 1) := by decide +kernel
theorem dX5_readUnit_104 : decode cX5_readUnit 104 = .ok (.ireturn, 1) := by decide +kernel
theorem dX5_readUnit_105 : decode cX5_readUnit 105 = .ok (.aload_n 0, 1) := by decide +kernel
theorem dX5_readUnit_106 : decode cX5_readUnit 106 = .ok (.bipush 126, 2) := by decide +kernel
theorem dX5_readUnit_108 : decode cX5_readUnit 108 = .ok (.invokevirtual 68, 3) := by decide +kernel
theorem dX5_readUnit_111 : decode cX5_readUnit 111 = .ok (.iconst 1, 1) := by decide +kernel
theorem dX5_readUnit_112 : decode cX5_readUnit 112 = .ok (.ireturn, 1) := by decide +kernel
theorem dX5_readUnit_113 : decode cX5_readUnit 113 = .ok (.aload_n 0, 1) := by decide +kernel
theorem dX5_readUnit_114 : decode cX5_readUnit 114 = .ok (.getfield 19, 3) := by decide +kernel
theorem dX5_readUnit_117 : decode cX5_readUnit 117 = .ok (.bipush 8, 2) := by decide +kernel
theorem dX5_readUnit_119 : decode cX5_readUnit 119 = .ok (.if_icmp .lt 15, 3) := by decide +kernel
theorem dX5_readUnit_122 : decode cX5_readUnit 122 = .ok (.aload_n 1, 1) := by decide +kernel
theorem dX5_readUnit_123 : decode cX5_readUnit 123 = .ok (.bipush 10, 2) := by decide +kernel
theorem dX5_readUnit_125 : decode cX5_readUnit 125 = .ok (.iload_n 2, 1) := by decide +kernel
theorem dX5_readUnit_126 : decode cX5_readUnit 126 = .ok (.imul, 1) := by decide +kernel
theorem dX5_readUnit_127 : decode cX5_readUnit 127 = .ok (.iconst 3, 1) := by decide +kernel
theorem dX5_readUnit_128 : decode cX5_readUnit 128 = .ok (.iadd, 1) := by decide +kernel
theorem dX5_readUnit_129 : decode cX5_readUnit 129 = .ok (.putfield 34, 3) := by decide +kernel
theorem dX5_readUnit_132 : decode cX5_readUnit 132 = .ok (.iconst 0, 1) := by decide +kernel
theorem dX5_readUnit_133 : decode cX5_readUnit 133 = .ok (.ireturn, 1) := by decide +kernel
theorem dX5_readUnit_134 : decode cX5_readUnit 134 = .ok (.aload_n 0, 1) := by decide +kernel
theorem dX5_readUnit_135 : decode cX5_readUnit 135 = .ok (.dup, 1) := by decide +kernel
theorem dX5_readUnit_136 : decode cX5_readUnit 136 = .ok (.getfield 19, 3) := by decide +kernel
theorem dX5_readUnit_139 : decode cX5_readUnit 139 = .ok (.iconst 1, 1) := by decide +kernel
theorem dX5_readUnit_140 : decode cX5_readUnit 140 = .ok (.iadd, 1) := by decide +kernel
theorem dX5_readUnit_141 : decode cX5_readUnit 141 = .ok (.putfield 19, 3) := by decide +kernel
theorem dX5_readUnit_144 : decode cX5_readUnit 144 = .ok (.aload_n 0, 1) := by decide +kernel
theorem dX5_readUnit_145 : decode cX5_readUnit 145 = .ok (.bipush 40, 2) := by decide +kernel
theorem dX5_readUnit_147 : decode cX5_readUnit 147 = .ok (.invokevirtual 68, 3) := by decide +kernel
theorem dX5_readUnit_150 : decode cX5_readUnit 150 = .ok (.iconst 1, 1) := by decide +kernel
theorem dX5_readUnit_151 : decode cX5_readUnit 151 = .ok (.ireturn, 1) := by decide +kernel
theorem dX5_readUnit_152 : decode cX5_readUnit 152 = .ok (.iconst 0, 1) := by decide +kernel
theorem dX5_readUnit_153 : decode cX5_readUnit 153 = .ok (.ireturn, 1) := by decide +kernel
theorem dX5_readBehindUnit_0 : decode cX5_readBehindUnit 0 = .ok (.iload_n 2, 1) := by decide +kernel
theorem dX5_readBehindUnit_1 : decode cX5_readBehindUnit 1 = .ok (.bipush 41, 2) := by decide +kernel
theorem dX5_readBehindUnit_3 : decode cX5_readBehindUnit 3 = .ok (.if_icmp .ne 9, 3) := by decide +kernel
theorem dX5_readBehindUnit_6 : decode cX5_readBehindUnit 6 = .ok (.aload_n 0, 1) := by decide +kernel
theorem dX5_readBehindUnit_7 : decode cX5_readBehindUnit 7 = .ok (.aload_n 1, 1) := by decide +kernel
theorem dX5_readBehindUnit_8 : decode cX5_readBehindUnit 8 = .ok (.invokevirtual 71, 3) := by decide +kernel
theorem dX5_readBehindUnit_11 : decode cX5_readBehindUnit 11 = .ok (.ireturn, 1) := by decide +kernel
theorem dX5_readBehindUnit_12 : decode cX5_readBehindUnit 12 = .ok (.iload_n 2, 1) := by decide +kernel
theorem dX5_readBehindUnit_13 : decode cX5_readBehindUnit 13 = .ok (.invokestatic 75, 3) := by decide +kernel
theorem dX5_readBehindUnit_16 : decode cX5_readBehindUnit 16 = .ok (.istore_n 3, 1) := by decide +kernel
theorem dX5_readBehindUnit_17 : decode cX5_readBehindUnit 17 = .ok (.iload_n 3, 1) := by decide +kernel
theorem dX5_readBehindUnit_18 : decode cX5_readBehindUnit 18 = .ok (.ifCond .eq 9, 3) := by decide +kernel
theorem dX5_readBehindUnit_21 : decode cX5_readBehindUnit 21 = .ok (.iload_n 3, 1) := by decide +kernel
theorem dX5_readBehindUnit_22 : decode cX5_readBehindUnit 22 = .ok (.bipush 6, 2) := by decide +kernel
theorem dX5_readBehindUnit_24 : decode cX5_readBehindUnit 24 = .ok (.if_icmp .ne 5, 3) := by decide +kernel
theorem dX5_readBehindUnit_27 : decode cX5_readBehindUnit 27 = .ok (.iconst 0, 1) := by decide +kernel
theorem dX5_readBehindUnit_28 : decode cX5_readBehindUnit 28 = .ok (.ireturn, 1) := by decide +kernel
theorem dX5_readBehindUnit_29 : decode cX5_readBehindUnit 29 = .ok (.aload_n 0, 1) := by decide +kernel
theorem dX5_readBehindUnit_30 : decode cX5_readBehindUnit 30 = .ok (.aload_n 1, 1) := by decide +kernel
theorem dX5_readBehindUnit_31 : decode cX5_readBehindUnit 31 = .ok (.iload_n 3, 1) := by decide +kernel
theorem dX5_readBehindUnit_32 : decode cX5_readBehindUnit 32 = .ok (.iconst 3, 1) := by decide +kernel
theorem dX5_readBehindUnit_33 : decode cX5_readBehindUnit 33 = .ok (.if_icmp .ne 9, 3) := by decide +kernel
theorem dX5_readBehindUnit_36 : decode cX5_readBehindUnit 36 = .ok (.iload_n 3, 1) := by decide +kernel
theorem dX5_readBehindUnit_37 : decode cX5_readBehindUnit 37 = .ok (.iconst 1, 1) := by decide +kernel
theorem dX5_readBehindUnit_38 : decode cX5_readBehindUnit 38 = .ok (.iadd, 1) := by decide +kernel
theorem dX5_readBehindUnit_39 : decode cX5_readBehindUnit 39 = .ok (.goto 4, 3) := by decide +kernel
theorem dX5_readBehindUnit_42 : decode cX5_readBehindUnit 42 = .ok (.iload_n 3, 1) := by decide +kernel
theorem dX5_readBehindUnit_43 : decode cX5_readBehindUnit 43 = .ok (.invokevirtual 44, 3) := by decide +kernel
theorem dX5_readBehindUnit_46 : decode cX5_readBehindUnit 46 = .ok (.iload_n 3, 1) := by decide +kernel
theorem dX5_readBehindUnit_47 : decode cX5_readBehindUnit 47 = .ok (.iconst 3, 1) := by decide +kernel
theorem dX5_readBehindUnit_48 : decode cX5_readBehindUnit 48 = .ok (.if_icmp .ne 13, 3) := by decide +kernel
theorem dX5_readBehindUnit_51 : decode cX5_readBehindUnit 51 = .ok (.aload_n 0, 1) := by decide +kernel
theorem dX5_readBehindUnit_52 : decode cX5_readBehindUnit 52 = .ok (.invokevirtual 79, 3) := by decide +kernel
theorem dX5_readBehindUnit_55 : decode cX5_readBehindUnit 55 = .ok (.iconst 3, 1) := by decide +kernel
theorem dX5_readBehindUnit_56 : decode cX5_readBehindUnit 56 = .ok (.if_icmp .ne 5, 3) := by decide +kernel
theorem dX5_readBehindUnit_59 : decode cX5_readBehindUnit 59 = .ok (.iconst 0, 1) := by decide +kernel
theorem dX5_readBehindUnit_60 : decode cX5_readBehindUnit 60 = .ok (.ireturn, 1) := by decide +kernel
theorem dX5_readBehindUnit_61 : decode cX5_readBehindUnit 61 = .ok (.aload_n 0, 1) := by decide +kernel
theorem dX5_readBehindUnit_62 : decode cX5_readBehindUnit 62 = .ok (.iload_n 2, 1) := by decide +kernel
theorem dX5_readBehindUnit_63 : decode cX5_readBehindUnit 63 = .ok (.invokevirtual 68, 3) := by decide +kernel
theorem dX5_readBehindUnit_66 : decode cX5_readBehindUnit 66 = .ok (.aload_n 0, 1) := by decide +kernel
theorem dX5_readBehindUnit_67 : decode cX5_readBehindUnit 67 = .ok (.iconst 1, 1) := by decide +kernel
theorem dX5_readBehindUnit_68 : decode cX5_readBehindUnit 68 = .ok (.putfield 25, 3) := by decide +kernel
theorem dX5_readBehindUnit_71 : decode cX5_readBehindUnit 71 = .ok (.iconst 1, 1) := by decide +kernel
theorem dX5_readBehindUnit_72 : decode cX5_readBehindUnit 72 = .ok (.ireturn, 1) := by decide +kernel
theorem dX5_closeBracket_0 : decode cX5_closeBracket 0 = .ok (.aload_n 0, 1) := by decide +kernel
theorem dX5_closeBracket_1 : decode cX5_closeBracket 1 = .ok (.getfield 19, 3) := by decide +kernel
theorem dX5_closeBracket_4 : decode cX5_closeBracket 4 = .ok (.ifCond .ne 5, 3) := by decide +kernel
theorem dX5_closeBracket_7 : decode cX5_closeBracket 7 = .ok (.iconst 0, 1) := by decide +kernel
theorem dX5_closeBracket_8 : decode cX5_closeBracket 8 = .ok (.ireturn, 1) := by decide +kernel
theorem dX5_closeBracket_9 : decode cX5_closeBracket 9 = .ok (.aload_n 0, 1) := by decide +kernel
theorem dX5_closeBracket_10 : decode cX5_closeBracket 10 = .ok (.aload_n 1, 1) := by decide +kernel
theorem dX5_closeBracket_11 : decode cX5_closeBracket 11 = .ok (.iconst 1, 1) := by decide +kernel
theorem dX5_closeBracket_12 : decode cX5_closeBracket 12 = .ok (.invokevirtual 44, 3) := by decide +kernel
theorem dX5_closeBracket_15 : decode cX5_closeBracket 15 = .ok (.aload_n 0, 1) := by decide +kernel
theorem dX5_closeBracket_16 : decode cX5_closeBracket 16 = .ok (.dup, 1) := by decide +kernel
theorem dX5_closeBracket_17 : decode cX5_closeBracket 17 = .ok (.getfield 19, 3) := by decide +kernel
theorem dX5_closeBracket_20 : decode cX5_closeBracket 20 = .ok (.iconst 1, 1) := by decide +kernel
theorem dX5_closeBracket_21 : decode cX5_closeBracket 21 = .ok (.isub, 1) := by decide +kernel
theorem dX5_closeBracket_22 : decode cX5_closeBracket 22 = .ok (.putfield 19, 3) := by decide +kernel
theorem dX5_closeBracket_25 : decode cX5_closeBracket 25 = .ok (.aload_n 0, 1) := by decide +kernel
theorem dX5_closeBracket_26 : decode cX5_closeBracket 26 = .ok (.getfield 15, 3) := by decide +kernel
theorem dX5_closeBracket_29 : decode cX5_closeBracket 29 = .ok (.ifCond .le 13, 3) := by decide +kernel
theorem dX5_closeBracket_32 : decode cX5_closeBracket 32 = .ok (.aload_n 0, 1) := by decide +kernel
theorem dX5_closeBracket_33 : decode cX5_closeBracket 33 = .ok (.dup, 1) := by decide +kernel
theorem dX5_closeBracket_34 : decode cX5_closeBracket 34 = .ok (.getfield 15, 3) := by decide +kernel
theorem dX5_closeBracket_37 : decode cX5_closeBracket 37 = .ok (.iconst 1, 1) := by decide +kernel
theorem dX5_closeBracket_38 : decode cX5_closeBracket 38 = .ok (.isub, 1) := by decide +kernel
theorem dX5_closeBracket_39 : decode cX5_closeBracket 39 = .ok (.putfield 15, 3) := by decide +kernel
theorem dX5_closeBracket_42 : decode cX5_closeBracket 42 = .ok (.iconst 1, 1) := by decide +kernel
theorem dX5_closeBracket_43 : decode cX5_closeBracket 43 = .ok (.ireturn, 1) := by decide +kernel
theorem dX5_hold_0 : decode cX5_hold 0 = .ok (.aload_n 0, 1) := by decide +kernel
theorem dX5_hold_1 : decode cX5_hold 1 = .ok (.getfield 15, 3) := by decide +kernel
theorem dX5_hold_4 : decode cX5_hold 4 = .ok (.bipush 40, 2) := by decide +kernel
theorem dX5_hold_6 : decode cX5_hold 6 = .ok (.if_icmp .ge 23, 3) := by decide +kernel
theorem dX5_hold_9 : decode cX5_hold 9 = .ok (.aload_n 0, 1) := by decide +kernel
theorem dX5_hold_10 : decode cX5_hold 10 = .ok (.getfield 9, 3) := by decide +kernel
theorem dX5_hold_13 : decode cX5_hold 13 = .ok (.aload_n 0, 1) := by decide +kernel
theorem dX5_hold_14 : decode cX5_hold 14 = .ok (.getfield 15, 3) := by decide +kernel
theorem dX5_hold_17 : decode cX5_hold 17 = .ok (.iload_n 1, 1) := by decide +kernel
theorem dX5_hold_18 : decode cX5_hold 18 = .ok (.iastore, 1) := by decide +kernel
theorem dX5_hold_19 : decode cX5_hold 19 = .ok (.aload_n 0, 1) := by decide +kernel
theorem dX5_hold_20 : decode cX5_hold 20 = .ok (.dup, 1) := by decide +kernel
theorem dX5_hold_21 : decode cX5_hold 21 = .ok (.getfield 15, 3) := by decide +kernel
theorem dX5_hold_24 : decode cX5_hold 24 = .ok (.iconst 1, 1) := by decide +kernel
theorem dX5_hold_25 : decode cX5_hold 25 = .ok (.iadd, 1) := by decide +kernel
theorem dX5_hold_26 : decode cX5_hold 26 = .ok (.putfield 15, 3) := by decide +kernel
theorem dX5_hold_29 : decode cX5_hold 29 = .ok (.return_, 1) := by decide +kernel
theorem dX5_release_0 : decode cX5_release 0 = .ok (.aload_n 0, 1) := by decide +kernel
theorem dX5_release_1 : decode cX5_release 1 = .ok (.getfield 15, 3) := by decide +kernel
theorem dX5_release_4 : decode cX5_release 4 = .ok (.ifCond .le 48, 3) := by decide +kernel
theorem dX5_release_7 : decode cX5_release 7 = .ok (.aload_n 0, 1) := by decide +kernel
theorem dX5_release_8 : decode cX5_release 8 = .ok (.getfield 9, 3) := by decide +kernel
theorem dX5_release_11 : decode cX5_release 11 = .ok (.aload_n 0, 1) := by decide +kernel
theorem dX5_release_12 : decode cX5_release 12 = .ok (.getfield 15, 3) := by decide +kernel
theorem dX5_release_15 : decode cX5_release 15 = .ok (.iconst 1, 1) := by decide +kernel
theorem dX5_release_16 : decode cX5_release 16 = .ok (.isub, 1) := by decide +kernel
theorem dX5_release_17 : decode cX5_release 17 = .ok (.iaload, 1) := by decide +kernel
theorem dX5_release_18 : decode cX5_release 18 = .ok (.invokestatic 75, 3) := by decide +kernel
theorem dX5_release_21 : decode cX5_release 21 = .ok (.iload_n 2, 1) := by decide +kernel
theorem dX5_release_22 : decode cX5_release 22 = .ok (.if_icmp .lt 30, 3) := by decide +kernel
theorem dX5_release_25 : decode cX5_release 25 = .ok (.aload_n 0, 1) := by decide +kernel
theorem dX5_release_26 : decode cX5_release 26 = .ok (.dup, 1) := by decide +kernel
theorem dX5_release_27 : decode cX5_release 27 = .ok (.getfield 15, 3) := by decide +kernel
theorem dX5_release_30 : decode cX5_release 30 = .ok (.iconst 1, 1) := by decide +kernel
theorem dX5_release_31 : decode cX5_release 31 = .ok (.isub, 1) := by decide +kernel
theorem dX5_release_32 : decode cX5_release 32 = .ok (.putfield 15, 3) := by decide +kernel
theorem dX5_release_35 : decode cX5_release 35 = .ok (.aload_n 1, 1) := by decide +kernel
theorem dX5_release_36 : decode cX5_release 36 = .ok (.aload_n 0, 1) := by decide +kernel
theorem dX5_release_37 : decode cX5_release 37 = .ok (.getfield 9, 3) := by decide +kernel
theorem dX5_release_40 : decode cX5_release 40 = .ok (.aload_n 0, 1) := by decide +kernel
theorem dX5_release_41 : decode cX5_release 41 = .ok (.getfield 15, 3) := by decide +kernel
theorem dX5_release_44 : decode cX5_release 44 = .ok (.iaload, 1) := by decide +kernel
theorem dX5_release_45 : decode cX5_release 45 = .ok (.ineg, 1) := by decide +kernel
theorem dX5_release_46 : decode cX5_release 46 = .ok (.invokevirtual 64, 3) := by decide +kernel
theorem dX5_release_49 : decode cX5_release 49 = .ok (.goto (-49), 3) := by decide +kernel
theorem dX5_release_52 : decode cX5_release 52 = .ok (.return_, 1) := by decide +kernel
theorem dX5_lastRank_0 : decode cX5_lastRank 0 = .ok (.aload_n 0, 1) := by decide +kernel
theorem dX5_lastRank_1 : decode cX5_lastRank 1 = .ok (.getfield 15, 3) := by decide +kernel
theorem dX5_lastRank_4 : decode cX5_lastRank 4 = .ok (.ifCond .le 20, 3) := by decide +kernel
theorem dX5_lastRank_7 : decode cX5_lastRank 7 = .ok (.aload_n 0, 1) := by decide +kernel
theorem dX5_lastRank_8 : decode cX5_lastRank 8 = .ok (.getfield 9, 3) := by decide +kernel
theorem dX5_lastRank_11 : decode cX5_lastRank 11 = .ok (.aload_n 0, 1) := by decide +kernel
theorem dX5_lastRank_12 : decode cX5_lastRank 12 = .ok (.getfield 15, 3) := by decide +kernel
theorem dX5_lastRank_15 : decode cX5_lastRank 15 = .ok (.iconst 1, 1) := by decide +kernel
theorem dX5_lastRank_16 : decode cX5_lastRank 16 = .ok (.isub, 1) := by decide +kernel
theorem dX5_lastRank_17 : decode cX5_lastRank 17 = .ok (.iaload, 1) := by decide +kernel
theorem dX5_lastRank_18 : decode cX5_lastRank 18 = .ok (.invokestatic 75, 3) := by decide +kernel
theorem dX5_lastRank_21 : decode cX5_lastRank 21 = .ok (.goto 4, 3) := by decide +kernel
theorem dX5_lastRank_24 : decode cX5_lastRank 24 = .ok (.iconst 0, 1) := by decide +kernel
theorem dX5_lastRank_25 : decode cX5_lastRank 25 = .ok (.ireturn, 1) := by decide +kernel
theorem dX5_rankOf_0 : decode cX5_rankOf 0 = .ok (.iload_n 0, 1) := by decide +kernel
theorem dX5_rankOf_1 : decode cX5_rankOf 1 = .ok (.lookupswitch 112 #[(33, 109), (38, 101), (42, 107), (43, 105), (45, 105), (47, 107), (60, 103), (61, 103), (62, 103), (124, 99), (126, 109)], 99) := by decide +kernel
theorem dX5_rankOf_100 : decode cX5_rankOf 100 = .ok (.iconst 1, 1) := by decide +kernel
theorem dX5_rankOf_101 : decode cX5_rankOf 101 = .ok (.ireturn, 1) := by decide +kernel
theorem dX5_rankOf_102 : decode cX5_rankOf 102 = .ok (.iconst 2, 1) := by decide +kernel
theorem dX5_rankOf_103 : decode cX5_rankOf 103 = .ok (.ireturn, 1) := by decide +kernel
theorem dX5_rankOf_104 : decode cX5_rankOf 104 = .ok (.iconst 3, 1) := by decide +kernel
theorem dX5_rankOf_105 : decode cX5_rankOf 105 = .ok (.ireturn, 1) := by decide +kernel
theorem dX5_rankOf_106 : decode cX5_rankOf 106 = .ok (.iconst 4, 1) := by decide +kernel
theorem dX5_rankOf_107 : decode cX5_rankOf 107 = .ok (.ireturn, 1) := by decide +kernel
theorem dX5_rankOf_108 : decode cX5_rankOf 108 = .ok (.iconst 5, 1) := by decide +kernel
theorem dX5_rankOf_109 : decode cX5_rankOf 109 = .ok (.ireturn, 1) := by decide +kernel
theorem dX5_rankOf_110 : decode cX5_rankOf 110 = .ok (.bipush 6, 2) := by decide +kernel
theorem dX5_rankOf_112 : decode cX5_rankOf 112 = .ok (.ireturn, 1) := by decide +kernel
theorem dX5_rankOf_113 : decode cX5_rankOf 113 = .ok (.iconst 0, 1) := by decide +kernel
theorem dX5_rankOf_114 : decode cX5_rankOf 114 = .ok (.ireturn, 1) := by decide +kernel
theorem dX8_init_0 : decode cX8_init 0 = .ok (.aload_n 0, 1) := by decide +kernel
theorem dX8_init_1 : decode cX8_init 1 = .ok (.invokespecial 3, 3) := by decide +kernel
theorem dX8_init_4 : decode cX8_init 4 = .ok (.aload_n 0, 1) := by decide +kernel
theorem dX8_init_5 : decode cX8_init 5 = .ok (.iconst 5, 1) := by decide +kernel
theorem dX8_init_6 : decode cX8_init 6 = .ok (.newarray .int, 2) := by decide +kernel
theorem dX8_init_8 : decode cX8_init 8 = .ok (.putfield 9, 3) := by decide +kernel
theorem dX8_init_11 : decode cX8_init 11 = .ok (.aload_n 0, 1) := by decide +kernel
theorem dX8_init_12 : decode cX8_init 12 = .ok (.iconst 3, 1) := by decide +kernel
theorem dX8_init_13 : decode cX8_init 13 = .ok (.newarray .int, 2) := by decide +kernel
theorem dX8_init_15 : decode cX8_init 15 = .ok (.putfield 15, 3) := by decide +kernel
theorem dX8_init_18 : decode cX8_init 18 = .ok (.aload_n 0, 1) := by decide +kernel
theorem dX8_init_19 : decode cX8_init 19 = .ok (.bipush 15, 2) := by decide +kernel
theorem dX8_init_21 : decode cX8_init 21 = .ok (.newarray .int, 2) := by decide +kernel
theorem dX8_init_23 : decode cX8_init 23 = .ok (.putfield 18, 3) := by decide +kernel
theorem dX8_init_26 : decode cX8_init 26 = .ok (.aload_n 0, 1) := by decide +kernel
theorem dX8_init_27 : decode cX8_init 27 = .ok (.bipush 15, 2) := by decide +kernel
theorem dX8_init_29 : decode cX8_init 29 = .ok (.newarray .int, 2) := by decide +kernel
theorem dX8_init_31 : decode cX8_init 31 = .ok (.putfield 21, 3) := by decide +kernel
theorem dX8_init_34 : decode cX8_init 34 = .ok (.aload_n 0, 1) := by decide +kernel
theorem dX8_init_35 : decode cX8_init 35 = .ok (.bipush 15, 2) := by decide +kernel
theorem dX8_init_37 : decode cX8_init 37 = .ok (.newarray .int, 2) := by decide +kernel
theorem dX8_init_39 : decode cX8_init 39 = .ok (.putfield 24, 3) := by decide +kernel
theorem dX8_init_42 : decode cX8_init 42 = .ok (.aload_n 0, 1) := by decide +kernel
theorem dX8_init_43 : decode cX8_init 43 = .ok (.iconst 3, 1) := by decide +kernel
theorem dX8_init_44 : decode cX8_init 44 = .ok (.anewarray 27, 3) := by decide +kernel
theorem dX8_init_47 : decode cX8_init 47 = .ok (.putfield 29, 3) := by decide +kernel
theorem dX8_init_50 : decode cX8_init 50 = .ok (.aload_n 0, 1) := by decide +kernel
theorem dX8_init_51 : decode cX8_init 51 = .ok (.iconst 0, 1) := by decide +kernel
theorem dX8_init_52 : decode cX8_init 52 = .ok (.putfield 33, 3) := by decide +kernel
theorem dX8_init_55 : decode cX8_init 55 = .ok (.aload_n 0, 1) := by decide +kernel
theorem dX8_init_56 : decode cX8_init 56 = .ok (.iconst 0, 1) := by decide +kernel
theorem dX8_init_57 : decode cX8_init 57 = .ok (.putfield 37, 3) := by decide +kernel
theorem dX8_init_60 : decode cX8_init 60 = .ok (.aload_n 0, 1) := by decide +kernel
theorem dX8_init_61 : decode cX8_init 61 = .ok (.bipush 10, 2) := by decide +kernel
theorem dX8_init_63 : decode cX8_init 63 = .ok (.putfield 40, 3) := by decide +kernel
theorem dX8_init_66 : decode cX8_init 66 = .ok (.aload_n 0, 1) := by decide +kernel
theorem dX8_init_67 : decode cX8_init 67 = .ok (.iconst 0, 1) := by decide +kernel
theorem dX8_init_68 : decode cX8_init 68 = .ok (.putfield 43, 3) := by decide +kernel
theorem dX8_init_71 : decode cX8_init 71 = .ok (.aload_n 0, 1) := by decide +kernel
theorem dX8_init_72 : decode cX8_init 72 = .ok (.bipush 40, 2) := by decide +kernel
theorem dX8_init_74 : decode cX8_init 74 = .ok (.putfield 46, 3) := by decide +kernel
theorem dX8_init_77 : decode cX8_init 77 = .ok (.aload_n 0, 1) := by decide +kernel
theorem dX8_init_78 : decode cX8_init 78 = .ok (.iconst 0, 1) := by decide +kernel
theorem dX8_init_79 : decode cX8_init 79 = .ok (.putfield 49, 3) := by decide +kernel
theorem dX8_init_82 : decode cX8_init 82 = .ok (.iconst 0, 1) := by decide +kernel
theorem dX8_init_83 : decode cX8_init 83 = .ok (.istore_n 1, 1) := by decide +kernel
theorem dX8_init_84 : decode cX8_init 84 = .ok (.iload_n 1, 1) := by decide +kernel
theorem dX8_init_85 : decode cX8_init 85 = .ok (.iconst 3, 1) := by decide +kernel
theorem dX8_init_86 : decode cX8_init 86 = .ok (.if_icmp .ge 22, 3) := by decide +kernel
theorem dX8_init_89 : decode cX8_init 89 = .ok (.aload_n 0, 1) := by decide +kernel
theorem dX8_init_90 : decode cX8_init 90 = .ok (.getfield 29, 3) := by decide +kernel
theorem dX8_init_93 : decode cX8_init 93 = .ok (.iload_n 1, 1) := by decide +kernel
theorem dX8_init_94 : decode cX8_init 94 = .ok (.new 27, 3) := by decide +kernel
theorem dX8_init_97 : decode cX8_init 97 = .ok (.dup, 1) := by decide +kernel
theorem dX8_init_98 : decode cX8_init 98 = .ok (.invokespecial 52, 3) := by decide +kernel
theorem dX8_init_101 : decode cX8_init 101 = .ok (.aastore, 1) := by decide +kernel
theorem dX8_init_102 : decode cX8_init 102 = .ok (.iinc 1 1, 3) := by decide +kernel
theorem dX8_init_105 : decode cX8_init 105 = .ok (.goto (-21), 3) := by decide +kernel
theorem dX8_init_108 : decode cX8_init 108 = .ok (.return_, 1) := by decide +kernel
theorem dX8_take_0 : decode cX8_take 0 = .ok (.aload_n 0, 1) := by decide +kernel
theorem dX8_take_1 : decode cX8_take 1 = .ok (.aload_n 1, 1) := by decide +kernel
theorem dX8_take_2 : decode cX8_take 2 = .ok (.invokevirtual 53, 3) := by decide +kernel
theorem dX8_take_5 : decode cX8_take 5 = .ok (.aload_n 1, 1) := by decide +kernel
theorem dX8_take_6 : decode cX8_take 6 = .ok (.getfield 24, 3) := by decide +kernel
theorem dX8_take_9 : decode cX8_take 9 = .ok (.iconst 0, 1) := by decide +kernel
theorem dX8_take_10 : decode cX8_take 10 = .ok (.aload_n 0, 1) := by decide +kernel
theorem dX8_take_11 : decode cX8_take 11 = .ok (.getfield 24, 3) := by decide +kernel
theorem dX8_take_14 : decode cX8_take 14 = .ok (.iconst 0, 1) := by decide +kernel
theorem dX8_take_15 : decode cX8_take 15 = .ok (.bipush 15, 2) := by decide +kernel
theorem dX8_take_17 : decode cX8_take 17 = .ok (.invokestatic 57, 3) := by decide +kernel
theorem dX8_take_20 : decode cX8_take 20 = .ok (.iconst 0, 1) := by decide +kernel
theorem dX8_take_21 : decode cX8_take 21 = .ok (.istore_n 2, 1) := by decide +kernel
theorem dX8_take_22 : decode cX8_take 22 = .ok (.iload_n 2, 1) := by decide +kernel
theorem dX8_take_23 : decode cX8_take 23 = .ok (.iconst 3, 1) := by decide +kernel
theorem dX8_take_24 : decode cX8_take 24 = .ok (.if_icmp .ge 24, 3) := by decide +kernel
theorem dX8_take_27 : decode cX8_take 27 = .ok (.aload_n 0, 1) := by decide +kernel
theorem dX8_take_28 : decode cX8_take 28 = .ok (.getfield 29, 3) := by decide +kernel
theorem dX8_take_31 : decode cX8_take 31 = .ok (.iload_n 2, 1) := by decide +kernel
theorem dX8_take_32 : decode cX8_take 32 = .ok (.aaload, 1) := by decide +kernel
theorem dX8_take_33 : decode cX8_take 33 = .ok (.aload_n 1, 1) := by decide +kernel
theorem dX8_take_34 : decode cX8_take 34 = .ok (.getfield 29, 3) := by decide +kernel
theorem dX8_take_37 : decode cX8_take 37 = .ok (.iload_n 2, 1) := by decide +kernel
theorem dX8_take_38 : decode cX8_take 38 = .ok (.aaload, 1) := by decide +kernel
theorem dX8_take_39 : decode cX8_take 39 = .ok (.invokevirtual 63, 3) := by decide +kernel
theorem dX8_take_42 : decode cX8_take 42 = .ok (.iinc 2 1, 3) := by decide +kernel
theorem dX8_take_45 : decode cX8_take 45 = .ok (.goto (-23), 3) := by decide +kernel
theorem dX8_take_48 : decode cX8_take 48 = .ok (.aload_n 0, 1) := by decide +kernel
theorem dX8_take_49 : decode cX8_take 49 = .ok (.aload_n 1, 1) := by decide +kernel
theorem dX8_take_50 : decode cX8_take 50 = .ok (.getfield 43, 3) := by decide +kernel
theorem dX8_take_53 : decode cX8_take 53 = .ok (.putfield 43, 3) := by decide +kernel
theorem dX8_take_56 : decode cX8_take 56 = .ok (.aload_n 0, 1) := by decide +kernel
theorem dX8_take_57 : decode cX8_take 57 = .ok (.aload_n 1, 1) := by decide +kernel
theorem dX8_take_58 : decode cX8_take 58 = .ok (.getfield 46, 3) := by decide +kernel
theorem dX8_take_61 : decode cX8_take 61 = .ok (.putfield 46, 3) := by decide +kernel
theorem dX8_take_64 : decode cX8_take 64 = .ok (.aload_n 0, 1) := by decide +kernel
theorem dX8_take_65 : decode cX8_take 65 = .ok (.aload_n 1, 1) := by decide +kernel
theorem dX8_take_66 : decode cX8_take 66 = .ok (.getfield 49, 3) := by decide +kernel
theorem dX8_take_69 : decode cX8_take 69 = .ok (.putfield 49, 3) := by decide +kernel
theorem dX8_take_72 : decode cX8_take 72 = .ok (.return_, 1) := by decide +kernel
theorem dX8_takePeople_0 : decode cX8_takePeople 0 = .ok (.aload_n 1, 1) := by decide +kernel
theorem dX8_takePeople_1 : decode cX8_takePeople 1 = .ok (.getfield 9, 3) := by decide +kernel
theorem dX8_takePeople_4 : decode cX8_takePeople 4 = .ok (.iconst 0, 1) := by decide +kernel
theorem dX8_takePeople_5 : decode cX8_takePeople 5 = .ok (.aload_n 0, 1) := by decide +kernel
theorem dX8_takePeople_6 : decode cX8_takePeople 6 = .ok (.getfield 9, 3) := by decide +kernel
theorem dX8_takePeople_9 : decode cX8_takePeople 9 = .ok (.iconst 0, 1) := by decide +kernel
theorem dX8_takePeople_10 : decode cX8_takePeople 10 = .ok (.iconst 5, 1) := by decide +kernel
theorem dX8_takePeople_11 : decode cX8_takePeople 11 = .ok (.invokestatic 57, 3) := by decide +kernel
theorem dX8_takePeople_14 : decode cX8_takePeople 14 = .ok (.aload_n 1, 1) := by decide +kernel
theorem dX8_takePeople_15 : decode cX8_takePeople 15 = .ok (.getfield 15, 3) := by decide +kernel
theorem dX8_takePeople_18 : decode cX8_takePeople 18 = .ok (.iconst 0, 1) := by decide +kernel
theorem dX8_takePeople_19 : decode cX8_takePeople 19 = .ok (.aload_n 0, 1) := by decide +kernel
theorem dX8_takePeople_20 : decode cX8_takePeople 20 = .ok (.getfield 15, 3) := by decide +kernel
theorem dX8_takePeople_23 : decode cX8_takePeople 23 = .ok (.iconst 0, 1) := by decide +kernel
theorem dX8_takePeople_24 : decode cX8_takePeople 24 = .ok (.iconst 3, 1) := by decide +kernel
theorem dX8_takePeople_25 : decode cX8_takePeople 25 = .ok (.invokestatic 57, 3) := by decide +kernel
theorem dX8_takePeople_28 : decode cX8_takePeople 28 = .ok (.aload_n 1, 1) := by decide +kernel
theorem dX8_takePeople_29 : decode cX8_takePeople 29 = .ok (.getfield 18, 3) := by decide +kernel
theorem dX8_takePeople_32 : decode cX8_takePeople 32 = .ok (.iconst 0, 1) := by decide +kernel
theorem dX8_takePeople_33 : decode cX8_takePeople 33 = .ok (.aload_n 0, 1) := by decide +kernel
theorem dX8_takePeople_34 : decode cX8_takePeople 34 = .ok (.getfield 18, 3) := by decide +kernel
theorem dX8_takePeople_37 : decode cX8_takePeople 37 = .ok (.iconst 0, 1) := by decide +kernel
theorem dX8_takePeople_38 : decode cX8_takePeople 38 = .ok (.bipush 15, 2) := by decide +kernel
theorem dX8_takePeople_40 : decode cX8_takePeople 40 = .ok (.invokestatic 57, 3) := by decide +kernel
theorem dX8_takePeople_43 : decode cX8_takePeople 43 = .ok (.aload_n 1, 1) := by decide +kernel
theorem dX8_takePeople_44 : decode cX8_takePeople 44 = .ok (.getfield 21, 3) := by decide +kernel
theorem dX8_takePeople_47 : decode cX8_takePeople 47 = .ok (.iconst 0, 1) := by decide +kernel
theorem dX8_takePeople_48 : decode cX8_takePeople 48 = .ok (.aload_n 0, 1) := by decide +kernel
theorem dX8_takePeople_49 : decode cX8_takePeople 49 = .ok (.getfield 21, 3) := by decide +kernel
theorem dX8_takePeople_52 : decode cX8_takePeople 52 = .ok (.iconst 0, 1) := by decide +kernel
theorem dX8_takePeople_53 : decode cX8_takePeople 53 = .ok (.bipush 15, 2) := by decide +kernel
theorem dX8_takePeople_55 : decode cX8_takePeople 55 = .ok (.invokestatic 57, 3) := by decide +kernel
theorem dX8_takePeople_58 : decode cX8_takePeople 58 = .ok (.aload_n 0, 1) := by decide +kernel
theorem dX8_takePeople_59 : decode cX8_takePeople 59 = .ok (.aload_n 1, 1) := by decide +kernel
theorem dX8_takePeople_60 : decode cX8_takePeople 60 = .ok (.getfield 33, 3) := by decide +kernel
theorem dX8_takePeople_63 : decode cX8_takePeople 63 = .ok (.putfield 33, 3) := by decide +kernel
theorem dX8_takePeople_66 : decode cX8_takePeople 66 = .ok (.aload_n 0, 1) := by decide +kernel
theorem dX8_takePeople_67 : decode cX8_takePeople 67 = .ok (.aload_n 1, 1) := by decide +kernel
theorem dX8_takePeople_68 : decode cX8_takePeople 68 = .ok (.getfield 37, 3) := by decide +kernel
theorem dX8_takePeople_71 : decode cX8_takePeople 71 = .ok (.putfield 37, 3) := by decide +kernel
theorem dX8_takePeople_74 : decode cX8_takePeople 74 = .ok (.aload_n 0, 1) := by decide +kernel
theorem dX8_takePeople_75 : decode cX8_takePeople 75 = .ok (.aload_n 1, 1) := by decide +kernel
theorem dX8_takePeople_76 : decode cX8_takePeople 76 = .ok (.getfield 40, 3) := by decide +kernel
theorem dX8_takePeople_79 : decode cX8_takePeople 79 = .ok (.putfield 40, 3) := by decide +kernel
theorem dX8_takePeople_82 : decode cX8_takePeople 82 = .ok (.iconst 0, 1) := by decide +kernel
theorem dX8_takePeople_83 : decode cX8_takePeople 83 = .ok (.istore_n 2, 1) := by decide +kernel
theorem dX8_takePeople_84 : decode cX8_takePeople 84 = .ok (.iload_n 2, 1) := by decide +kernel
theorem dX8_takePeople_85 : decode cX8_takePeople 85 = .ok (.bipush 15, 2) := by decide +kernel
theorem dX8_takePeople_87 : decode cX8_takePeople 87 = .ok (.if_icmp .ge 16, 3) := by decide +kernel
theorem dX8_takePeople_90 : decode cX8_takePeople 90 = .ok (.aload_n 0, 1) := by decide +kernel
theorem dX8_takePeople_91 : decode cX8_takePeople 91 = .ok (.getfield 24, 3) := by decide +kernel
theorem dX8_takePeople_94 : decode cX8_takePeople 94 = .ok (.iload_n 2, 1) := by decide +kernel
theorem dX8_takePeople_95 : decode cX8_takePeople 95 = .ok (.iconst 0, 1) := by decide +kernel
theorem dX8_takePeople_96 : decode cX8_takePeople 96 = .ok (.iastore, 1) := by decide +kernel
theorem dX8_takePeople_97 : decode cX8_takePeople 97 = .ok (.iinc 2 1, 3) := by decide +kernel
theorem dX8_takePeople_100 : decode cX8_takePeople 100 = .ok (.goto (-16), 3) := by decide +kernel
theorem dX8_takePeople_103 : decode cX8_takePeople 103 = .ok (.return_, 1) := by decide +kernel
theorem dX8_givenBy_0 : decode cX8_givenBy 0 = .ok (.iconst 0, 1) := by decide +kernel
theorem dX8_givenBy_1 : decode cX8_givenBy 1 = .ok (.istore_n 2, 1) := by decide +kernel
theorem dX8_givenBy_2 : decode cX8_givenBy 2 = .ok (.iconst 0, 1) := by decide +kernel
theorem dX8_givenBy_3 : decode cX8_givenBy 3 = .ok (.istore_n 3, 1) := by decide +kernel
theorem dX8_givenBy_4 : decode cX8_givenBy 4 = .ok (.iload_n 3, 1) := by decide +kernel
theorem dX8_givenBy_5 : decode cX8_givenBy 5 = .ok (.iconst 3, 1) := by decide +kernel
theorem dX8_givenBy_6 : decode cX8_givenBy 6 = .ok (.if_icmp .ge 22, 3) := by decide +kernel
theorem dX8_givenBy_9 : decode cX8_givenBy 9 = .ok (.iload_n 2, 1) := by decide +kernel
theorem dX8_givenBy_10 : decode cX8_givenBy 10 = .ok (.aload_n 0, 1) := by decide +kernel
theorem dX8_givenBy_11 : decode cX8_givenBy 11 = .ok (.getfield 24, 3) := by decide +kernel
theorem dX8_givenBy_14 : decode cX8_givenBy 14 = .ok (.iload_n 1, 1) := by decide +kernel
theorem dX8_givenBy_15 : decode cX8_givenBy 15 = .ok (.iconst 3, 1) := by decide +kernel
theorem dX8_givenBy_16 : decode cX8_givenBy 16 = .ok (.imul, 1) := by decide +kernel
theorem dX8_givenBy_17 : decode cX8_givenBy 17 = .ok (.iload_n 3, 1) := by decide +kernel
theorem dX8_givenBy_18 : decode cX8_givenBy 18 = .ok (.iadd, 1) := by decide +kernel
theorem dX8_givenBy_19 : decode cX8_givenBy 19 = .ok (.iaload, 1) := by decide +kernel
theorem dX8_givenBy_20 : decode cX8_givenBy 20 = .ok (.iadd, 1) := by decide +kernel
theorem dX8_givenBy_21 : decode cX8_givenBy 21 = .ok (.istore_n 2, 1) := by decide +kernel
theorem dX8_givenBy_22 : decode cX8_givenBy 22 = .ok (.iinc 3 1, 3) := by decide +kernel
theorem dX8_givenBy_25 : decode cX8_givenBy 25 = .ok (.goto (-21), 3) := by decide +kernel
theorem dX8_givenBy_28 : decode cX8_givenBy 28 = .ok (.iload_n 2, 1) := by decide +kernel
theorem dX8_givenBy_29 : decode cX8_givenBy 29 = .ok (.ireturn, 1) := by decide +kernel
theorem dX8_keptBy_0 : decode cX8_keptBy 0 = .ok (.aload_n 0, 1) := by decide +kernel
theorem dX8_keptBy_1 : decode cX8_keptBy 1 = .ok (.getfield 9, 3) := by decide +kernel
theorem dX8_keptBy_4 : decode cX8_keptBy 4 = .ok (.iload_n 1, 1) := by decide +kernel
theorem dX8_keptBy_5 : decode cX8_keptBy 5 = .ok (.iaload, 1) := by decide +kernel
theorem dX8_keptBy_6 : decode cX8_keptBy 6 = .ok (.aload_n 0, 1) := by decide +kernel
theorem dX8_keptBy_7 : decode cX8_keptBy 7 = .ok (.iload_n 1, 1) := by decide +kernel
theorem dX8_keptBy_8 : decode cX8_keptBy 8 = .ok (.invokevirtual 67, 3) := by decide +kernel
theorem dX8_keptBy_11 : decode cX8_keptBy 11 = .ok (.isub, 1) := by decide +kernel
theorem dX8_keptBy_12 : decode cX8_keptBy 12 = .ok (.ireturn, 1) := by decide +kernel
theorem dX8_givenTo_0 : decode cX8_givenTo 0 = .ok (.iconst 0, 1) := by decide +kernel
theorem dX8_givenTo_1 : decode cX8_givenTo 1 = .ok (.istore_n 2, 1) := by decide +kernel
theorem dX8_givenTo_2 : decode cX8_givenTo 2 = .ok (.iconst 0, 1) := by decide +kernel
theorem dX8_givenTo_3 : decode cX8_givenTo 3 = .ok (.istore_n 3, 1) := by decide +kernel
theorem dX8_givenTo_4 : decode cX8_givenTo 4 = .ok (.iload_n 3, 1) := by decide +kernel
theorem dX8_givenTo_5 : decode cX8_givenTo 5 = .ok (.aload_n 0, 1) := by decide +kernel
theorem dX8_givenTo_6 : decode cX8_givenTo 6 = .ok (.getfield 33, 3) := by decide +kernel
theorem dX8_givenTo_9 : decode cX8_givenTo 9 = .ok (.if_icmp .ge 22, 3) := by decide +kernel
theorem dX8_givenTo_12 : decode cX8_givenTo 12 = .ok (.iload_n 2, 1) := by decide +kernel
theorem dX8_givenTo_13 : decode cX8_givenTo 13 = .ok (.aload_n 0, 1) := by decide +kernel
theorem dX8_givenTo_14 : decode cX8_givenTo 14 = .ok (.getfield 24, 3) := by decide +kernel
theorem dX8_givenTo_17 : decode cX8_givenTo 17 = .ok (.iload_n 3, 1) := by decide +kernel
theorem dX8_givenTo_18 : decode cX8_givenTo 18 = .ok (.iconst 3, 1) := by decide +kernel
theorem dX8_givenTo_19 : decode cX8_givenTo 19 = .ok (.imul, 1) := by decide +kernel
theorem dX8_givenTo_20 : decode cX8_givenTo 20 = .ok (.iload_n 1, 1) := by decide +kernel
theorem dX8_givenTo_21 : decode cX8_givenTo 21 = .ok (.iadd, 1) := by decide +kernel
theorem dX8_givenTo_22 : decode cX8_givenTo 22 = .ok (.iaload, 1) := by decide +kernel
theorem dX8_givenTo_23 : decode cX8_givenTo 23 = .ok (.iadd, 1) := by decide +kernel
theorem dX8_givenTo_24 : decode cX8_givenTo 24 = .ok (.istore_n 2, 1) := by decide +kernel
theorem dX8_givenTo_25 : decode cX8_givenTo 25 = .ok (.iinc 3 1, 3) := by decide +kernel
theorem dX8_givenTo_28 : decode cX8_givenTo 28 = .ok (.goto (-24), 3) := by decide +kernel
theorem dX8_givenTo_31 : decode cX8_givenTo 31 = .ok (.iload_n 2, 1) := by decide +kernel
theorem dX8_givenTo_32 : decode cX8_givenTo 32 = .ok (.ireturn, 1) := by decide +kernel
theorem dX8_givenInAll_0 : decode cX8_givenInAll 0 = .ok (.iconst 0, 1) := by decide +kernel
theorem dX8_givenInAll_1 : decode cX8_givenInAll 1 = .ok (.istore_n 1, 1) := by decide +kernel
theorem dX8_givenInAll_2 : decode cX8_givenInAll 2 = .ok (.iconst 0, 1) := by decide +kernel
theorem dX8_givenInAll_3 : decode cX8_givenInAll 3 = .ok (.istore_n 2, 1) := by decide +kernel
theorem dX8_givenInAll_4 : decode cX8_givenInAll 4 = .ok (.iload_n 2, 1) := by decide +kernel
theorem dX8_givenInAll_5 : decode cX8_givenInAll 5 = .ok (.aload_n 0, 1) := by decide +kernel
theorem dX8_givenInAll_6 : decode cX8_givenInAll 6 = .ok (.getfield 33, 3) := by decide +kernel
theorem dX8_givenInAll_9 : decode cX8_givenInAll 9 = .ok (.if_icmp .ge 17, 3) := by decide +kernel
theorem dX8_givenInAll_12 : decode cX8_givenInAll 12 = .ok (.iload_n 1, 1) := by decide +kernel
theorem dX8_givenInAll_13 : decode cX8_givenInAll 13 = .ok (.aload_n 0, 1) := by decide +kernel
theorem dX8_givenInAll_14 : decode cX8_givenInAll 14 = .ok (.iload_n 2, 1) := by decide +kernel
theorem dX8_givenInAll_15 : decode cX8_givenInAll 15 = .ok (.invokevirtual 67, 3) := by decide +kernel
theorem dX8_givenInAll_18 : decode cX8_givenInAll 18 = .ok (.iadd, 1) := by decide +kernel
theorem dX8_givenInAll_19 : decode cX8_givenInAll 19 = .ok (.istore_n 1, 1) := by decide +kernel
theorem dX8_givenInAll_20 : decode cX8_givenInAll 20 = .ok (.iinc 2 1, 3) := by decide +kernel
theorem dX8_givenInAll_23 : decode cX8_givenInAll 23 = .ok (.goto (-19), 3) := by decide +kernel
theorem dX8_givenInAll_26 : decode cX8_givenInAll 26 = .ok (.iload_n 1, 1) := by decide +kernel
theorem dX8_givenInAll_27 : decode cX8_givenInAll 27 = .ok (.ireturn, 1) := by decide +kernel
theorem dX8_coinInAll_0 : decode cX8_coinInAll 0 = .ok (.iconst 0, 1) := by decide +kernel
theorem dX8_coinInAll_1 : decode cX8_coinInAll 1 = .ok (.istore_n 1, 1) := by decide +kernel
theorem dX8_coinInAll_2 : decode cX8_coinInAll 2 = .ok (.iconst 0, 1) := by decide +kernel
theorem dX8_coinInAll_3 : decode cX8_coinInAll 3 = .ok (.istore_n 2, 1) := by decide +kernel
theorem dX8_coinInAll_4 : decode cX8_coinInAll 4 = .ok (.iload_n 2, 1) := by decide +kernel
theorem dX8_coinInAll_5 : decode cX8_coinInAll 5 = .ok (.aload_n 0, 1) := by decide +kernel
theorem dX8_coinInAll_6 : decode cX8_coinInAll 6 = .ok (.getfield 33, 3) := by decide +kernel
theorem dX8_coinInAll_9 : decode cX8_coinInAll 9 = .ok (.if_icmp .ge 18, 3) := by decide +kernel
theorem dX8_coinInAll_12 : decode cX8_coinInAll 12 = .ok (.iload_n 1, 1) := by decide +kernel
theorem dX8_coinInAll_13 : decode cX8_coinInAll 13 = .ok (.aload_n 0, 1) := by decide +kernel
theorem dX8_coinInAll_14 : decode cX8_coinInAll 14 = .ok (.getfield 9, 3) := by decide +kernel
theorem dX8_coinInAll_17 : decode cX8_coinInAll 17 = .ok (.iload_n 2, 1) := by decide +kernel
theorem dX8_coinInAll_18 : decode cX8_coinInAll 18 = .ok (.iaload, 1) := by decide +kernel
theorem dX8_coinInAll_19 : decode cX8_coinInAll 19 = .ok (.iadd, 1) := by decide +kernel
theorem dX8_coinInAll_20 : decode cX8_coinInAll 20 = .ok (.istore_n 1, 1) := by decide +kernel
theorem dX8_coinInAll_21 : decode cX8_coinInAll 21 = .ok (.iinc 2 1, 3) := by decide +kernel
theorem dX8_coinInAll_24 : decode cX8_coinInAll 24 = .ok (.goto (-20), 3) := by decide +kernel
theorem dX8_coinInAll_27 : decode cX8_coinInAll 27 = .ok (.iload_n 1, 1) := by decide +kernel
theorem dX8_coinInAll_28 : decode cX8_coinInAll 28 = .ok (.ireturn, 1) := by decide +kernel
theorem dX8_packedGifts_0 : decode cX8_packedGifts 0 = .ok (.lconst 0, 1) := by decide +kernel
theorem dX8_packedGifts_1 : decode cX8_packedGifts 1 = .ok (.lstore_n 1, 1) := by decide +kernel
theorem dX8_packedGifts_2 : decode cX8_packedGifts 2 = .ok (.iconst 0, 1) := by decide +kernel
theorem dX8_packedGifts_3 : decode cX8_packedGifts 3 = .ok (.istore_n 3, 1) := by decide +kernel
theorem dX8_packedGifts_4 : decode cX8_packedGifts 4 = .ok (.iload_n 3, 1) := by decide +kernel
theorem dX8_packedGifts_5 : decode cX8_packedGifts 5 = .ok (.bipush 15, 2) := by decide +kernel
theorem dX8_packedGifts_7 : decode cX8_packedGifts 7 = .ok (.if_icmp .ge 21, 3) := by decide +kernel
theorem dX8_packedGifts_10 : decode cX8_packedGifts 10 = .ok (.lload_n 1, 1) := by decide +kernel
theorem dX8_packedGifts_11 : decode cX8_packedGifts 11 = .ok (.iconst 4, 1) := by decide +kernel
theorem dX8_packedGifts_12 : decode cX8_packedGifts 12 = .ok (.lshl, 1) := by decide +kernel
theorem dX8_packedGifts_13 : decode cX8_packedGifts 13 = .ok (.aload_n 0, 1) := by decide +kernel
theorem dX8_packedGifts_14 : decode cX8_packedGifts 14 = .ok (.getfield 24, 3) := by decide +kernel
theorem dX8_packedGifts_17 : decode cX8_packedGifts 17 = .ok (.iload_n 3, 1) := by decide +kernel
theorem dX8_packedGifts_18 : decode cX8_packedGifts 18 = .ok (.iaload, 1) := by decide +kernel
theorem dX8_packedGifts_19 : decode cX8_packedGifts 19 = .ok (.i2l, 1) := by decide +kernel
theorem dX8_packedGifts_20 : decode cX8_packedGifts 20 = .ok (.lor, 1) := by decide +kernel
theorem dX8_packedGifts_21 : decode cX8_packedGifts 21 = .ok (.lstore_n 1, 1) := by decide +kernel
theorem dX8_packedGifts_22 : decode cX8_packedGifts 22 = .ok (.iinc 3 1, 3) := by decide +kernel
theorem dX8_packedGifts_25 : decode cX8_packedGifts 25 = .ok (.goto (-21), 3) := by decide +kernel
theorem dX8_packedGifts_28 : decode cX8_packedGifts 28 = .ok (.lload_n 1, 1) := by decide +kernel
theorem dX8_packedGifts_29 : decode cX8_packedGifts 29 = .ok (.lreturn, 1) := by decide +kernel
theorem dX8_worthOf_0 : decode cX8_worthOf 0 = .ok (.iload_n 3, 1) := by decide +kernel
theorem dX8_worthOf_1 : decode cX8_worthOf 1 = .ok (.aload_n 0, 1) := by decide +kernel
theorem dX8_worthOf_2 : decode cX8_worthOf 2 = .ok (.getfield 15, 3) := by decide +kernel
theorem dX8_worthOf_5 : decode cX8_worthOf 5 = .ok (.iload_n 2, 1) := by decide +kernel
theorem dX8_worthOf_6 : decode cX8_worthOf 6 = .ok (.iaload, 1) := by decide +kernel
theorem dX8_worthOf_7 : decode cX8_worthOf 7 = .ok (.if_icmp .ge 5, 3) := by decide +kernel
theorem dX8_worthOf_10 : decode cX8_worthOf 10 = .ok (.iconst 0, 1) := by decide +kernel
theorem dX8_worthOf_11 : decode cX8_worthOf 11 = .ok (.ireturn, 1) := by decide +kernel
theorem dX8_worthOf_12 : decode cX8_worthOf 12 = .ok (.aload_n 0, 1) := by decide +kernel
theorem dX8_worthOf_13 : decode cX8_worthOf 13 = .ok (.getfield 18, 3) := by decide +kernel
theorem dX8_worthOf_16 : decode cX8_worthOf 16 = .ok (.iload_n 1, 1) := by decide +kernel
theorem dX8_worthOf_17 : decode cX8_worthOf 17 = .ok (.iconst 3, 1) := by decide +kernel
theorem dX8_worthOf_18 : decode cX8_worthOf 18 = .ok (.imul, 1) := by decide +kernel
theorem dX8_worthOf_19 : decode cX8_worthOf 19 = .ok (.iload_n 2, 1) := by decide +kernel
theorem dX8_worthOf_20 : decode cX8_worthOf 20 = .ok (.iadd, 1) := by decide +kernel
theorem dX8_worthOf_21 : decode cX8_worthOf 21 = .ok (.iaload, 1) := by decide +kernel
theorem dX8_worthOf_22 : decode cX8_worthOf 22 = .ok (.istore 4, 2) := by decide +kernel
theorem dX8_worthOf_24 : decode cX8_worthOf 24 = .ok (.aload_n 0, 1) := by decide +kernel
theorem dX8_worthOf_25 : decode cX8_worthOf 25 = .ok (.getfield 21, 3) := by decide +kernel
theorem dX8_worthOf_28 : decode cX8_worthOf 28 = .ok (.iload_n 1, 1) := by decide +kernel
theorem dX8_worthOf_29 : decode cX8_worthOf 29 = .ok (.iconst 3, 1) := by decide +kernel
theorem dX8_worthOf_30 : decode cX8_worthOf 30 = .ok (.imul, 1) := by decide +kernel
theorem dX8_worthOf_31 : decode cX8_worthOf 31 = .ok (.iload_n 2, 1) := by decide +kernel
theorem dX8_worthOf_32 : decode cX8_worthOf 32 = .ok (.iadd, 1) := by decide +kernel
theorem dX8_worthOf_33 : decode cX8_worthOf 33 = .ok (.iaload, 1) := by decide +kernel
theorem dX8_worthOf_34 : decode cX8_worthOf 34 = .ok (.istore 5, 2) := by decide +kernel
theorem dX8_worthOf_36 : decode cX8_worthOf 36 = .ok (.iload_n 3, 1) := by decide +kernel
theorem dX8_worthOf_37 : decode cX8_worthOf 37 = .ok (.bipush 60, 2) := by decide +kernel
theorem dX8_worthOf_39 : decode cX8_worthOf 39 = .ok (.invokestatic 71, 3) := by decide +kernel
theorem dX8_worthOf_42 : decode cX8_worthOf 42 = .ok (.istore 6, 2) := by decide +kernel
theorem dX8_worthOf_44 : decode cX8_worthOf 44 = .ok (.iload 5, 2) := by decide +kernel
theorem dX8_worthOf_46 : decode cX8_worthOf 46 = .ok (.ifCond .le 20, 3) := by decide +kernel
theorem dX8_worthOf_49 : decode cX8_worthOf 49 = .ok (.iload 6, 2) := by decide +kernel
theorem dX8_worthOf_51 : decode cX8_worthOf 51 = .ok (.iload 4, 2) := by decide +kernel
theorem dX8_worthOf_53 : decode cX8_worthOf 53 = .ok (.iload 5, 2) := by decide +kernel
theorem dX8_worthOf_55 : decode cX8_worthOf 55 = .ok (.iadd, 1) := by decide +kernel
theorem dX8_worthOf_56 : decode cX8_worthOf 56 = .ok (.iconst 1, 1) := by decide +kernel
theorem dX8_worthOf_57 : decode cX8_worthOf 57 = .ok (.isub, 1) := by decide +kernel
theorem dX8_worthOf_58 : decode cX8_worthOf 58 = .ok (.iload 5, 2) := by decide +kernel
theorem dX8_worthOf_60 : decode cX8_worthOf 60 = .ok (.idiv, 1) := by decide +kernel
theorem dX8_worthOf_61 : decode cX8_worthOf 61 = .ok (.invokestatic 71, 3) := by decide +kernel
theorem dX8_worthOf_64 : decode cX8_worthOf 64 = .ok (.istore 6, 2) := by decide +kernel
theorem dX8_worthOf_66 : decode cX8_worthOf 66 = .ok (.iload 6, 2) := by decide +kernel
theorem dX8_worthOf_68 : decode cX8_worthOf 68 = .ok (.iload 4, 2) := by decide +kernel
theorem dX8_worthOf_70 : decode cX8_worthOf 70 = .ok (.imul, 1) := by decide +kernel
theorem dX8_worthOf_71 : decode cX8_worthOf 71 = .ok (.iload 5, 2) := by decide +kernel
theorem dX8_worthOf_73 : decode cX8_worthOf 73 = .ok (.iload 6, 2) := by decide +kernel
theorem dX8_worthOf_75 : decode cX8_worthOf 75 = .ok (.iload 6, 2) := by decide +kernel
theorem dX8_worthOf_77 : decode cX8_worthOf 77 = .ok (.iconst 1, 1) := by decide +kernel
theorem dX8_worthOf_78 : decode cX8_worthOf 78 = .ok (.isub, 1) := by decide +kernel
theorem dX8_worthOf_79 : decode cX8_worthOf 79 = .ok (.imul, 1) := by decide +kernel
theorem dX8_worthOf_80 : decode cX8_worthOf 80 = .ok (.iconst 2, 1) := by decide +kernel
theorem dX8_worthOf_81 : decode cX8_worthOf 81 = .ok (.idiv, 1) := by decide +kernel
theorem dX8_worthOf_82 : decode cX8_worthOf 82 = .ok (.imul, 1) := by decide +kernel
theorem dX8_worthOf_83 : decode cX8_worthOf 83 = .ok (.isub, 1) := by decide +kernel
theorem dX8_worthOf_84 : decode cX8_worthOf 84 = .ok (.ireturn, 1) := by decide +kernel
theorem dX1_init_0 : decode cX1_init 0 = .ok (.aload_n 0, 1) := by decide +kernel
theorem dX1_init_1 : decode cX1_init 1 = .ok (.invokespecial 5, 3) := by decide +kernel
theorem dX1_init_4 : decode cX1_init 4 = .ok (.aload_n 0, 1) := by decide +kernel
theorem dX1_init_5 : decode cX1_init 5 = .ok (.sipush 183, 3) := by decide +kernel
theorem dX1_init_8 : decode cX1_init 8 = .ok (.newarray .int, 2) := by decide +kernel
theorem dX1_init_10 : decode cX1_init 10 = .ok (.putfield 11, 3) := by decide +kernel
theorem dX1_init_13 : decode cX1_init 13 = .ok (.aload_n 0, 1) := by decide +kernel
theorem dX1_init_14 : decode cX1_init 14 = .ok (.sipush 1044, 3) := by decide +kernel
theorem dX1_init_17 : decode cX1_init 17 = .ok (.newarray .int, 2) := by decide +kernel
theorem dX1_init_19 : decode cX1_init 19 = .ok (.putfield 15, 3) := by decide +kernel
theorem dX1_init_22 : decode cX1_init 22 = .ok (.aload_n 0, 1) := by decide +kernel
theorem dX1_init_23 : decode cX1_init 23 = .ok (.iconst 3, 1) := by decide +kernel
theorem dX1_init_24 : decode cX1_init 24 = .ok (.newarray .int, 2) := by decide +kernel
theorem dX1_init_26 : decode cX1_init 26 = .ok (.putfield 18, 3) := by decide +kernel
theorem dX1_init_29 : decode cX1_init 29 = .ok (.return_, 1) := by decide +kernel
theorem dX1_find_0 : decode cX1_find 0 = .ok (.aload_n 1, 1) := by decide +kernel
theorem dX1_find_1 : decode cX1_find 1 = .ok (.invokevirtual 21, 3) := by decide +kernel
theorem dX1_find_4 : decode cX1_find 4 = .ok (.istore_n 2, 1) := by decide +kernel
theorem dX1_find_5 : decode cX1_find 5 = .ok (.sipush 260, 3) := by decide +kernel
theorem dX1_find_8 : decode cX1_find 8 = .ok (.iload_n 2, 1) := by decide +kernel
theorem dX1_find_9 : decode cX1_find 9 = .ok (.aload_n 1, 1) := by decide +kernel
theorem dX1_find_10 : decode cX1_find 10 = .ok (.getfield 27, 3) := by decide +kernel
