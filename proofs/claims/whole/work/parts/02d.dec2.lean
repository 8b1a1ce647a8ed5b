theorem dX10_work_55 : decode cX10_work 55 = .ok (.aload_n 0, 1) := by decide +kernel
theorem dX10_work_56 : decode cX10_work 56 = .ok (.getfield 10, 3) := by decide +kernel
theorem dX10_work_59 : decode cX10_work 59 = .ok (.getfield 101, 3) := by decide +kernel
theorem dX10_work_62 : decode cX10_work 62 = .ok (.iconst 1, 1) := by decide +kernel
theorem dX10_work_63 : decode cX10_work 63 = .ok (.isub, 1) := by decide +kernel
theorem dX10_work_64 : decode cX10_work 64 = .ok (.ireturn, 1) := by decide +kernel
theorem dX10_worth_0 : decode cX10_worth 0 = .ok (.aload_n 0, 1) := by decide +kernel
theorem dX10_worth_1 : decode cX10_worth 1 = .ok (.iload_n 1, 1) := by decide +kernel
theorem dX10_worth_2 : decode cX10_worth 2 = .ok (.iload_n 2, 1) := by decide +kernel
theorem dX10_worth_3 : decode cX10_worth 3 = .ok (.invokevirtual 107, 3) := by decide +kernel
theorem dX10_worth_6 : decode cX10_worth 6 = .ok (.ifCond .eq 23, 3) := by decide +kernel
theorem dX10_worth_9 : decode cX10_worth 9 = .ok (.iload_n 3, 1) := by decide +kernel
theorem dX10_worth_10 : decode cX10_worth 10 = .ok (.sipush 200, 3) := by decide +kernel
theorem dX10_worth_13 : decode cX10_worth 13 = .ok (.invokestatic 89, 3) := by decide +kernel
theorem dX10_worth_16 : decode cX10_worth 16 = .ok (.ifCond .eq 13, 3) := by decide +kernel
theorem dX10_worth_19 : decode cX10_worth 19 = .ok (.iload 4, 2) := by decide +kernel
theorem dX10_worth_21 : decode cX10_worth 21 = .ok (.bipush 50, 2) := by decide +kernel
theorem dX10_worth_23 : decode cX10_worth 23 = .ok (.invokestatic 89, 3) := by decide +kernel
theorem dX10_worth_26 : decode cX10_worth 26 = .ok (.ifCond .ne 6, 3) := by decide +kernel
theorem dX10_worth_29 : decode cX10_worth 29 = .ok (.bipush (-2), 2) := by decide +kernel
theorem dX10_worth_31 : decode cX10_worth 31 = .ok (.ireturn, 1) := by decide +kernel
theorem dX10_worth_32 : decode cX10_worth 32 = .ok (.aload_n 0, 1) := by decide +kernel
theorem dX10_worth_33 : decode cX10_worth 33 = .ok (.getfield 10, 3) := by decide +kernel
theorem dX10_worth_36 : decode cX10_worth 36 = .ok (.getfield 110, 3) := by decide +kernel
theorem dX10_worth_39 : decode cX10_worth 39 = .ok (.iload_n 1, 1) := by decide +kernel
theorem dX10_worth_40 : decode cX10_worth 40 = .ok (.iconst 3, 1) := by decide +kernel
theorem dX10_worth_41 : decode cX10_worth 41 = .ok (.imul, 1) := by decide +kernel
theorem dX10_worth_42 : decode cX10_worth 42 = .ok (.iload_n 2, 1) := by decide +kernel
theorem dX10_worth_43 : decode cX10_worth 43 = .ok (.iadd, 1) := by decide +kernel
theorem dX10_worth_44 : decode cX10_worth 44 = .ok (.iload_n 3, 1) := by decide +kernel
theorem dX10_worth_45 : decode cX10_worth 45 = .ok (.iastore, 1) := by decide +kernel
theorem dX10_worth_46 : decode cX10_worth 46 = .ok (.aload_n 0, 1) := by decide +kernel
theorem dX10_worth_47 : decode cX10_worth 47 = .ok (.getfield 10, 3) := by decide +kernel
theorem dX10_worth_50 : decode cX10_worth 50 = .ok (.getfield 113, 3) := by decide +kernel
theorem dX10_worth_53 : decode cX10_worth 53 = .ok (.iload_n 1, 1) := by decide +kernel
theorem dX10_worth_54 : decode cX10_worth 54 = .ok (.iconst 3, 1) := by decide +kernel
theorem dX10_worth_55 : decode cX10_worth 55 = .ok (.imul, 1) := by decide +kernel
theorem dX10_worth_56 : decode cX10_worth 56 = .ok (.iload_n 2, 1) := by decide +kernel
theorem dX10_worth_57 : decode cX10_worth 57 = .ok (.iadd, 1) := by decide +kernel
theorem dX10_worth_58 : decode cX10_worth 58 = .ok (.iload 4, 2) := by decide +kernel
theorem dX10_worth_60 : decode cX10_worth 60 = .ok (.iastore, 1) := by decide +kernel
theorem dX10_worth_61 : decode cX10_worth 61 = .ok (.iconst 1, 1) := by decide +kernel
theorem dX10_worth_62 : decode cX10_worth 62 = .ok (.ireturn, 1) := by decide +kernel
theorem dX10_set_0 : decode cX10_set 0 = .ok (.iload_n 1, 1) := by decide +kernel
theorem dX10_set_1 : decode cX10_set 1 = .ok (.tableswitch 55 0 3 #[31, 37, 43, 49], 31) := by decide +kernel
theorem dX10_set_32 : decode cX10_set 32 = .ok (.aload_n 0, 1) := by decide +kernel
theorem dX10_set_33 : decode cX10_set 33 = .ok (.iload_n 2, 1) := by decide +kernel
theorem dX10_set_34 : decode cX10_set 34 = .ok (.invokevirtual 116, 3) := by decide +kernel
theorem dX10_set_37 : decode cX10_set 37 = .ok (.ireturn, 1) := by decide +kernel
theorem dX10_set_38 : decode cX10_set 38 = .ok (.aload_n 0, 1) := by decide +kernel
theorem dX10_set_39 : decode cX10_set 39 = .ok (.iload_n 2, 1) := by decide +kernel
theorem dX10_set_40 : decode cX10_set 40 = .ok (.invokevirtual 120, 3) := by decide +kernel
theorem dX10_set_43 : decode cX10_set 43 = .ok (.ireturn, 1) := by decide +kernel
theorem dX10_set_44 : decode cX10_set 44 = .ok (.aload_n 0, 1) := by decide +kernel
theorem dX10_set_45 : decode cX10_set 45 = .ok (.iload_n 2, 1) := by decide +kernel
theorem dX10_set_46 : decode cX10_set 46 = .ok (.invokevirtual 123, 3) := by decide +kernel
theorem dX10_set_49 : decode cX10_set 49 = .ok (.ireturn, 1) := by decide +kernel
theorem dX10_set_50 : decode cX10_set 50 = .ok (.aload_n 0, 1) := by decide +kernel
theorem dX10_set_51 : decode cX10_set 51 = .ok (.iload_n 2, 1) := by decide +kernel
theorem dX10_set_52 : decode cX10_set 52 = .ok (.invokevirtual 126, 3) := by decide +kernel
theorem dX10_set_55 : decode cX10_set 55 = .ok (.ireturn, 1) := by decide +kernel
theorem dX10_set_56 : decode cX10_set 56 = .ok (.bipush (-2), 2) := by decide +kernel
theorem dX10_set_58 : decode cX10_set 58 = .ok (.ireturn, 1) := by decide +kernel
theorem dX10_write_0 : decode cX10_write 0 = .ok (.iload_n 1, 1) := by decide +kernel
theorem dX10_write_1 : decode cX10_write 1 = .ok (.invokestatic 129, 3) := by decide +kernel
theorem dX10_write_4 : decode cX10_write 4 = .ok (.ifCond .eq 12, 3) := by decide +kernel
theorem dX10_write_7 : decode cX10_write 7 = .ok (.iload_n 2, 1) := by decide +kernel
theorem dX10_write_8 : decode cX10_write 8 = .ok (.bipush 127, 2) := by decide +kernel
theorem dX10_write_10 : decode cX10_write 10 = .ok (.invokestatic 89, 3) := by decide +kernel
theorem dX10_write_13 : decode cX10_write 13 = .ok (.ifCond .ne 6, 3) := by decide +kernel
theorem dX10_write_16 : decode cX10_write 16 = .ok (.bipush (-2), 2) := by decide +kernel
theorem dX10_write_18 : decode cX10_write 18 = .ok (.ireturn, 1) := by decide +kernel
theorem dX10_write_19 : decode cX10_write 19 = .ok (.aload_n 0, 1) := by decide +kernel
theorem dX10_write_20 : decode cX10_write 20 = .ok (.getfield 10, 3) := by decide +kernel
theorem dX10_write_23 : decode cX10_write 23 = .ok (.getfield 133, 3) := by decide +kernel
theorem dX10_write_26 : decode cX10_write 26 = .ok (.iload_n 1, 1) := by decide +kernel
theorem dX10_write_27 : decode cX10_write 27 = .ok (.aaload, 1) := by decide +kernel
theorem dX10_write_28 : decode cX10_write 28 = .ok (.astore_n 3, 1) := by decide +kernel
theorem dX10_write_29 : decode cX10_write 29 = .ok (.aload_n 3, 1) := by decide +kernel
theorem dX10_write_30 : decode cX10_write 30 = .ok (.getfield 137, 3) := by decide +kernel
theorem dX10_write_33 : decode cX10_write 33 = .ok (.bipush 40, 2) := by decide +kernel
theorem dX10_write_35 : decode cX10_write 35 = .ok (.if_icmp .lt 6, 3) := by decide +kernel
theorem dX10_write_38 : decode cX10_write 38 = .ok (.bipush (-4), 2) := by decide +kernel
theorem dX10_write_40 : decode cX10_write 40 = .ok (.ireturn, 1) := by decide +kernel
theorem dX10_write_41 : decode cX10_write 41 = .ok (.aload_n 3, 1) := by decide +kernel
theorem dX10_write_42 : decode cX10_write 42 = .ok (.getfield 142, 3) := by decide +kernel
theorem dX10_write_45 : decode cX10_write 45 = .ok (.aload_n 3, 1) := by decide +kernel
theorem dX10_write_46 : decode cX10_write 46 = .ok (.getfield 137, 3) := by decide +kernel
theorem dX10_write_49 : decode cX10_write 49 = .ok (.iload_n 2, 1) := by decide +kernel
theorem dX10_write_50 : decode cX10_write 50 = .ok (.iastore, 1) := by decide +kernel
theorem dX10_write_51 : decode cX10_write 51 = .ok (.aload_n 3, 1) := by decide +kernel
theorem dX10_write_52 : decode cX10_write 52 = .ok (.dup, 1) := by decide +kernel
theorem dX10_write_53 : decode cX10_write 53 = .ok (.getfield 137, 3) := by decide +kernel
theorem dX10_write_56 : decode cX10_write 56 = .ok (.iconst 1, 1) := by decide +kernel
theorem dX10_write_57 : decode cX10_write 57 = .ok (.iadd, 1) := by decide +kernel
theorem dX10_write_58 : decode cX10_write 58 = .ok (.putfield 137, 3) := by decide +kernel
theorem dX10_write_61 : decode cX10_write 61 = .ok (.aload_n 0, 1) := by decide +kernel
theorem dX10_write_62 : decode cX10_write 62 = .ok (.getfield 30, 3) := by decide +kernel
theorem dX10_write_65 : decode cX10_write 65 = .ok (.aload_n 3, 1) := by decide +kernel
theorem dX10_write_66 : decode cX10_write 66 = .ok (.invokevirtual 145, 3) := by decide +kernel
theorem dX10_write_69 : decode cX10_write 69 = .ok (.aload_n 3, 1) := by decide +kernel
theorem dX10_write_70 : decode cX10_write 70 = .ok (.getfield 137, 3) := by decide +kernel
theorem dX10_write_73 : decode cX10_write 73 = .ok (.ireturn, 1) := by decide +kernel
theorem dX10_erase_0 : decode cX10_erase 0 = .ok (.iload_n 1, 1) := by decide +kernel
theorem dX10_erase_1 : decode cX10_erase 1 = .ok (.invokestatic 129, 3) := by decide +kernel
theorem dX10_erase_4 : decode cX10_erase 4 = .ok (.ifCond .ne 6, 3) := by decide +kernel
theorem dX10_erase_7 : decode cX10_erase 7 = .ok (.bipush (-2), 2) := by decide +kernel
theorem dX10_erase_9 : decode cX10_erase 9 = .ok (.ireturn, 1) := by decide +kernel
theorem dX10_erase_10 : decode cX10_erase 10 = .ok (.aload_n 0, 1) := by decide +kernel
theorem dX10_erase_11 : decode cX10_erase 11 = .ok (.getfield 10, 3) := by decide +kernel
theorem dX10_erase_14 : decode cX10_erase 14 = .ok (.getfield 133, 3) := by decide +kernel
theorem dX10_erase_17 : decode cX10_erase 17 = .ok (.iload_n 1, 1) := by decide +kernel
theorem dX10_erase_18 : decode cX10_erase 18 = .ok (.aaload, 1) := by decide +kernel
theorem dX10_erase_19 : decode cX10_erase 19 = .ok (.astore_n 2, 1) := by decide +kernel
theorem dX10_erase_20 : decode cX10_erase 20 = .ok (.aload_n 2, 1) := by decide +kernel
theorem dX10_erase_21 : decode cX10_erase 21 = .ok (.getfield 137, 3) := by decide +kernel
theorem dX10_erase_24 : decode cX10_erase 24 = .ok (.istore_n 3, 1) := by decide +kernel
theorem dX10_erase_25 : decode cX10_erase 25 = .ok (.aload_n 2, 1) := by decide +kernel
theorem dX10_erase_26 : decode cX10_erase 26 = .ok (.iconst 0, 1) := by decide +kernel
theorem dX10_erase_27 : decode cX10_erase 27 = .ok (.putfield 137, 3) := by decide +kernel
theorem dX10_erase_30 : decode cX10_erase 30 = .ok (.aload_n 0, 1) := by decide +kernel
theorem dX10_erase_31 : decode cX10_erase 31 = .ok (.getfield 30, 3) := by decide +kernel
theorem dX10_erase_34 : decode cX10_erase 34 = .ok (.aload_n 2, 1) := by decide +kernel
theorem dX10_erase_35 : decode cX10_erase 35 = .ok (.invokevirtual 145, 3) := by decide +kernel
theorem dX10_erase_38 : decode cX10_erase 38 = .ok (.iload_n 3, 1) := by decide +kernel
theorem dX10_erase_39 : decode cX10_erase 39 = .ok (.ireturn, 1) := by decide +kernel
theorem dX10_fault_0 : decode cX10_fault 0 = .ok (.iload_n 1, 1) := by decide +kernel
theorem dX10_fault_1 : decode cX10_fault 1 = .ok (.invokestatic 129, 3) := by decide +kernel
theorem dX10_fault_4 : decode cX10_fault 4 = .ok (.ifCond .eq 18, 3) := by decide +kernel
theorem dX10_fault_7 : decode cX10_fault 7 = .ok (.aload_n 0, 1) := by decide +kernel
theorem dX10_fault_8 : decode cX10_fault 8 = .ok (.getfield 10, 3) := by decide +kernel
theorem dX10_fault_11 : decode cX10_fault 11 = .ok (.getfield 133, 3) := by decide +kernel
theorem dX10_fault_14 : decode cX10_fault 14 = .ok (.iload_n 1, 1) := by decide +kernel
theorem dX10_fault_15 : decode cX10_fault 15 = .ok (.aaload, 1) := by decide +kernel
theorem dX10_fault_16 : decode cX10_fault 16 = .ok (.getfield 149, 3) := by decide +kernel
theorem dX10_fault_19 : decode cX10_fault 19 = .ok (.goto 5, 3) := by decide +kernel
theorem dX10_fault_22 : decode cX10_fault 22 = .ok (.bipush (-2), 2) := by decide +kernel
theorem dX10_fault_24 : decode cX10_fault 24 = .ok (.ireturn, 1) := by decide +kernel
theorem dX10_give_0 : decode cX10_give 0 = .ok (.aload_n 0, 1) := by decide +kernel
theorem dX10_give_1 : decode cX10_give 1 = .ok (.iload_n 1, 1) := by decide +kernel
theorem dX10_give_2 : decode cX10_give 2 = .ok (.iload_n 2, 1) := by decide +kernel
theorem dX10_give_3 : decode cX10_give 3 = .ok (.invokevirtual 107, 3) := by decide +kernel
theorem dX10_give_6 : decode cX10_give 6 = .ok (.ifCond .eq 12, 3) := by decide +kernel
theorem dX10_give_9 : decode cX10_give 9 = .ok (.iload_n 3, 1) := by decide +kernel
theorem dX10_give_10 : decode cX10_give 10 = .ok (.bipush 12, 2) := by decide +kernel
theorem dX10_give_12 : decode cX10_give 12 = .ok (.invokestatic 89, 3) := by decide +kernel
theorem dX10_give_15 : decode cX10_give 15 = .ok (.ifCond .ne 6, 3) := by decide +kernel
theorem dX10_give_18 : decode cX10_give 18 = .ok (.bipush (-2), 2) := by decide +kernel
theorem dX10_give_20 : decode cX10_give 20 = .ok (.ireturn, 1) := by decide +kernel
theorem dX10_give_21 : decode cX10_give 21 = .ok (.iload_n 1, 1) := by decide +kernel
theorem dX10_give_22 : decode cX10_give 22 = .ok (.iconst 3, 1) := by decide +kernel
theorem dX10_give_23 : decode cX10_give 23 = .ok (.imul, 1) := by decide +kernel
theorem dX10_give_24 : decode cX10_give 24 = .ok (.iload_n 2, 1) := by decide +kernel
theorem dX10_give_25 : decode cX10_give 25 = .ok (.iadd, 1) := by decide +kernel
theorem dX10_give_26 : decode cX10_give 26 = .ok (.istore 4, 2) := by decide +kernel
theorem dX10_give_28 : decode cX10_give 28 = .ok (.aload_n 0, 1) := by decide +kernel
theorem dX10_give_29 : decode cX10_give 29 = .ok (.getfield 10, 3) := by decide +kernel
theorem dX10_give_32 : decode cX10_give 32 = .ok (.getfield 152, 3) := by decide +kernel
theorem dX10_give_35 : decode cX10_give 35 = .ok (.iload 4, 2) := by decide +kernel
theorem dX10_give_37 : decode cX10_give 37 = .ok (.iaload, 1) := by decide +kernel
theorem dX10_give_38 : decode cX10_give 38 = .ok (.istore 5, 2) := by decide +kernel
theorem dX10_give_40 : decode cX10_give 40 = .ok (.aload_n 0, 1) := by decide +kernel
theorem dX10_give_41 : decode cX10_give 41 = .ok (.getfield 10, 3) := by decide +kernel
theorem dX10_give_44 : decode cX10_give 44 = .ok (.iload_n 1, 1) := by decide +kernel
theorem dX10_give_45 : decode cX10_give 45 = .ok (.invokevirtual 155, 3) := by decide +kernel
theorem dX10_give_48 : decode cX10_give 48 = .ok (.iload 5, 2) := by decide +kernel
theorem dX10_give_50 : decode cX10_give 50 = .ok (.isub, 1) := by decide +kernel
theorem dX10_give_51 : decode cX10_give 51 = .ok (.iload_n 3, 1) := by decide +kernel
theorem dX10_give_52 : decode cX10_give 52 = .ok (.iadd, 1) := by decide +kernel
theorem dX10_give_53 : decode cX10_give 53 = .ok (.aload_n 0, 1) := by decide +kernel
theorem dX10_give_54 : decode cX10_give 54 = .ok (.getfield 10, 3) := by decide +kernel
theorem dX10_give_57 : decode cX10_give 57 = .ok (.getfield 97, 3) := by decide +kernel
theorem dX10_give_60 : decode cX10_give 60 = .ok (.iload_n 1, 1) := by decide +kernel
theorem dX10_give_61 : decode cX10_give 61 = .ok (.iaload, 1) := by decide +kernel
theorem dX10_give_62 : decode cX10_give 62 = .ok (.if_icmp .le 6, 3) := by decide +kernel
theorem dX10_give_65 : decode cX10_give 65 = .ok (.bipush (-2), 2) := by decide +kernel
theorem dX10_give_67 : decode cX10_give 67 = .ok (.ireturn, 1) := by decide +kernel
theorem dX10_give_68 : decode cX10_give 68 = .ok (.aload_n 0, 1) := by decide +kernel
theorem dX10_give_69 : decode cX10_give 69 = .ok (.getfield 10, 3) := by decide +kernel
theorem dX10_give_72 : decode cX10_give 72 = .ok (.getfield 152, 3) := by decide +kernel
theorem dX10_give_75 : decode cX10_give 75 = .ok (.iload 4, 2) := by decide +kernel
theorem dX10_give_77 : decode cX10_give 77 = .ok (.iload_n 3, 1) := by decide +kernel
theorem dX10_give_78 : decode cX10_give 78 = .ok (.iastore, 1) := by decide +kernel
theorem dX10_give_79 : decode cX10_give 79 = .ok (.iload 5, 2) := by decide +kernel
theorem dX10_give_81 : decode cX10_give 81 = .ok (.ireturn, 1) := by decide +kernel
theorem dX10_amount_0 : decode cX10_amount 0 = .ok (.aload_n 0, 1) := by decide +kernel
theorem dX10_amount_1 : decode cX10_amount 1 = .ok (.iload_n 1, 1) := by decide +kernel
theorem dX10_amount_2 : decode cX10_amount 2 = .ok (.invokevirtual 158, 3) := by decide +kernel
theorem dX10_amount_5 : decode cX10_amount 5 = .ok (.ifCond .ne 6, 3) := by decide +kernel
theorem dX10_amount_8 : decode cX10_amount 8 = .ok (.bipush (-2), 2) := by decide +kernel
theorem dX10_amount_10 : decode cX10_amount 10 = .ok (.ireturn, 1) := by decide +kernel
theorem dX10_amount_11 : decode cX10_amount 11 = .ok (.aload_n 0, 1) := by decide +kernel
theorem dX10_amount_12 : decode cX10_amount 12 = .ok (.getfield 46, 3) := by decide +kernel
theorem dX10_amount_15 : decode cX10_amount 15 = .ok (.aload_n 0, 1) := by decide +kernel
theorem dX10_amount_16 : decode cX10_amount 16 = .ok (.getfield 10, 3) := by decide +kernel
theorem dX10_amount_19 : decode cX10_amount 19 = .ok (.invokevirtual 161, 3) := by decide +kernel
theorem dX10_amount_22 : decode cX10_amount 22 = .ok (.iload_n 2, 1) := by decide +kernel
theorem dX10_amount_23 : decode cX10_amount 23 = .ok (.tableswitch 79 0 3 #[29, 39, 49, 59], 29) := by decide +kernel
theorem dX10_amount_52 : decode cX10_amount 52 = .ok (.aload_n 0, 1) := by decide +kernel
theorem dX10_amount_53 : decode cX10_amount 53 = .ok (.getfield 46, 3) := by decide +kernel
theorem dX10_amount_56 : decode cX10_amount 56 = .ok (.getfield 165, 3) := by decide +kernel
theorem dX10_amount_59 : decode cX10_amount 59 = .ok (.iload_n 1, 1) := by decide +kernel
theorem dX10_amount_60 : decode cX10_amount 60 = .ok (.iaload, 1) := by decide +kernel
theorem dX10_amount_61 : decode cX10_amount 61 = .ok (.ireturn, 1) := by decide +kernel
theorem dX10_amount_62 : decode cX10_amount 62 = .ok (.aload_n 0, 1) := by decide +kernel
theorem dX10_amount_63 : decode cX10_amount 63 = .ok (.getfield 46, 3) := by decide +kernel
theorem dX10_amount_66 : decode cX10_amount 66 = .ok (.getfield 168, 3) := by decide +kernel
theorem dX10_amount_69 : decode cX10_amount 69 = .ok (.iload_n 1, 1) := by decide +kernel
theorem dX10_amount_70 : decode cX10_amount 70 = .ok (.iaload, 1) := by decide +kernel
theorem dX10_amount_71 : decode cX10_amount 71 = .ok (.ireturn, 1) := by decide +kernel
theorem dX10_amount_72 : decode cX10_amount 72 = .ok (.aload_n 0, 1) := by decide +kernel
theorem dX10_amount_73 : decode cX10_amount 73 = .ok (.getfield 46, 3) := by decide +kernel
theorem dX10_amount_76 : decode cX10_amount 76 = .ok (.getfield 171, 3) := by decide +kernel
theorem dX10_amount_79 : decode cX10_amount 79 = .ok (.iload_n 1, 1) := by decide +kernel
theorem dX10_amount_80 : decode cX10_amount 80 = .ok (.iaload, 1) := by decide +kernel
theorem dX10_amount_81 : decode cX10_amount 81 = .ok (.ireturn, 1) := by decide +kernel
theorem dX10_amount_82 : decode cX10_amount 82 = .ok (.aload_n 0, 1) := by decide +kernel
theorem dX10_amount_83 : decode cX10_amount 83 = .ok (.getfield 46, 3) := by decide +kernel
theorem dX10_amount_86 : decode cX10_amount 86 = .ok (.getfield 165, 3) := by decide +kernel
theorem dX10_amount_89 : decode cX10_amount 89 = .ok (.iload_n 1, 1) := by decide +kernel
theorem dX10_amount_90 : decode cX10_amount 90 = .ok (.iaload, 1) := by decide +kernel
theorem dX10_amount_91 : decode cX10_amount 91 = .ok (.aload_n 0, 1) := by decide +kernel
theorem dX10_amount_92 : decode cX10_amount 92 = .ok (.getfield 46, 3) := by decide +kernel
theorem dX10_amount_95 : decode cX10_amount 95 = .ok (.getfield 171, 3) := by decide +kernel
theorem dX10_amount_98 : decode cX10_amount 98 = .ok (.iload_n 1, 1) := by decide +kernel
theorem dX10_amount_99 : decode cX10_amount 99 = .ok (.iaload, 1) := by decide +kernel
theorem dX10_amount_100 : decode cX10_amount 100 = .ok (.iadd, 1) := by decide +kernel
theorem dX10_amount_101 : decode cX10_amount 101 = .ok (.ireturn, 1) := by decide +kernel
theorem dX10_amount_102 : decode cX10_amount 102 = .ok (.bipush (-2), 2) := by decide +kernel
theorem dX10_amount_104 : decode cX10_amount 104 = .ok (.ireturn, 1) := by decide +kernel
theorem dX10_isShort_0 : decode cX10_isShort 0 = .ok (.aload_n 0, 1) := by decide +kernel
theorem dX10_isShort_1 : decode cX10_isShort 1 = .ok (.getfield 46, 3) := by decide +kernel
theorem dX10_isShort_4 : decode cX10_isShort 4 = .ok (.aload_n 0, 1) := by decide +kernel
theorem dX10_isShort_5 : decode cX10_isShort 5 = .ok (.getfield 10, 3) := by decide +kernel
theorem dX10_isShort_8 : decode cX10_isShort 8 = .ok (.invokevirtual 161, 3) := by decide +kernel
theorem dX10_isShort_11 : decode cX10_isShort 11 = .ok (.aload_n 0, 1) := by decide +kernel
theorem dX10_isShort_12 : decode cX10_isShort 12 = .ok (.getfield 46, 3) := by decide +kernel
theorem dX10_isShort_15 : decode cX10_isShort 15 = .ok (.getfield 174, 3) := by decide +kernel
theorem dX10_isShort_18 : decode cX10_isShort 18 = .ok (.ifCond .eq 7, 3) := by decide +kernel
theorem dX10_isShort_21 : decode cX10_isShort 21 = .ok (.iconst 1, 1) := by decide +kernel
theorem dX10_isShort_22 : decode cX10_isShort 22 = .ok (.goto 4, 3) := by decide +kernel
theorem dX10_isShort_25 : decode cX10_isShort 25 = .ok (.iconst 0, 1) := by decide +kernel
theorem dX10_isShort_26 : decode cX10_isShort 26 = .ok (.ireturn, 1) := by decide +kernel
theorem dX10_has_0 : decode cX10_has 0 = .ok (.iload_n 1, 1) := by decide +kernel
theorem dX10_has_1 : decode cX10_has 1 = .ok (.iconst (-1), 1) := by decide +kernel
theorem dX10_has_2 : decode cX10_has 2 = .ok (.if_icmp .eq 14, 3) := by decide +kernel
theorem dX10_has_5 : decode cX10_has 5 = .ok (.aload_n 0, 1) := by decide +kernel
theorem dX10_has_6 : decode cX10_has 6 = .ok (.iload_n 1, 1) := by decide +kernel
theorem dX10_has_7 : decode cX10_has 7 = .ok (.invokevirtual 178, 3) := by decide +kernel
theorem dX10_has_10 : decode cX10_has 10 = .ok (.ifCond .ne 6, 3) := by decide +kernel
theorem dX10_has_13 : decode cX10_has 13 = .ok (.bipush (-2), 2) := by decide +kernel
theorem dX10_has_15 : decode cX10_has 15 = .ok (.ireturn, 1) := by decide +kernel
theorem dX10_has_16 : decode cX10_has 16 = .ok (.aload_n 0, 1) := by decide +kernel
theorem dX10_has_17 : decode cX10_has 17 = .ok (.getfield 46, 3) := by decide +kernel
theorem dX10_has_20 : decode cX10_has 20 = .ok (.aload_n 0, 1) := by decide +kernel
theorem dX10_has_21 : decode cX10_has 21 = .ok (.getfield 10, 3) := by decide +kernel
theorem dX10_has_24 : decode cX10_has 24 = .ok (.invokevirtual 161, 3) := by decide +kernel
theorem dX10_has_27 : decode cX10_has 27 = .ok (.iload_n 1, 1) := by decide +kernel
theorem dX10_has_28 : decode cX10_has 28 = .ok (.iconst (-1), 1) := by decide +kernel
theorem dX10_has_29 : decode cX10_has 29 = .ok (.if_icmp .ne 17, 3) := by decide +kernel
theorem dX10_has_32 : decode cX10_has 32 = .ok (.aload_n 0, 1) := by decide +kernel
theorem dX10_has_33 : decode cX10_has 33 = .ok (.getfield 46, 3) := by decide +kernel
theorem dX10_has_36 : decode cX10_has 36 = .ok (.aload_n 0, 1) := by decide +kernel
theorem dX10_has_37 : decode cX10_has 37 = .ok (.getfield 10, 3) := by decide +kernel
theorem dX10_has_40 : decode cX10_has 40 = .ok (.invokevirtual 181, 3) := by decide +kernel
theorem dX10_has_43 : decode cX10_has 43 = .ok (.goto 23, 3) := by decide +kernel
theorem dX10_has_46 : decode cX10_has 46 = .ok (.aload_n 0, 1) := by decide +kernel
theorem dX10_has_47 : decode cX10_has 47 = .ok (.getfield 46, 3) := by decide +kernel
theorem dX10_has_50 : decode cX10_has 50 = .ok (.aload_n 0, 1) := by decide +kernel
theorem dX10_has_51 : decode cX10_has 51 = .ok (.getfield 10, 3) := by decide +kernel
theorem dX10_has_54 : decode cX10_has 54 = .ok (.iload_n 1, 1) := by decide +kernel
theorem dX10_has_55 : decode cX10_has 55 = .ok (.aload_n 0, 1) := by decide +kernel
theorem dX10_has_56 : decode cX10_has 56 = .ok (.getfield 10, 3) := by decide +kernel
theorem dX10_has_59 : decode cX10_has 59 = .ok (.iload_n 1, 1) := by decide +kernel
theorem dX10_has_60 : decode cX10_has 60 = .ok (.invokevirtual 185, 3) := by decide +kernel
theorem dX10_has_63 : decode cX10_has 63 = .ok (.invokevirtual 188, 3) := by decide +kernel
theorem dX10_has_66 : decode cX10_has 66 = .ok (.ireturn, 1) := by decide +kernel
theorem dX10_best_0 : decode cX10_best 0 = .ok (.aload_n 0, 1) := by decide +kernel
theorem dX10_best_1 : decode cX10_best 1 = .ok (.iload_n 1, 1) := by decide +kernel
theorem dX10_best_2 : decode cX10_best 2 = .ok (.invokevirtual 178, 3) := by decide +kernel
theorem dX10_best_5 : decode cX10_best 5 = .ok (.ifCond .eq 16, 3) := by decide +kernel
theorem dX10_best_8 : decode cX10_best 8 = .ok (.iload_n 2, 1) := by decide +kernel
theorem dX10_best_9 : decode cX10_best 9 = .ok (.iconst (-1), 1) := by decide +kernel
theorem dX10_best_10 : decode cX10_best 10 = .ok (.if_icmp .eq 14, 3) := by decide +kernel
theorem dX10_best_13 : decode cX10_best 13 = .ok (.aload_n 0, 1) := by decide +kernel
theorem dX10_best_14 : decode cX10_best 14 = .ok (.iload_n 2, 1) := by decide +kernel
theorem dX10_best_15 : decode cX10_best 15 = .ok (.invokevirtual 158, 3) := by decide +kernel
theorem dX10_best_18 : decode cX10_best 18 = .ok (.ifCond .ne 6, 3) := by decide +kernel
theorem dX10_best_21 : decode cX10_best 21 = .ok (.bipush (-10), 2) := by decide +kernel
theorem dX10_best_23 : decode cX10_best 23 = .ok (.ireturn, 1) := by decide +kernel
theorem dX10_best_24 : decode cX10_best 24 = .ok (.aload_n 0, 1) := by decide +kernel
theorem dX10_best_25 : decode cX10_best 25 = .ok (.getfield 55, 3) := by decide +kernel
theorem dX10_best_28 : decode cX10_best 28 = .ok (.aload_n 0, 1) := by decide +kernel
theorem dX10_best_29 : decode cX10_best 29 = .ok (.getfield 10, 3) := by decide +kernel
theorem dX10_best_32 : decode cX10_best 32 = .ok (.iload_n 1, 1) := by decide +kernel
theorem dX10_best_33 : decode cX10_best 33 = .ok (.invokevirtual 192, 3) := by decide +kernel
theorem dX10_best_36 : decode cX10_best 36 = .ok (.iload_n 2, 1) := by decide +kernel
theorem dX10_best_37 : decode cX10_best 37 = .ok (.iconst (-1), 1) := by decide +kernel
theorem dX10_best_38 : decode cX10_best 38 = .ok (.if_icmp .ne 13, 3) := by decide +kernel
theorem dX10_best_41 : decode cX10_best 41 = .ok (.aload_n 0, 1) := by decide +kernel
theorem dX10_best_42 : decode cX10_best 42 = .ok (.getfield 55, 3) := by decide +kernel
theorem dX10_best_45 : decode cX10_best 45 = .ok (.getfield 196, 3) := by decide +kernel
theorem dX10_best_48 : decode cX10_best 48 = .ok (.goto 12, 3) := by decide +kernel
theorem dX10_best_51 : decode cX10_best 51 = .ok (.aload_n 0, 1) := by decide +kernel
theorem dX10_best_52 : decode cX10_best 52 = .ok (.getfield 55, 3) := by decide +kernel
theorem dX10_best_55 : decode cX10_best 55 = .ok (.getfield 199, 3) := by decide +kernel
theorem dX10_best_58 : decode cX10_best 58 = .ok (.iload_n 2, 1) := by decide +kernel
theorem dX10_best_59 : decode cX10_best 59 = .ok (.iaload, 1) := by decide +kernel
theorem dX10_best_60 : decode cX10_best 60 = .ok (.ireturn, 1) := by decide +kernel
theorem dX10_rest_0 : decode cX10_rest 0 = .ok (.iload_n 1, 1) := by decide +kernel
theorem dX10_rest_1 : decode cX10_rest 1 = .ok (.iconst 1, 1) := by decide +kernel
theorem dX10_rest_2 : decode cX10_rest 2 = .ok (.invokestatic 89, 3) := by decide +kernel
theorem dX10_rest_5 : decode cX10_rest 5 = .ok (.ifCond .ne 6, 3) := by decide +kernel
theorem dX10_rest_8 : decode cX10_rest 8 = .ok (.bipush (-10), 2) := by decide +kernel
theorem dX10_rest_10 : decode cX10_rest 10 = .ok (.ireturn, 1) := by decide +kernel
theorem dX10_rest_11 : decode cX10_rest 11 = .ok (.iconst 0, 1) := by decide +kernel
theorem dX10_rest_12 : decode cX10_rest 12 = .ok (.istore_n 2, 1) := by decide +kernel
theorem dX10_rest_13 : decode cX10_rest 13 = .ok (.iload_n 2, 1) := by decide +kernel
theorem dX10_rest_14 : decode cX10_rest 14 = .ok (.aload_n 0, 1) := by decide +kernel
theorem dX10_rest_15 : decode cX10_rest 15 = .ok (.getfield 10, 3) := by decide +kernel
theorem dX10_rest_18 : decode cX10_rest 18 = .ok (.getfield 93, 3) := by decide +kernel
theorem dX10_rest_21 : decode cX10_rest 21 = .ok (.if_icmp .ge 51, 3) := by decide +kernel
theorem dX10_rest_24 : decode cX10_rest 24 = .ok (.aload_n 0, 1) := by decide +kernel
theorem dX10_rest_25 : decode cX10_rest 25 = .ok (.getfield 55, 3) := by decide +kernel
theorem dX10_rest_28 : decode cX10_rest 28 = .ok (.aload_n 0, 1) := by decide +kernel
theorem dX10_rest_29 : decode cX10_rest 29 = .ok (.getfield 10, 3) := by decide +kernel
theorem dX10_rest_32 : decode cX10_rest 32 = .ok (.iload_n 2, 1) := by decide +kernel
theorem dX10_rest_33 : decode cX10_rest 33 = .ok (.invokevirtual 192, 3) := by decide +kernel
theorem dX10_rest_36 : decode cX10_rest 36 = .ok (.aload_n 0, 1) := by decide +kernel
theorem dX10_rest_37 : decode cX10_rest 37 = .ok (.getfield 55, 3) := by decide +kernel
theorem dX10_rest_40 : decode cX10_rest 40 = .ok (.getfield 196, 3) := by decide +kernel
theorem dX10_rest_43 : decode cX10_rest 43 = .ok (.aload_n 0, 1) := by decide +kernel
theorem dX10_rest_44 : decode cX10_rest 44 = .ok (.getfield 55, 3) := by decide +kernel
theorem dX10_rest_47 : decode cX10_rest 47 = .ok (.getfield 202, 3) := by decide +kernel
theorem dX10_rest_50 : decode cX10_rest 50 = .ok (.isub, 1) := by decide +kernel
theorem dX10_rest_51 : decode cX10_rest 51 = .ok (.istore_n 3, 1) := by decide +kernel
theorem dX10_rest_52 : decode cX10_rest 52 = .ok (.iload_n 3, 1) := by decide +kernel
theorem dX10_rest_53 : decode cX10_rest 53 = .ok (.ifCond .le 13, 3) := by decide +kernel
theorem dX10_rest_56 : decode cX10_rest 56 = .ok (.iload_n 1, 1) := by decide +kernel
theorem dX10_rest_57 : decode cX10_rest 57 = .ok (.ifCond .ne 7, 3) := by decide +kernel
theorem dX10_rest_60 : decode cX10_rest 60 = .ok (.iload_n 2, 1) := by decide +kernel
theorem dX10_rest_61 : decode cX10_rest 61 = .ok (.goto 4, 3) := by decide +kernel
theorem dX10_rest_64 : decode cX10_rest 64 = .ok (.iload_n 3, 1) := by decide +kernel
theorem dX10_rest_65 : decode cX10_rest 65 = .ok (.ireturn, 1) := by decide +kernel
theorem dX10_rest_66 : decode cX10_rest 66 = .ok (.iinc 2 1, 3) := by decide +kernel
theorem dX10_rest_69 : decode cX10_rest 69 = .ok (.goto (-56), 3) := by decide +kernel
theorem dX10_rest_72 : decode cX10_rest 72 = .ok (.iconst (-1), 1) := by decide +kernel
theorem dX10_rest_73 : decode cX10_rest 73 = .ok (.ireturn, 1) := by decide +kernel
theorem dX10_turns_0 : decode cX10_turns 0 = .ok (.aload_n 0, 1) := by decide +kernel
theorem dX10_turns_1 : decode cX10_turns 1 = .ok (.getfield 10, 3) := by decide +kernel
theorem dX10_turns_4 : decode cX10_turns 4 = .ok (.getfield 93, 3) := by decide +kernel
theorem dX10_turns_7 : decode cX10_turns 7 = .ok (.ifCond .ne 8, 3) := by decide +kernel
theorem dX10_turns_10 : decode cX10_turns 10 = .ok (.bipush (-5), 2) := by decide +kernel
theorem dX10_turns_12 : decode cX10_turns 12 = .ok (.goto 14, 3) := by decide +kernel
theorem dX10_turns_15 : decode cX10_turns 15 = .ok (.aload_n 0, 1) := by decide +kernel
theorem dX10_turns_16 : decode cX10_turns 16 = .ok (.getfield 64, 3) := by decide +kernel
theorem dX10_turns_19 : decode cX10_turns 19 = .ok (.aload_n 0, 1) := by decide +kernel
theorem dX10_turns_20 : decode cX10_turns 20 = .ok (.getfield 10, 3) := by decide +kernel
theorem dX10_turns_23 : decode cX10_turns 23 = .ok (.invokevirtual 205, 3) := by decide +kernel
theorem dX10_turns_26 : decode cX10_turns 26 = .ok (.ireturn, 1) := by decide +kernel
theorem dX10_good_0 : decode cX10_good 0 = .ok (.iload_n 1, 1) := by decide +kernel
theorem dX10_good_1 : decode cX10_good 1 = .ok (.iconst (-1), 1) := by decide +kernel
theorem dX10_good_2 : decode cX10_good 2 = .ok (.if_icmp .eq 14, 3) := by decide +kernel
theorem dX10_good_5 : decode cX10_good 5 = .ok (.aload_n 0, 1) := by decide +kernel
theorem dX10_good_6 : decode cX10_good 6 = .ok (.iload_n 1, 1) := by decide +kernel
theorem dX10_good_7 : decode cX10_good 7 = .ok (.invokevirtual 158, 3) := by decide +kernel
theorem dX10_good_10 : decode cX10_good 10 = .ok (.ifCond .ne 6, 3) := by decide +kernel
theorem dX10_good_13 : decode cX10_good 13 = .ok (.bipush (-10), 2) := by decide +kernel
theorem dX10_good_15 : decode cX10_good 15 = .ok (.ireturn, 1) := by decide +kernel
theorem dX10_good_16 : decode cX10_good 16 = .ok (.aload_n 0, 1) := by decide +kernel
theorem dX10_good_17 : decode cX10_good 17 = .ok (.getfield 71, 3) := by decide +kernel
theorem dX10_good_20 : decode cX10_good 20 = .ok (.aload_n 0, 1) := by decide +kernel
theorem dX10_good_21 : decode cX10_good 21 = .ok (.getfield 10, 3) := by decide +kernel
theorem dX10_good_24 : decode cX10_good 24 = .ok (.invokevirtual 208, 3) := by decide +kernel
theorem dX10_good_27 : decode cX10_good 27 = .ok (.iload_n 1, 1) := by decide +kernel
theorem dX10_good_28 : decode cX10_good 28 = .ok (.iconst (-1), 1) := by decide +kernel
theorem dX10_good_29 : decode cX10_good 29 = .ok (.if_icmp .ne 13, 3) := by decide +kernel
theorem dX10_good_32 : decode cX10_good 32 = .ok (.aload_n 0, 1) := by decide +kernel
theorem dX10_good_33 : decode cX10_good 33 = .ok (.getfield 71, 3) := by decide +kernel
theorem dX10_good_36 : decode cX10_good 36 = .ok (.getfield 211, 3) := by decide +kernel
theorem dX10_good_39 : decode cX10_good 39 = .ok (.goto 12, 3) := by decide +kernel
theorem dX10_good_42 : decode cX10_good 42 = .ok (.aload_n 0, 1) := by decide +kernel
theorem dX10_good_43 : decode cX10_good 43 = .ok (.getfield 71, 3) := by decide +kernel
theorem dX10_good_46 : decode cX10_good 46 = .ok (.getfield 212, 3) := by decide +kernel
theorem dX10_good_49 : decode cX10_good 49 = .ok (.iload_n 1, 1) := by decide +kernel
theorem dX10_good_50 : decode cX10_good 50 = .ok (.iaload, 1) := by decide +kernel
theorem dX10_good_51 : decode cX10_good 51 = .ok (.ireturn, 1) := by decide +kernel
theorem dX10_lost_0 : decode cX10_lost 0 = .ok (.aload_n 0, 1) := by decide +kernel
theorem dX10_lost_1 : decode cX10_lost 1 = .ok (.getfield 71, 3) := by decide +kernel
theorem dX10_lost_4 : decode cX10_lost 4 = .ok (.aload_n 0, 1) := by decide +kernel
theorem dX10_lost_5 : decode cX10_lost 5 = .ok (.getfield 10, 3) := by decide +kernel
theorem dX10_lost_8 : decode cX10_lost 8 = .ok (.invokevirtual 208, 3) := by decide +kernel
theorem dX10_lost_11 : decode cX10_lost 11 = .ok (.aload_n 0, 1) := by decide +kernel
theorem dX10_lost_12 : decode cX10_lost 12 = .ok (.getfield 46, 3) := by decide +kernel
theorem dX10_lost_15 : decode cX10_lost 15 = .ok (.aload_n 0, 1) := by decide +kernel
theorem dX10_lost_16 : decode cX10_lost 16 = .ok (.getfield 10, 3) := by decide +kernel
theorem dX10_lost_19 : decode cX10_lost 19 = .ok (.invokevirtual 161, 3) := by decide +kernel
theorem dX10_lost_22 : decode cX10_lost 22 = .ok (.aload_n 0, 1) := by decide +kernel
theorem dX10_lost_23 : decode cX10_lost 23 = .ok (.getfield 71, 3) := by decide +kernel
theorem dX10_lost_26 : decode cX10_lost 26 = .ok (.getfield 211, 3) := by decide +kernel
theorem dX10_lost_29 : decode cX10_lost 29 = .ok (.aload_n 0, 1) := by decide +kernel
theorem dX10_lost_30 : decode cX10_lost 30 = .ok (.getfield 46, 3) := by decide +kernel
theorem dX10_lost_33 : decode cX10_lost 33 = .ok (.aload_n 0, 1) := by decide +kernel
theorem dX10_lost_34 : decode cX10_lost 34 = .ok (.getfield 10, 3) := by decide +kernel
theorem dX10_lost_37 : decode cX10_lost 37 = .ok (.invokevirtual 181, 3) := by decide +kernel
theorem dX10_lost_40 : decode cX10_lost 40 = .ok (.isub, 1) := by decide +kernel
theorem dX10_lost_41 : decode cX10_lost 41 = .ok (.ireturn, 1) := by decide +kernel
theorem dX10_gain_0 : decode cX10_gain 0 = .ok (.aload_n 0, 1) := by decide +kernel
theorem dX10_gain_1 : decode cX10_gain 1 = .ok (.iload_n 1, 1) := by decide +kernel
theorem dX10_gain_2 : decode cX10_gain 2 = .ok (.iload_n 2, 1) := by decide +kernel
theorem dX10_gain_3 : decode cX10_gain 3 = .ok (.invokevirtual 107, 3) := by decide +kernel
theorem dX10_gain_6 : decode cX10_gain 6 = .ok (.ifCond .ne 6, 3) := by decide +kernel
theorem dX10_gain_9 : decode cX10_gain 9 = .ok (.bipush (-2), 2) := by decide +kernel
theorem dX10_gain_11 : decode cX10_gain 11 = .ok (.ireturn, 1) := by decide +kernel
theorem dX10_gain_12 : decode cX10_gain 12 = .ok (.aload_n 0, 1) := by decide +kernel
theorem dX10_gain_13 : decode cX10_gain 13 = .ok (.getfield 78, 3) := by decide +kernel
theorem dX10_gain_16 : decode cX10_gain 16 = .ok (.aload_n 0, 1) := by decide +kernel
theorem dX10_gain_17 : decode cX10_gain 17 = .ok (.getfield 10, 3) := by decide +kernel
theorem dX10_gain_20 : decode cX10_gain 20 = .ok (.iload_n 1, 1) := by decide +kernel
theorem dX10_gain_21 : decode cX10_gain 21 = .ok (.iload_n 2, 1) := by decide +kernel
theorem dX10_gain_22 : decode cX10_gain 22 = .ok (.invokevirtual 213, 3) := by decide +kernel
theorem dX10_gain_25 : decode cX10_gain 25 = .ok (.aload_n 0, 1) := by decide +kernel
theorem dX10_gain_26 : decode cX10_gain 26 = .ok (.getfield 78, 3) := by decide +kernel
theorem dX10_gain_29 : decode cX10_gain 29 = .ok (.invokevirtual 217, 3) := by decide +kernel
theorem dX10_gain_32 : decode cX10_gain 32 = .ok (.ireturn, 1) := by decide +kernel
theorem dX10_hand_0 : decode cX10_hand 0 = .ok (.aload_n 0, 1) := by decide +kernel
theorem dX10_hand_1 : decode cX10_hand 1 = .ok (.iload_n 1, 1) := by decide +kernel
theorem dX10_hand_2 : decode cX10_hand 2 = .ok (.iload_n 2, 1) := by decide +kernel
theorem dX10_hand_3 : decode cX10_hand 3 = .ok (.invokevirtual 107, 3) := by decide +kernel
theorem dX10_hand_6 : decode cX10_hand 6 = .ok (.ifCond .ne 6, 3) := by decide +kernel
theorem dX10_hand_9 : decode cX10_hand 9 = .ok (.bipush (-2), 2) := by decide +kernel
theorem dX10_hand_11 : decode cX10_hand 11 = .ok (.ireturn, 1) := by decide +kernel
theorem dX10_hand_12 : decode cX10_hand 12 = .ok (.aload_n 0, 1) := by decide +kernel
theorem dX10_hand_13 : decode cX10_hand 13 = .ok (.getfield 78, 3) := by decide +kernel
theorem dX10_hand_16 : decode cX10_hand 16 = .ok (.aload_n 0, 1) := by decide +kernel
theorem dX10_hand_17 : decode cX10_hand 17 = .ok (.getfield 10, 3) := by decide +kernel
theorem dX10_hand_20 : decode cX10_hand 20 = .ok (.iload_n 1, 1) := by decide +kernel
theorem dX10_hand_21 : decode cX10_hand 21 = .ok (.iload_n 2, 1) := by decide +kernel
theorem dX10_hand_22 : decode cX10_hand 22 = .ok (.invokevirtual 213, 3) := by decide +kernel
theorem dX10_hand_25 : decode cX10_hand 25 = .ok (.aload_n 0, 1) := by decide +kernel
theorem dX10_hand_26 : decode cX10_hand 26 = .ok (.getfield 78, 3) := by decide +kernel
theorem dX10_hand_29 : decode cX10_hand 29 = .ok (.invokevirtual 220, 3) := by decide +kernel
theorem dX10_hand_32 : decode cX10_hand 32 = .ok (.istore_n 3, 1) := by decide +kernel
theorem dX10_hand_33 : decode cX10_hand 33 = .ok (.iload_n 3, 1) := by decide +kernel
theorem dX10_hand_34 : decode cX10_hand 34 = .ok (.sipush 999, 3) := by decide +kernel
theorem dX10_hand_37 : decode cX10_hand 37 = .ok (.if_icmp .le 7, 3) := by decide +kernel
theorem dX10_hand_40 : decode cX10_hand 40 = .ok (.iconst (-1), 1) := by decide +kernel
theorem dX10_hand_41 : decode cX10_hand 41 = .ok (.goto 4, 3) := by decide +kernel
theorem dX10_hand_44 : decode cX10_hand 44 = .ok (.iload_n 3, 1) := by decide +kernel
theorem dX10_hand_45 : decode cX10_hand 45 = .ok (.ireturn, 1) := by decide +kernel
theorem dX10_anyway_0 : decode cX10_anyway 0 = .ok (.iload_n 1, 1) := by decide +kernel
theorem dX10_anyway_1 : decode cX10_anyway 1 = .ok (.iconst 1, 1) := by decide +kernel
theorem dX10_anyway_2 : decode cX10_anyway 2 = .ok (.invokestatic 89, 3) := by decide +kernel
theorem dX10_anyway_5 : decode cX10_anyway 5 = .ok (.ifCond .ne 7, 3) := by decide +kernel
theorem dX10_anyway_8 : decode cX10_anyway 8 = .ok (.sipush (-1000), 3) := by decide +kernel
theorem dX10_anyway_11 : decode cX10_anyway 11 = .ok (.ireturn, 1) := by decide +kernel
theorem dX10_anyway_12 : decode cX10_anyway 12 = .ok (.aload_n 0, 1) := by decide +kernel
theorem dX10_anyway_13 : decode cX10_anyway 13 = .ok (.getfield 16, 3) := by decide +kernel
theorem dX10_anyway_16 : decode cX10_anyway 16 = .ok (.aload_n 0, 1) := by decide +kernel
theorem dX10_anyway_17 : decode cX10_anyway 17 = .ok (.getfield 10, 3) := by decide +kernel
theorem dX10_anyway_20 : decode cX10_anyway 20 = .ok (.invokevirtual 223, 3) := by decide +kernel
theorem dX10_anyway_23 : decode cX10_anyway 23 = .ok (.aload_n 0, 1) := by decide +kernel
theorem dX10_anyway_24 : decode cX10_anyway 24 = .ok (.getfield 64, 3) := by decide +kernel
theorem dX10_anyway_27 : decode cX10_anyway 27 = .ok (.aload_n 0, 1) := by decide +kernel
theorem dX10_anyway_28 : decode cX10_anyway 28 = .ok (.getfield 16, 3) := by decide +kernel
theorem dX10_anyway_31 : decode cX10_anyway 31 = .ok (.invokevirtual 205, 3) := by decide +kernel
theorem dX10_anyway_34 : decode cX10_anyway 34 = .ok (.pop, 1) := by decide +kernel
theorem dX10_anyway_35 : decode cX10_anyway 35 = .ok (.aload_n 0, 1) := by decide +kernel
theorem dX10_anyway_36 : decode cX10_anyway 36 = .ok (.getfield 16, 3) := by decide +kernel
theorem dX10_anyway_39 : decode cX10_anyway 39 = .ok (.invokevirtual 226, 3) := by decide +kernel
theorem dX10_anyway_42 : decode cX10_anyway 42 = .ok (.istore_n 2, 1) := by decide +kernel
theorem dX10_anyway_43 : decode cX10_anyway 43 = .ok (.iload_n 1, 1) := by decide +kernel
theorem dX10_anyway_44 : decode cX10_anyway 44 = .ok (.ifCond .ne 7, 3) := by decide +kernel
theorem dX10_anyway_47 : decode cX10_anyway 47 = .ok (.iload_n 2, 1) := by decide +kernel
theorem dX10_anyway_48 : decode cX10_anyway 48 = .ok (.goto 12, 3) := by decide +kernel
theorem dX10_anyway_51 : decode cX10_anyway 51 = .ok (.aload_n 0, 1) := by decide +kernel
theorem dX10_anyway_52 : decode cX10_anyway 52 = .ok (.getfield 10, 3) := by decide +kernel
theorem dX10_anyway_55 : decode cX10_anyway 55 = .ok (.invokevirtual 226, 3) := by decide +kernel
theorem dX10_anyway_58 : decode cX10_anyway 58 = .ok (.iload_n 2, 1) := by decide +kernel
theorem dX10_anyway_59 : decode cX10_anyway 59 = .ok (.isub, 1) := by decide +kernel
theorem dX10_anyway_60 : decode cX10_anyway 60 = .ok (.ireturn, 1) := by decide +kernel
theorem dX10_breach_0 : decode cX10_breach 0 = .ok (.iload_n 1, 1) := by decide +kernel
theorem dX10_breach_1 : decode cX10_breach 1 = .ok (.invokestatic 129, 3) := by decide +kernel
theorem dX10_breach_4 : decode cX10_breach 4 = .ok (.ifCond .eq 22, 3) := by decide +kernel
theorem dX10_breach_7 : decode cX10_breach 7 = .ok (.iload_n 2, 1) := by decide +kernel
theorem dX10_breach_8 : decode cX10_breach 8 = .ok (.iconst 3, 1) := by decide +kernel
theorem dX10_breach_9 : decode cX10_breach 9 = .ok (.invokestatic 89, 3) := by decide +kernel
theorem dX10_breach_12 : decode cX10_breach 12 = .ok (.ifCond .eq 14, 3) := by decide +kernel
theorem dX10_breach_15 : decode cX10_breach 15 = .ok (.iload_n 3, 1) := by decide +kernel
theorem dX10_breach_16 : decode cX10_breach 16 = .ok (.iconst 1, 1) := by decide +kernel
theorem dX10_breach_17 : decode cX10_breach 17 = .ok (.if_icmp .lt 9, 3) := by decide +kernel
theorem dX10_breach_20 : decode cX10_breach 20 = .ok (.iload_n 3, 1) := by decide +kernel
theorem dX10_breach_21 : decode cX10_breach 21 = .ok (.bipush 12, 2) := by decide +kernel
theorem dX10_breach_23 : decode cX10_breach 23 = .ok (.if_icmp .le 6, 3) := by decide +kernel
theorem dX10_breach_26 : decode cX10_breach 26 = .ok (.bipush (-2), 2) := by decide +kernel
theorem dX10_breach_28 : decode cX10_breach 28 = .ok (.ireturn, 1) := by decide +kernel
theorem dX10_breach_29 : decode cX10_breach 29 = .ok (.aload_n 0, 1) := by decide +kernel
theorem dX10_breach_30 : decode cX10_breach 30 = .ok (.getfield 10, 3) := by decide +kernel
theorem dX10_breach_33 : decode cX10_breach 33 = .ok (.getfield 133, 3) := by decide +kernel
theorem dX10_breach_36 : decode cX10_breach 36 = .ok (.iload_n 1, 1) := by decide +kernel
theorem dX10_breach_37 : decode cX10_breach 37 = .ok (.aaload, 1) := by decide +kernel
theorem dX10_breach_38 : decode cX10_breach 38 = .ok (.astore 4, 2) := by decide +kernel
theorem dX10_breach_40 : decode cX10_breach 40 = .ok (.iconst 0, 1) := by decide +kernel
theorem dX10_breach_41 : decode cX10_breach 41 = .ok (.istore 5, 2) := by decide +kernel
theorem dX10_breach_43 : decode cX10_breach 43 = .ok (.iload 5, 2) := by decide +kernel
theorem dX10_breach_45 : decode cX10_breach 45 = .ok (.iload_n 3, 1) := by decide +kernel
theorem dX10_breach_46 : decode cX10_breach 46 = .ok (.if_icmp .gt 51, 3) := by decide +kernel
theorem dX10_breach_49 : decode cX10_breach 49 = .ok (.iconst 0, 1) := by decide +kernel
theorem dX10_breach_50 : decode cX10_breach 50 = .ok (.istore 6, 2) := by decide +kernel
theorem dX10_breach_52 : decode cX10_breach 52 = .ok (.iload 6, 2) := by decide +kernel
theorem dX10_breach_54 : decode cX10_breach 54 = .ok (.iload_n 3, 1) := by decide +kernel
theorem dX10_breach_55 : decode cX10_breach 55 = .ok (.if_icmp .gt 36, 3) := by decide +kernel
theorem dX10_breach_58 : decode cX10_breach 58 = .ok (.aload_n 0, 1) := by decide +kernel
theorem dX10_breach_59 : decode cX10_breach 59 = .ok (.getfield 85, 3) := by decide +kernel
theorem dX10_breach_62 : decode cX10_breach 62 = .ok (.aload 4, 2) := by decide +kernel
theorem dX10_breach_64 : decode cX10_breach 64 = .ok (.iload_n 2, 1) := by decide +kernel
theorem dX10_breach_65 : decode cX10_breach 65 = .ok (.iload_n 3, 1) := by decide +kernel
theorem dX10_breach_66 : decode cX10_breach 66 = .ok (.iload 5, 2) := by decide +kernel
theorem dX10_breach_68 : decode cX10_breach 68 = .ok (.iload 6, 2) := by decide +kernel
theorem dX10_breach_70 : decode cX10_breach 70 = .ok (.invokevirtual 229, 3) := by decide +kernel
theorem dX10_breach_73 : decode cX10_breach 73 = .ok (.ifCond .ne 12, 3) := by decide +kernel
theorem dX10_breach_76 : decode cX10_breach 76 = .ok (.bipush 100, 2) := by decide +kernel
theorem dX10_breach_78 : decode cX10_breach 78 = .ok (.iload 5, 2) := by decide +kernel
theorem dX10_breach_80 : decode cX10_breach 80 = .ok (.imul, 1) := by decide +kernel
theorem dX10_breach_81 : decode cX10_breach 81 = .ok (.iload 6, 2) := by decide +kernel
theorem dX10_breach_83 : decode cX10_breach 83 = .ok (.iadd, 1) := by decide +kernel
theorem dX10_breach_84 : decode cX10_breach 84 = .ok (.ireturn, 1) := by decide +kernel
theorem dX10_breach_85 : decode cX10_breach 85 = .ok (.iinc 6 1, 3) := by decide +kernel
theorem dX10_breach_88 : decode cX10_breach 88 = .ok (.goto (-36), 3) := by decide +kernel
theorem dX10_breach_91 : decode cX10_breach 91 = .ok (.iinc 5 1, 3) := by decide +kernel
theorem dX10_breach_94 : decode cX10_breach 94 = .ok (.goto (-51), 3) := by decide +kernel
theorem dX10_breach_97 : decode cX10_breach 97 = .ok (.iconst (-1), 1) := by decide +kernel
theorem dX10_breach_98 : decode cX10_breach 98 = .ok (.ireturn, 1) := by decide +kernel
theorem dX10_image_0 : decode cX10_image 0 = .ok (.iload_n 1, 1) := by decide +kernel
theorem dX10_image_1 : decode cX10_image 1 = .ok (.iconst 1, 1) := by decide +kernel
theorem dX10_image_2 : decode cX10_image 2 = .ok (.invokestatic 89, 3) := by decide +kernel
theorem dX10_image_5 : decode cX10_image 5 = .ok (.ifCond .ne 6, 3) := by decide +kernel
theorem dX10_image_8 : decode cX10_image 8 = .ok (.bipush (-2), 2) := by decide +kernel
theorem dX10_image_10 : decode cX10_image 10 = .ok (.ireturn, 1) := by decide +kernel
theorem dX10_image_11 : decode cX10_image 11 = .ok (.aload_n 0, 1) := by decide +kernel
theorem dX10_image_12 : decode cX10_image 12 = .ok (.getfield 19, 3) := by decide +kernel
theorem dX10_image_15 : decode cX10_image 15 = .ok (.iload_n 1, 1) := by decide +kernel
theorem dX10_image_16 : decode cX10_image 16 = .ok (.aaload, 1) := by decide +kernel
theorem dX10_image_17 : decode cX10_image 17 = .ok (.aload_n 0, 1) := by decide +kernel
theorem dX10_image_18 : decode cX10_image 18 = .ok (.getfield 10, 3) := by decide +kernel
theorem dX10_image_21 : decode cX10_image 21 = .ok (.invokevirtual 233, 3) := by decide +kernel
theorem dX10_image_24 : decode cX10_image 24 = .ok (.aload_n 0, 1) := by decide +kernel
theorem dX10_image_25 : decode cX10_image 25 = .ok (.getfield 23, 3) := by decide +kernel
theorem dX10_image_28 : decode cX10_image 28 = .ok (.iload_n 1, 1) := by decide +kernel
theorem dX10_image_29 : decode cX10_image 29 = .ok (.iconst 1, 1) := by decide +kernel
theorem dX10_image_30 : decode cX10_image 30 = .ok (.bastore, 1) := by decide +kernel
theorem dX10_image_31 : decode cX10_image 31 = .ok (.iconst 1, 1) := by decide +kernel
theorem dX10_image_32 : decode cX10_image 32 = .ok (.ireturn, 1) := by decide +kernel
theorem dX10_from_0 : decode cX10_from 0 = .ok (.iload_n 1, 1) := by decide +kernel
theorem dX10_from_1 : decode cX10_from 1 = .ok (.iconst 1, 1) := by decide +kernel
theorem dX10_from_2 : decode cX10_from 2 = .ok (.invokestatic 89, 3) := by decide +kernel
theorem dX10_from_5 : decode cX10_from 5 = .ok (.ifCond .ne 6, 3) := by decide +kernel
theorem dX10_from_8 : decode cX10_from 8 = .ok (.bipush (-2), 2) := by decide +kernel
theorem dX10_from_10 : decode cX10_from 10 = .ok (.ireturn, 1) := by decide +kernel
theorem dX10_from_11 : decode cX10_from 11 = .ok (.aload_n 0, 1) := by decide +kernel
theorem dX10_from_12 : decode cX10_from 12 = .ok (.getfield 23, 3) := by decide +kernel
theorem dX10_from_15 : decode cX10_from 15 = .ok (.iload_n 1, 1) := by decide +kernel
theorem dX10_from_16 : decode cX10_from 16 = .ok (.baload, 1) := by decide +kernel
theorem dX10_from_17 : decode cX10_from 17 = .ok (.ifCond .ne 6, 3) := by decide +kernel
theorem dX10_from_20 : decode cX10_from 20 = .ok (.bipush (-3), 2) := by decide +kernel
theorem dX10_from_22 : decode cX10_from 22 = .ok (.ireturn, 1) := by decide +kernel
theorem dX10_from_23 : decode cX10_from 23 = .ok (.aload_n 0, 1) := by decide +kernel
theorem dX10_from_24 : decode cX10_from 24 = .ok (.getfield 10, 3) := by decide +kernel
theorem dX10_from_27 : decode cX10_from 27 = .ok (.aload_n 0, 1) := by decide +kernel
theorem dX10_from_28 : decode cX10_from 28 = .ok (.getfield 19, 3) := by decide +kernel
theorem dX10_from_31 : decode cX10_from 31 = .ok (.iload_n 1, 1) := by decide +kernel
theorem dX10_from_32 : decode cX10_from 32 = .ok (.aaload, 1) := by decide +kernel
theorem dX10_from_33 : decode cX10_from 33 = .ok (.invokevirtual 233, 3) := by decide +kernel
theorem dX10_from_36 : decode cX10_from 36 = .ok (.iconst 1, 1) := by decide +kernel
theorem dX10_from_37 : decode cX10_from 37 = .ok (.ireturn, 1) := by decide +kernel
theorem dX10_count_0 : decode cX10_count 0 = .ok (.iload_n 1, 1) := by decide +kernel
theorem dX10_count_1 : decode cX10_count 1 = .ok (.tableswitch 63 0 3 #[31, 39, 47, 55], 31) := by decide +kernel
theorem dX10_count_32 : decode cX10_count 32 = .ok (.aload_n 0, 1) := by decide +kernel
theorem dX10_count_33 : decode cX10_count 33 = .ok (.getfield 10, 3) := by decide +kernel
theorem dX10_count_36 : decode cX10_count 36 = .ok (.getfield 93, 3) := by decide +kernel
theorem dX10_count_39 : decode cX10_count 39 = .ok (.ireturn, 1) := by decide +kernel
theorem dX10_count_40 : decode cX10_count 40 = .ok (.aload_n 0, 1) := by decide +kernel
theorem dX10_count_41 : decode cX10_count 41 = .ok (.getfield 10, 3) := by decide +kernel
theorem dX10_count_44 : decode cX10_count 44 = .ok (.getfield 101, 3) := by decide +kernel
theorem dX10_count_47 : decode cX10_count 47 = .ok (.ireturn, 1) := by decide +kernel
theorem dX10_count_48 : decode cX10_count 48 = .ok (.aload_n 0, 1) := by decide +kernel
theorem dX10_count_49 : decode cX10_count 49 = .ok (.getfield 10, 3) := by decide +kernel
theorem dX10_count_52 : decode cX10_count 52 = .ok (.invokevirtual 226, 3) := by decide +kernel
theorem dX10_count_55 : decode cX10_count 55 = .ok (.ireturn, 1) := by decide +kernel
theorem dX10_count_56 : decode cX10_count 56 = .ok (.aload_n 0, 1) := by decide +kernel
theorem dX10_count_57 : decode cX10_count 57 = .ok (.getfield 10, 3) := by decide +kernel
theorem dX10_count_60 : decode cX10_count 60 = .ok (.invokevirtual 236, 3) := by decide +kernel
theorem dX10_count_63 : decode cX10_count 63 = .ok (.ireturn, 1) := by decide +kernel
theorem dX10_count_64 : decode cX10_count 64 = .ok (.bipush (-2), 2) := by decide +kernel
theorem dX10_count_66 : decode cX10_count 66 = .ok (.ireturn, 1) := by decide +kernel
theorem dX10_digest_0 : decode cX10_digest 0 = .ok (.aload_n 0, 1) := by decide +kernel
theorem dX10_digest_1 : decode cX10_digest 1 = .ok (.getfield 46, 3) := by decide +kernel
theorem dX10_digest_4 : decode cX10_digest 4 = .ok (.aload_n 0, 1) := by decide +kernel
theorem dX10_digest_5 : decode cX10_digest 5 = .ok (.getfield 10, 3) := by decide +kernel
theorem dX10_digest_8 : decode cX10_digest 8 = .ok (.invokevirtual 161, 3) := by decide +kernel
theorem dX10_digest_11 : decode cX10_digest 11 = .ok (.ldc2_w 239, 3) := by decide +kernel
theorem dX10_digest_14 : decode cX10_digest 14 = .ok (.lstore_n 1, 1) := by decide +kernel
theorem dX10_digest_15 : decode cX10_digest 15 = .ok (.iconst 0, 1) := by decide +kernel
theorem dX10_digest_16 : decode cX10_digest 16 = .ok (.istore_n 3, 1) := by decide +kernel
theorem dX10_digest_17 : decode cX10_digest 17 = .ok (.iload_n 3, 1) := by decide +kernel
theorem dX10_digest_18 : decode cX10_digest 18 = .ok (.iconst 3, 1) := by decide +kernel
theorem dX10_digest_19 : decode cX10_digest 19 = .ok (.if_icmp .gt 22, 3) := by decide +kernel
theorem dX10_digest_22 : decode cX10_digest 22 = .ok (.ldc2_w 241, 3) := by decide +kernel
theorem dX10_digest_25 : decode cX10_digest 25 = .ok (.lload_n 1, 1) := by decide +kernel
theorem dX10_digest_26 : decode cX10_digest 26 = .ok (.lmul, 1) := by decide +kernel
theorem dX10_digest_27 : decode cX10_digest 27 = .ok (.aload_n 0, 1) := by decide +kernel
theorem dX10_digest_28 : decode cX10_digest 28 = .ok (.iload_n 3, 1) := by decide +kernel
theorem dX10_digest_29 : decode cX10_digest 29 = .ok (.invokevirtual 243, 3) := by decide +kernel
theorem dX10_digest_32 : decode cX10_digest 32 = .ok (.i2l, 1) := by decide +kernel
theorem dX10_digest_33 : decode cX10_digest 33 = .ok (.ladd, 1) := by decide +kernel
theorem dX10_digest_34 : decode cX10_digest 34 = .ok (.lstore_n 1, 1) := by decide +kernel
theorem dX10_digest_35 : decode cX10_digest 35 = .ok (.iinc 3 1, 3) := by decide +kernel
theorem dX10_digest_38 : decode cX10_digest 38 = .ok (.goto (-21), 3) := by decide +kernel
theorem dX10_digest_41 : decode cX10_digest 41 = .ok (.aload_n 0, 1) := by decide +kernel
theorem dX10_digest_42 : decode cX10_digest 42 = .ok (.lload_n 1, 1) := by decide +kernel
theorem dX10_digest_43 : decode cX10_digest 43 = .ok (.invokevirtual 246, 3) := by decide +kernel
theorem dX10_digest_46 : decode cX10_digest 46 = .ok (.lstore_n 1, 1) := by decide +kernel
theorem dX10_digest_47 : decode cX10_digest 47 = .ok (.aload_n 0, 1) := by decide +kernel
theorem dX10_digest_48 : decode cX10_digest 48 = .ok (.lload_n 1, 1) := by decide +kernel
theorem dX10_digest_49 : decode cX10_digest 49 = .ok (.invokevirtual 250, 3) := by decide +kernel
theorem dX10_digest_52 : decode cX10_digest 52 = .ok (.lstore_n 1, 1) := by decide +kernel
theorem dX10_digest_53 : decode cX10_digest 53 = .ok (.ldc2_w 241, 3) := by decide +kernel
theorem dX10_digest_56 : decode cX10_digest 56 = .ok (.lload_n 1, 1) := by decide +kernel
theorem dX10_digest_57 : decode cX10_digest 57 = .ok (.lmul, 1) := by decide +kernel
theorem dX10_digest_58 : decode cX10_digest 58 = .ok (.aload_n 0, 1) := by decide +kernel
theorem dX10_digest_59 : decode cX10_digest 59 = .ok (.getfield 10, 3) := by decide +kernel
theorem dX10_digest_62 : decode cX10_digest 62 = .ok (.getfield 253, 3) := by decide +kernel
theorem dX10_digest_65 : decode cX10_digest 65 = .ok (.i2l, 1) := by decide +kernel
theorem dX10_digest_66 : decode cX10_digest 66 = .ok (.ladd, 1) := by decide +kernel
theorem dX10_digest_67 : decode cX10_digest 67 = .ok (.lstore_n 1, 1) := by decide +kernel
theorem dX10_digest_68 : decode cX10_digest 68 = .ok (.ldc2_w 241, 3) := by decide +kernel
theorem dX10_digest_71 : decode cX10_digest 71 = .ok (.lload_n 1, 1) := by decide +kernel
theorem dX10_digest_72 : decode cX10_digest 72 = .ok (.lmul, 1) := by decide +kernel
theorem dX10_digest_73 : decode cX10_digest 73 = .ok (.aload_n 0, 1) := by decide +kernel
theorem dX10_digest_74 : decode cX10_digest 74 = .ok (.getfield 10, 3) := by decide +kernel
theorem dX10_digest_77 : decode cX10_digest 77 = .ok (.getfield 256, 3) := by decide +kernel
theorem dX10_digest_80 : decode cX10_digest 80 = .ok (.i2l, 1) := by decide +kernel
theorem dX10_digest_81 : decode cX10_digest 81 = .ok (.ladd, 1) := by decide +kernel
theorem dX10_digest_82 : decode cX10_digest 82 = .ok (.lstore_n 1, 1) := by decide +kernel
theorem dX10_digest_83 : decode cX10_digest 83 = .ok (.ldc2_w 241, 3) := by decide +kernel
theorem dX10_digest_86 : decode cX10_digest 86 = .ok (.lload_n 1, 1) := by decide +kernel
theorem dX10_digest_87 : decode cX10_digest 87 = .ok (.lmul, 1) := by decide +kernel
theorem dX10_digest_88 : decode cX10_digest 88 = .ok (.aload_n 0, 1) := by decide +kernel
theorem dX10_digest_89 : decode cX10_digest 89 = .ok (.getfield 10, 3) := by decide +kernel
theorem dX10_digest_92 : decode cX10_digest 92 = .ok (.getfield 259, 3) := by decide +kernel
theorem dX10_digest_95 : decode cX10_digest 95 = .ok (.i2l, 1) := by decide +kernel
theorem dX10_digest_96 : decode cX10_digest 96 = .ok (.ladd, 1) := by decide +kernel
theorem dX10_digest_97 : decode cX10_digest 97 = .ok (.lstore_n 1, 1) := by decide +kernel
theorem dX10_digest_98 : decode cX10_digest 98 = .ok (.ldc2_w 241, 3) := by decide +kernel
theorem dX10_digest_101 : decode cX10_digest 101 = .ok (.lload_n 1, 1) := by decide +kernel
theorem dX10_digest_102 : decode cX10_digest 102 = .ok (.lmul, 1) := by decide +kernel
theorem dX10_digest_103 : decode cX10_digest 103 = .ok (.aload_n 0, 1) := by decide +kernel
theorem dX10_digest_104 : decode cX10_digest 104 = .ok (.getfield 10, 3) := by decide +kernel
theorem dX10_digest_107 : decode cX10_digest 107 = .ok (.getfield 262, 3) := by decide +kernel
theorem dX10_digest_110 : decode cX10_digest 110 = .ok (.i2l, 1) := by decide +kernel
theorem dX10_digest_111 : decode cX10_digest 111 = .ok (.ladd, 1) := by decide +kernel
theorem dX10_digest_112 : decode cX10_digest 112 = .ok (.lstore_n 1, 1) := by decide +kernel
theorem dX10_digest_113 : decode cX10_digest 113 = .ok (.aload_n 0, 1) := by decide +kernel
theorem dX10_digest_114 : decode cX10_digest 114 = .ok (.lload_n 1, 1) := by decide +kernel
theorem dX10_digest_115 : decode cX10_digest 115 = .ok (.invokevirtual 265, 3) := by decide +kernel
theorem dX10_digest_118 : decode cX10_digest 118 = .ok (.lstore_n 1, 1) := by decide +kernel
theorem dX10_digest_119 : decode cX10_digest 119 = .ok (.ldc2_w 241, 3) := by decide +kernel
theorem dX10_digest_122 : decode cX10_digest 122 = .ok (.lload_n 1, 1) := by decide +kernel
theorem dX10_digest_123 : decode cX10_digest 123 = .ok (.lmul, 1) := by decide +kernel
theorem dX10_digest_124 : decode cX10_digest 124 = .ok (.aload_n 0, 1) := by decide +kernel
theorem dX10_digest_125 : decode cX10_digest 125 = .ok (.getfield 46, 3) := by decide +kernel
theorem dX10_digest_128 : decode cX10_digest 128 = .ok (.aload_n 0, 1) := by decide +kernel
theorem dX10_digest_129 : decode cX10_digest 129 = .ok (.getfield 10, 3) := by decide +kernel
theorem dX10_digest_132 : decode cX10_digest 132 = .ok (.invokevirtual 181, 3) := by decide +kernel
theorem dX10_digest_135 : decode cX10_digest 135 = .ok (.i2l, 1) := by decide +kernel
theorem dX10_digest_136 : decode cX10_digest 136 = .ok (.ladd, 1) := by decide +kernel
theorem dX10_digest_137 : decode cX10_digest 137 = .ok (.lreturn, 1) := by decide +kernel
theorem dX10_digestGivers_0 : decode cX10_digestGivers 0 = .ok (.lload_n 1, 1) := by decide +kernel
theorem dX10_digestGivers_1 : decode cX10_digestGivers 1 = .ok (.lstore_n 3, 1) := by decide +kernel
theorem dX10_digestGivers_2 : decode cX10_digestGivers 2 = .ok (.iconst 0, 1) := by decide +kernel
theorem dX10_digestGivers_3 : decode cX10_digestGivers 3 = .ok (.istore 5, 2) := by decide +kernel
theorem dX10_digestGivers_5 : decode cX10_digestGivers 5 = .ok (.iload 5, 2) := by decide +kernel
theorem dX10_digestGivers_7 : decode cX10_digestGivers 7 = .ok (.aload_n 0, 1) := by decide +kernel
theorem dX10_digestGivers_8 : decode cX10_digestGivers 8 = .ok (.getfield 10, 3) := by decide +kernel
theorem dX10_digestGivers_11 : decode cX10_digestGivers 11 = .ok (.getfield 93, 3) := by decide +kernel
theorem dX10_digestGivers_14 : decode cX10_digestGivers 14 = .ok (.if_icmp .ge 105, 3) := by decide +kernel
theorem dX10_digestGivers_17 : decode cX10_digestGivers 17 = .ok (.ldc2_w 241, 3) := by decide +kernel
theorem dX10_digestGivers_20 : decode cX10_digestGivers 20 = .ok (.lload_n 3, 1) := by decide +kernel
theorem dX10_digestGivers_21 : decode cX10_digestGivers 21 = .ok (.lmul, 1) := by decide +kernel
theorem dX10_digestGivers_22 : decode cX10_digestGivers 22 = .ok (.aload_n 0, 1) := by decide +kernel
theorem dX10_digestGivers_23 : decode cX10_digestGivers 23 = .ok (.getfield 10, 3) := by decide +kernel
theorem dX10_digestGivers_26 : decode cX10_digestGivers 26 = .ok (.getfield 97, 3) := by decide +kernel
theorem dX10_digestGivers_29 : decode cX10_digestGivers 29 = .ok (.iload 5, 2) := by decide +kernel
theorem dX10_digestGivers_31 : decode cX10_digestGivers 31 = .ok (.iaload, 1) := by decide +kernel
theorem dX10_digestGivers_32 : decode cX10_digestGivers 32 = .ok (.i2l, 1) := by decide +kernel
theorem dX10_digestGivers_33 : decode cX10_digestGivers 33 = .ok (.ladd, 1) := by decide +kernel
theorem dX10_digestGivers_34 : decode cX10_digestGivers 34 = .ok (.lstore_n 3, 1) := by decide +kernel
theorem dX10_digestGivers_35 : decode cX10_digestGivers 35 = .ok (.iconst 0, 1) := by decide +kernel
theorem dX10_digestGivers_36 : decode cX10_digestGivers 36 = .ok (.istore 6, 2) := by decide +kernel
theorem dX10_digestGivers_38 : decode cX10_digestGivers 38 = .ok (.iload 6, 2) := by decide +kernel
theorem dX10_digestGivers_40 : decode cX10_digestGivers 40 = .ok (.iconst 3, 1) := by decide +kernel
theorem dX10_digestGivers_41 : decode cX10_digestGivers 41 = .ok (.if_icmp .ge 72, 3) := by decide +kernel
theorem dX10_digestGivers_44 : decode cX10_digestGivers 44 = .ok (.iload 5, 2) := by decide +kernel
theorem dX10_digestGivers_46 : decode cX10_digestGivers 46 = .ok (.iconst 3, 1) := by decide +kernel
theorem dX10_digestGivers_47 : decode cX10_digestGivers 47 = .ok (.imul, 1) := by decide +kernel
theorem dX10_digestGivers_48 : decode cX10_digestGivers 48 = .ok (.iload 6, 2) := by decide +kernel
theorem dX10_digestGivers_50 : decode cX10_digestGivers 50 = .ok (.iadd, 1) := by decide +kernel
theorem dX10_digestGivers_51 : decode cX10_digestGivers 51 = .ok (.istore 7, 2) := by decide +kernel
theorem dX10_digestGivers_53 : decode cX10_digestGivers 53 = .ok (.ldc2_w 241, 3) := by decide +kernel
theorem dX10_digestGivers_56 : decode cX10_digestGivers 56 = .ok (.lload_n 3, 1) := by decide +kernel
theorem dX10_digestGivers_57 : decode cX10_digestGivers 57 = .ok (.lmul, 1) := by decide +kernel
theorem dX10_digestGivers_58 : decode cX10_digestGivers 58 = .ok (.aload_n 0, 1) := by decide +kernel
theorem dX10_digestGivers_59 : decode cX10_digestGivers 59 = .ok (.getfield 10, 3) := by decide +kernel
theorem dX10_digestGivers_62 : decode cX10_digestGivers 62 = .ok (.getfield 110, 3) := by decide +kernel
theorem dX10_digestGivers_65 : decode cX10_digestGivers 65 = .ok (.iload 7, 2) := by decide +kernel
theorem dX10_digestGivers_67 : decode cX10_digestGivers 67 = .ok (.iaload, 1) := by decide +kernel
theorem dX10_digestGivers_68 : decode cX10_digestGivers 68 = .ok (.i2l, 1) := by decide +kernel
theorem dX10_digestGivers_69 : decode cX10_digestGivers 69 = .ok (.ladd, 1) := by decide +kernel
theorem dX10_digestGivers_70 : decode cX10_digestGivers 70 = .ok (.lstore_n 3, 1) := by decide +kernel
theorem dX10_digestGivers_71 : decode cX10_digestGivers 71 = .ok (.ldc2_w 241, 3) := by decide +kernel
theorem dX10_digestGivers_74 : decode cX10_digestGivers 74 = .ok (.lload_n 3, 1) := by decide +kernel
theorem dX10_digestGivers_75 : decode cX10_digestGivers 75 = .ok (.lmul, 1) := by decide +kernel
theorem dX10_digestGivers_76 : decode cX10_digestGivers 76 = .ok (.aload_n 0, 1) := by decide +kernel
theorem dX10_digestGivers_77 : decode cX10_digestGivers 77 = .ok (.getfield 10, 3) := by decide +kernel
theorem dX10_digestGivers_80 : decode cX10_digestGivers 80 = .ok (.getfield 113, 3) := by decide +kernel
theorem dX10_digestGivers_83 : decode cX10_digestGivers 83 = .ok (.iload 7, 2) := by decide +kernel
theorem dX10_digestGivers_85 : decode cX10_digestGivers 85 = .ok (.iaload, 1) := by decide +kernel
theorem dX10_digestGivers_86 : decode cX10_digestGivers 86 = .ok (.i2l, 1) := by decide +kernel
theorem dX10_digestGivers_87 : decode cX10_digestGivers 87 = .ok (.ladd, 1) := by decide +kernel
theorem dX10_digestGivers_88 : decode cX10_digestGivers 88 = .ok (.lstore_n 3, 1) := by decide +kernel
theorem dX10_digestGivers_89 : decode cX10_digestGivers 89 = .ok (.ldc2_w 241, 3) := by decide +kernel
theorem dX10_digestGivers_92 : decode cX10_digestGivers 92 = .ok (.lload_n 3, 1) := by decide +kernel
theorem dX10_digestGivers_93 : decode cX10_digestGivers 93 = .ok (.lmul, 1) := by decide +kernel
theorem dX10_digestGivers_94 : decode cX10_digestGivers 94 = .ok (.aload_n 0, 1) := by decide +kernel
theorem dX10_digestGivers_95 : decode cX10_digestGivers 95 = .ok (.getfield 10, 3) := by decide +kernel
theorem dX10_digestGivers_98 : decode cX10_digestGivers 98 = .ok (.getfield 152, 3) := by decide +kernel
theorem dX10_digestGivers_101 : decode cX10_digestGivers 101 = .ok (.iload 7, 2) := by decide +kernel
theorem dX10_digestGivers_103 : decode cX10_digestGivers 103 = .ok (.iaload, 1) := by decide +kernel
theorem dX10_digestGivers_104 : decode cX10_digestGivers 104 = .ok (.i2l, 1) := by decide +kernel
theorem dX10_digestGivers_105 : decode cX10_digestGivers 105 = .ok (.ladd, 1) := by decide +kernel
theorem dX10_digestGivers_106 : decode cX10_digestGivers 106 = .ok (.lstore_n 3, 1) := by decide +kernel
theorem dX10_digestGivers_107 : decode cX10_digestGivers 107 = .ok (.iinc 6 1, 3) := by decide +kernel
theorem dX10_digestGivers_110 : decode cX10_digestGivers 110 = .ok (.goto (-72), 3) := by decide +kernel
theorem dX10_digestGivers_113 : decode cX10_digestGivers 113 = .ok (.iinc 5 1, 3) := by decide +kernel
theorem dX10_digestGivers_116 : decode cX10_digestGivers 116 = .ok (.goto (-111), 3) := by decide +kernel
theorem dX10_digestGivers_119 : decode cX10_digestGivers 119 = .ok (.lload_n 3, 1) := by decide +kernel
theorem dX10_digestGivers_120 : decode cX10_digestGivers 120 = .ok (.lreturn, 1) := by decide +kernel
theorem dX10_digestWorks_0 : decode cX10_digestWorks 0 = .ok (.lload_n 1, 1) := by decide +kernel
theorem dX10_digestWorks_1 : decode cX10_digestWorks 1 = .ok (.lstore_n 3, 1) := by decide +kernel
theorem dX10_digestWorks_2 : decode cX10_digestWorks 2 = .ok (.iconst 0, 1) := by decide +kernel
theorem dX10_digestWorks_3 : decode cX10_digestWorks 3 = .ok (.istore 5, 2) := by decide +kernel
theorem dX10_digestWorks_5 : decode cX10_digestWorks 5 = .ok (.iload 5, 2) := by decide +kernel
theorem dX10_digestWorks_7 : decode cX10_digestWorks 7 = .ok (.aload_n 0, 1) := by decide +kernel
theorem dX10_digestWorks_8 : decode cX10_digestWorks 8 = .ok (.getfield 10, 3) := by decide +kernel
theorem dX10_digestWorks_11 : decode cX10_digestWorks 11 = .ok (.getfield 101, 3) := by decide +kernel
theorem dX10_digestWorks_14 : decode cX10_digestWorks 14 = .ok (.if_icmp .ge 111, 3) := by decide +kernel
theorem dX10_digestWorks_17 : decode cX10_digestWorks 17 = .ok (.ldc2_w 241, 3) := by decide +kernel
theorem dX10_digestWorks_20 : decode cX10_digestWorks 20 = .ok (.lload_n 3, 1) := by decide +kernel
theorem dX10_digestWorks_21 : decode cX10_digestWorks 21 = .ok (.lmul, 1) := by decide +kernel
theorem dX10_digestWorks_22 : decode cX10_digestWorks 22 = .ok (.aload_n 0, 1) := by decide +kernel
theorem dX10_digestWorks_23 : decode cX10_digestWorks 23 = .ok (.getfield 10, 3) := by decide +kernel
theorem dX10_digestWorks_26 : decode cX10_digestWorks 26 = .ok (.getfield 104, 3) := by decide +kernel
theorem dX10_digestWorks_29 : decode cX10_digestWorks 29 = .ok (.iload 5, 2) := by decide +kernel
theorem dX10_digestWorks_31 : decode cX10_digestWorks 31 = .ok (.iaload, 1) := by decide +kernel
theorem dX10_digestWorks_32 : decode cX10_digestWorks 32 = .ok (.i2l, 1) := by decide +kernel
theorem dX10_digestWorks_33 : decode cX10_digestWorks 33 = .ok (.ladd, 1) := by decide +kernel
theorem dX10_digestWorks_34 : decode cX10_digestWorks 34 = .ok (.lstore_n 3, 1) := by decide +kernel
theorem dX10_digestWorks_35 : decode cX10_digestWorks 35 = .ok (.ldc2_w 241, 3) := by decide +kernel
theorem dX10_digestWorks_38 : decode cX10_digestWorks 38 = .ok (.lload_n 3, 1) := by decide +kernel
theorem dX10_digestWorks_39 : decode cX10_digestWorks 39 = .ok (.lmul, 1) := by decide +kernel
theorem dX10_digestWorks_40 : decode cX10_digestWorks 40 = .ok (.aload_n 0, 1) := by decide +kernel
theorem dX10_digestWorks_41 : decode cX10_digestWorks 41 = .ok (.getfield 46, 3) := by decide +kernel
theorem dX10_digestWorks_44 : decode cX10_digestWorks 44 = .ok (.getfield 165, 3) := by decide +kernel
theorem dX10_digestWorks_47 : decode cX10_digestWorks 47 = .ok (.iload 5, 2) := by decide +kernel
theorem dX10_digestWorks_49 : decode cX10_digestWorks 49 = .ok (.iaload, 1) := by decide +kernel
theorem dX10_digestWorks_50 : decode cX10_digestWorks 50 = .ok (.i2l, 1) := by decide +kernel
theorem dX10_digestWorks_51 : decode cX10_digestWorks 51 = .ok (.ladd, 1) := by decide +kernel
theorem dX10_digestWorks_52 : decode cX10_digestWorks 52 = .ok (.lstore_n 3, 1) := by decide +kernel
theorem dX10_digestWorks_53 : decode cX10_digestWorks 53 = .ok (.ldc2_w 241, 3) := by decide +kernel
theorem dX10_digestWorks_56 : decode cX10_digestWorks 56 = .ok (.lload_n 3, 1) := by decide +kernel
theorem dX10_digestWorks_57 : decode cX10_digestWorks 57 = .ok (.lmul, 1) := by decide +kernel
theorem dX10_digestWorks_58 : decode cX10_digestWorks 58 = .ok (.aload_n 0, 1) := by decide +kernel
theorem dX10_digestWorks_59 : decode cX10_digestWorks 59 = .ok (.getfield 46, 3) := by decide +kernel
theorem dX10_digestWorks_62 : decode cX10_digestWorks 62 = .ok (.getfield 168, 3) := by decide +kernel
theorem dX10_digestWorks_65 : decode cX10_digestWorks 65 = .ok (.iload 5, 2) := by decide +kernel
theorem dX10_digestWorks_67 : decode cX10_digestWorks 67 = .ok (.iaload, 1) := by decide +kernel
theorem dX10_digestWorks_68 : decode cX10_digestWorks 68 = .ok (.i2l, 1) := by decide +kernel
theorem dX10_digestWorks_69 : decode cX10_digestWorks 69 = .ok (.ladd, 1) := by decide +kernel
theorem dX10_digestWorks_70 : decode cX10_digestWorks 70 = .ok (.lstore_n 3, 1) := by decide +kernel
theorem dX10_digestWorks_71 : decode cX10_digestWorks 71 = .ok (.ldc2_w 241, 3) := by decide +kernel
theorem dX10_digestWorks_74 : decode cX10_digestWorks 74 = .ok (.lload_n 3, 1) := by decide +kernel
theorem dX10_digestWorks_75 : decode cX10_digestWorks 75 = .ok (.lmul, 1) := by decide +kernel
theorem dX10_digestWorks_76 : decode cX10_digestWorks 76 = .ok (.aload_n 0, 1) := by decide +kernel
theorem dX10_digestWorks_77 : decode cX10_digestWorks 77 = .ok (.getfield 46, 3) := by decide +kernel
theorem dX10_digestWorks_80 : decode cX10_digestWorks 80 = .ok (.getfield 171, 3) := by decide +kernel
theorem dX10_digestWorks_83 : decode cX10_digestWorks 83 = .ok (.iload 5, 2) := by decide +kernel
theorem dX10_digestWorks_85 : decode cX10_digestWorks 85 = .ok (.iaload, 1) := by decide +kernel
theorem dX10_digestWorks_86 : decode cX10_digestWorks 86 = .ok (.i2l, 1) := by decide +kernel
theorem dX10_digestWorks_87 : decode cX10_digestWorks 87 = .ok (.ladd, 1) := by decide +kernel
theorem dX10_digestWorks_88 : decode cX10_digestWorks 88 = .ok (.lstore_n 3, 1) := by decide +kernel
theorem dX10_digestWorks_89 : decode cX10_digestWorks 89 = .ok (.ldc2_w 241, 3) := by decide +kernel
theorem dX10_digestWorks_92 : decode cX10_digestWorks 92 = .ok (.lload_n 3, 1) := by decide +kernel
theorem dX10_digestWorks_93 : decode cX10_digestWorks 93 = .ok (.lmul, 1) := by decide +kernel
theorem dX10_digestWorks_94 : decode cX10_digestWorks 94 = .ok (.aload_n 0, 1) := by decide +kernel
theorem dX10_digestWorks_95 : decode cX10_digestWorks 95 = .ok (.getfield 46, 3) := by decide +kernel
theorem dX10_digestWorks_98 : decode cX10_digestWorks 98 = .ok (.getfield 165, 3) := by decide +kernel
theorem dX10_digestWorks_101 : decode cX10_digestWorks 101 = .ok (.iload 5, 2) := by decide +kernel
theorem dX10_digestWorks_103 : decode cX10_digestWorks 103 = .ok (.iaload, 1) := by decide +kernel
theorem dX10_digestWorks_104 : decode cX10_digestWorks 104 = .ok (.i2l, 1) := by decide +kernel
theorem dX10_digestWorks_105 : decode cX10_digestWorks 105 = .ok (.ladd, 1) := by decide +kernel
theorem dX10_digestWorks_106 : decode cX10_digestWorks 106 = .ok (.aload_n 0, 1) := by decide +kernel
theorem dX10_digestWorks_107 : decode cX10_digestWorks 107 = .ok (.getfield 46, 3) := by decide +kernel
theorem dX10_digestWorks_110 : decode cX10_digestWorks 110 = .ok (.getfield 171, 3) := by decide +kernel
theorem dX10_digestWorks_113 : decode cX10_digestWorks 113 = .ok (.iload 5, 2) := by decide +kernel
theorem dX10_digestWorks_115 : decode cX10_digestWorks 115 = .ok (.iaload, 1) := by decide +kernel
theorem dX10_digestWorks_116 : decode cX10_digestWorks 116 = .ok (.i2l, 1) := by decide +kernel
theorem dX10_digestWorks_117 : decode cX10_digestWorks 117 = .ok (.ladd, 1) := by decide +kernel
theorem dX10_digestWorks_118 : decode cX10_digestWorks 118 = .ok (.lstore_n 3, 1) := by decide +kernel
theorem dX10_digestWorks_119 : decode cX10_digestWorks 119 = .ok (.iinc 5 1, 3) := by decide +kernel
theorem dX10_digestWorks_122 : decode cX10_digestWorks 122 = .ok (.goto (-117), 3) := by decide +kernel
theorem dX10_digestWorks_125 : decode cX10_digestWorks 125 = .ok (.lload_n 3, 1) := by decide +kernel
theorem dX10_digestWorks_126 : decode cX10_digestWorks 126 = .ok (.lreturn, 1) := by decide +kernel
theorem dX10_digestRules_0 : decode cX10_digestRules 0 = .ok (.lload_n 1, 1) := by decide +kernel
theorem dX10_digestRules_1 : decode cX10_digestRules 1 = .ok (.lstore_n 3, 1) := by decide +kernel
theorem dX10_digestRules_2 : decode cX10_digestRules 2 = .ok (.iconst 0, 1) := by decide +kernel
theorem dX10_digestRules_3 : decode cX10_digestRules 3 = .ok (.istore 5, 2) := by decide +kernel
theorem dX10_digestRules_5 : decode cX10_digestRules 5 = .ok (.iload 5, 2) := by decide +kernel
theorem dX10_digestRules_7 : decode cX10_digestRules 7 = .ok (.iconst 3, 1) := by decide +kernel
theorem dX10_digestRules_8 : decode cX10_digestRules 8 = .ok (.if_icmp .ge 69, 3) := by decide +kernel
theorem dX10_digestRules_11 : decode cX10_digestRules 11 = .ok (.aload_n 0, 1) := by decide +kernel
theorem dX10_digestRules_12 : decode cX10_digestRules 12 = .ok (.getfield 10, 3) := by decide +kernel
theorem dX10_digestRules_15 : decode cX10_digestRules 15 = .ok (.getfield 133, 3) := by decide +kernel
theorem dX10_digestRules_18 : decode cX10_digestRules 18 = .ok (.iload 5, 2) := by decide +kernel
theorem dX10_digestRules_20 : decode cX10_digestRules 20 = .ok (.aaload, 1) := by decide +kernel
theorem dX10_digestRules_21 : decode cX10_digestRules 21 = .ok (.astore 6, 2) := by decide +kernel
theorem dX10_digestRules_23 : decode cX10_digestRules 23 = .ok (.ldc2_w 241, 3) := by decide +kernel
theorem dX10_digestRules_26 : decode cX10_digestRules 26 = .ok (.lload_n 3, 1) := by decide +kernel
theorem dX10_digestRules_27 : decode cX10_digestRules 27 = .ok (.lmul, 1) := by decide +kernel
theorem dX10_digestRules_28 : decode cX10_digestRules 28 = .ok (.aload 6, 2) := by decide +kernel
theorem dX10_digestRules_30 : decode cX10_digestRules 30 = .ok (.getfield 137, 3) := by decide +kernel
theorem dX10_digestRules_33 : decode cX10_digestRules 33 = .ok (.i2l, 1) := by decide +kernel
theorem dX10_digestRules_34 : decode cX10_digestRules 34 = .ok (.ladd, 1) := by decide +kernel
theorem dX10_digestRules_35 : decode cX10_digestRules 35 = .ok (.lstore_n 3, 1) := by decide +kernel
theorem dX10_digestRules_36 : decode cX10_digestRules 36 = .ok (.iconst 0, 1) := by decide +kernel
theorem dX10_digestRules_37 : decode cX10_digestRules 37 = .ok (.istore 7, 2) := by decide +kernel
theorem dX10_digestRules_39 : decode cX10_digestRules 39 = .ok (.iload 7, 2) := by decide +kernel
theorem dX10_digestRules_41 : decode cX10_digestRules 41 = .ok (.aload 6, 2) := by decide +kernel
theorem dX10_digestRules_43 : decode cX10_digestRules 43 = .ok (.getfield 137, 3) := by decide +kernel
theorem dX10_digestRules_46 : decode cX10_digestRules 46 = .ok (.if_icmp .ge 25, 3) := by decide +kernel
theorem dX10_digestRules_49 : decode cX10_digestRules 49 = .ok (.ldc2_w 241, 3) := by decide +kernel
theorem dX10_digestRules_52 : decode cX10_digestRules 52 = .ok (.lload_n 3, 1) := by decide +kernel
theorem dX10_digestRules_53 : decode cX10_digestRules 53 = .ok (.lmul, 1) := by decide +kernel
theorem dX10_digestRules_54 : decode cX10_digestRules 54 = .ok (.aload 6, 2) := by decide +kernel
theorem dX10_digestRules_56 : decode cX10_digestRules 56 = .ok (.getfield 142, 3) := by decide +kernel
theorem dX10_digestRules_59 : decode cX10_digestRules 59 = .ok (.iload 7, 2) := by decide +kernel
theorem dX10_digestRules_61 : decode cX10_digestRules 61 = .ok (.iaload, 1) := by decide +kernel
theorem dX10_digestRules_62 : decode cX10_digestRules 62 = .ok (.i2l, 1) := by decide +kernel
theorem dX10_digestRules_63 : decode cX10_digestRules 63 = .ok (.ladd, 1) := by decide +kernel
theorem dX10_digestRules_64 : decode cX10_digestRules 64 = .ok (.lstore_n 3, 1) := by decide +kernel
theorem dX10_digestRules_65 : decode cX10_digestRules 65 = .ok (.iinc 7 1, 3) := by decide +kernel
theorem dX10_digestRules_68 : decode cX10_digestRules 68 = .ok (.goto (-29), 3) := by decide +kernel
theorem dX10_digestRules_71 : decode cX10_digestRules 71 = .ok (.iinc 5 1, 3) := by decide +kernel
theorem dX10_digestRules_74 : decode cX10_digestRules 74 = .ok (.goto (-69), 3) := by decide +kernel
theorem dX10_digestRules_77 : decode cX10_digestRules 77 = .ok (.lload_n 3, 1) := by decide +kernel
theorem dX10_digestRules_78 : decode cX10_digestRules 78 = .ok (.lreturn, 1) := by decide +kernel
theorem dX10_setKeep_0 : decode cX10_setKeep 0 = .ok (.iload_n 1, 1) := by decide +kernel
theorem dX10_setKeep_1 : decode cX10_setKeep 1 = .ok (.bipush 99, 2) := by decide +kernel
theorem dX10_setKeep_3 : decode cX10_setKeep 3 = .ok (.invokestatic 89, 3) := by decide +kernel
theorem dX10_setKeep_6 : decode cX10_setKeep 6 = .ok (.ifCond .ne 6, 3) := by decide +kernel
theorem dX10_setKeep_9 : decode cX10_setKeep 9 = .ok (.bipush (-2), 2) := by decide +kernel
theorem dX10_setKeep_11 : decode cX10_setKeep 11 = .ok (.ireturn, 1) := by decide +kernel
theorem dX10_setKeep_12 : decode cX10_setKeep 12 = .ok (.aload_n 0, 1) := by decide +kernel
theorem dX10_setKeep_13 : decode cX10_setKeep 13 = .ok (.getfield 10, 3) := by decide +kernel
theorem dX10_setKeep_16 : decode cX10_setKeep 16 = .ok (.getfield 253, 3) := by decide +kernel
theorem dX10_setKeep_19 : decode cX10_setKeep 19 = .ok (.istore_n 2, 1) := by decide +kernel
theorem dX10_setKeep_20 : decode cX10_setKeep 20 = .ok (.aload_n 0, 1) := by decide +kernel
theorem dX10_setKeep_21 : decode cX10_setKeep 21 = .ok (.getfield 10, 3) := by decide +kernel
theorem dX10_setKeep_24 : decode cX10_setKeep 24 = .ok (.iload_n 1, 1) := by decide +kernel
theorem dX10_setKeep_25 : decode cX10_setKeep 25 = .ok (.putfield 253, 3) := by decide +kernel
theorem dX10_setKeep_28 : decode cX10_setKeep 28 = .ok (.iload_n 2, 1) := by decide +kernel
theorem dX10_setKeep_29 : decode cX10_setKeep 29 = .ok (.ireturn, 1) := by decide +kernel
theorem dX10_setTheRule_0 : decode cX10_setTheRule 0 = .ok (.iload_n 1, 1) := by decide +kernel
theorem dX10_setTheRule_1 : decode cX10_setTheRule 1 = .ok (.invokestatic 129, 3) := by decide +kernel
theorem dX10_setTheRule_4 : decode cX10_setTheRule 4 = .ok (.ifCond .ne 6, 3) := by decide +kernel
theorem dX10_setTheRule_7 : decode cX10_setTheRule 7 = .ok (.bipush (-2), 2) := by decide +kernel
theorem dX10_setTheRule_9 : decode cX10_setTheRule 9 = .ok (.ireturn, 1) := by decide +kernel
theorem dX10_setTheRule_10 : decode cX10_setTheRule 10 = .ok (.aload_n 0, 1) := by decide +kernel
theorem dX10_setTheRule_11 : decode cX10_setTheRule 11 = .ok (.getfield 10, 3) := by decide +kernel
theorem dX10_setTheRule_14 : decode cX10_setTheRule 14 = .ok (.getfield 256, 3) := by decide +kernel
theorem dX10_setTheRule_17 : decode cX10_setTheRule 17 = .ok (.istore_n 2, 1) := by decide +kernel
theorem dX10_setTheRule_18 : decode cX10_setTheRule 18 = .ok (.aload_n 0, 1) := by decide +kernel
theorem dX10_setTheRule_19 : decode cX10_setTheRule 19 = .ok (.getfield 10, 3) := by decide +kernel
theorem dX10_setTheRule_22 : decode cX10_setTheRule 22 = .ok (.iload_n 1, 1) := by decide +kernel
theorem dX10_setTheRule_23 : decode cX10_setTheRule 23 = .ok (.putfield 256, 3) := by decide +kernel
theorem dX10_setTheRule_26 : decode cX10_setTheRule 26 = .ok (.iload_n 2, 1) := by decide +kernel
theorem dX10_setTheRule_27 : decode cX10_setTheRule 27 = .ok (.ireturn, 1) := by decide +kernel
theorem dX10_setPurse_0 : decode cX10_setPurse 0 = .ok (.iload_n 1, 1) := by decide +kernel
theorem dX10_setPurse_1 : decode cX10_setPurse 1 = .ok (.sipush 200, 3) := by decide +kernel
theorem dX10_setPurse_4 : decode cX10_setPurse 4 = .ok (.invokestatic 89, 3) := by decide +kernel
theorem dX10_setPurse_7 : decode cX10_setPurse 7 = .ok (.ifCond .ne 6, 3) := by decide +kernel
theorem dX10_setPurse_10 : decode cX10_setPurse 10 = .ok (.bipush (-2), 2) := by decide +kernel
theorem dX10_setPurse_12 : decode cX10_setPurse 12 = .ok (.ireturn, 1) := by decide +kernel
theorem dX10_setPurse_13 : decode cX10_setPurse 13 = .ok (.aload_n 0, 1) := by decide +kernel
theorem dX10_setPurse_14 : decode cX10_setPurse 14 = .ok (.getfield 10, 3) := by decide +kernel
theorem dX10_setPurse_17 : decode cX10_setPurse 17 = .ok (.getfield 259, 3) := by decide +kernel
theorem dX10_setPurse_20 : decode cX10_setPurse 20 = .ok (.istore_n 2, 1) := by decide +kernel
theorem dX10_setPurse_21 : decode cX10_setPurse 21 = .ok (.aload_n 0, 1) := by decide +kernel
theorem dX10_setPurse_22 : decode cX10_setPurse 22 = .ok (.getfield 10, 3) := by decide +kernel
theorem dX10_setPurse_25 : decode cX10_setPurse 25 = .ok (.iload_n 1, 1) := by decide +kernel
theorem dX10_setPurse_26 : decode cX10_setPurse 26 = .ok (.putfield 259, 3) := by decide +kernel
theorem dX10_setPurse_29 : decode cX10_setPurse 29 = .ok (.iload_n 2, 1) := by decide +kernel
theorem dX10_setPurse_30 : decode cX10_setPurse 30 = .ok (.ireturn, 1) := by decide +kernel
theorem dX10_setParted_0 : decode cX10_setParted 0 = .ok (.iload_n 1, 1) := by decide +kernel
theorem dX10_setParted_1 : decode cX10_setParted 1 = .ok (.iconst 2, 1) := by decide +kernel
theorem dX10_setParted_2 : decode cX10_setParted 2 = .ok (.invokestatic 89, 3) := by decide +kernel
theorem dX10_setParted_5 : decode cX10_setParted 5 = .ok (.ifCond .ne 6, 3) := by decide +kernel
theorem dX10_setParted_8 : decode cX10_setParted 8 = .ok (.bipush (-2), 2) := by decide +kernel
theorem dX10_setParted_10 : decode cX10_setParted 10 = .ok (.ireturn, 1) := by decide +kernel
theorem dX10_setParted_11 : decode cX10_setParted 11 = .ok (.aload_n 0, 1) := by decide +kernel
theorem dX10_setParted_12 : decode cX10_setParted 12 = .ok (.getfield 10, 3) := by decide +kernel
theorem dX10_setParted_15 : decode cX10_setParted 15 = .ok (.getfield 262, 3) := by decide +kernel
theorem dX10_setParted_18 : decode cX10_setParted 18 = .ok (.istore_n 2, 1) := by decide +kernel
theorem dX10_setParted_19 : decode cX10_setParted 19 = .ok (.aload_n 0, 1) := by decide +kernel
theorem dX10_setParted_20 : decode cX10_setParted 20 = .ok (.getfield 10, 3) := by decide +kernel
theorem dX10_setParted_23 : decode cX10_setParted 23 = .ok (.iload_n 1, 1) := by decide +kernel
theorem dX10_setParted_24 : decode cX10_setParted 24 = .ok (.putfield 262, 3) := by decide +kernel
theorem dX10_setParted_27 : decode cX10_setParted 27 = .ok (.iload_n 2, 1) := by decide +kernel
theorem dX10_setParted_28 : decode cX10_setParted 28 = .ok (.ireturn, 1) := by decide +kernel
theorem dX10_isWithin_0 : decode cX10_isWithin 0 = .ok (.iload_n 0, 1) := by decide +kernel
theorem dX10_isWithin_1 : decode cX10_isWithin 1 = .ok (.ifCond .lt 12, 3) := by decide +kernel
theorem dX10_isWithin_4 : decode cX10_isWithin 4 = .ok (.iload_n 0, 1) := by decide +kernel
theorem dX10_isWithin_5 : decode cX10_isWithin 5 = .ok (.iload_n 1, 1) := by decide +kernel
theorem dX10_isWithin_6 : decode cX10_isWithin 6 = .ok (.if_icmp .gt 7, 3) := by decide +kernel
theorem dX10_isWithin_9 : decode cX10_isWithin 9 = .ok (.iconst 1, 1) := by decide +kernel
theorem dX10_isWithin_10 : decode cX10_isWithin 10 = .ok (.goto 4, 3) := by decide +kernel
theorem dX10_isWithin_13 : decode cX10_isWithin 13 = .ok (.iconst 0, 1) := by decide +kernel
theorem dX10_isWithin_14 : decode cX10_isWithin 14 = .ok (.ireturn, 1) := by decide +kernel
theorem dX10_isRule_0 : decode cX10_isRule 0 = .ok (.iload_n 0, 1) := by decide +kernel
theorem dX10_isRule_1 : decode cX10_isRule 1 = .ok (.iconst 2, 1) := by decide +kernel
theorem dX10_isRule_2 : decode cX10_isRule 2 = .ok (.invokestatic 89, 3) := by decide +kernel
theorem dX10_isRule_5 : decode cX10_isRule 5 = .ok (.ireturn, 1) := by decide +kernel
theorem dX10_isGiver_0 : decode cX10_isGiver 0 = .ok (.iload_n 1, 1) := by decide +kernel
theorem dX10_isGiver_1 : decode cX10_isGiver 1 = .ok (.ifCond .lt 18, 3) := by decide +kernel
theorem dX10_isGiver_4 : decode cX10_isGiver 4 = .ok (.iload_n 1, 1) := by decide +kernel
theorem dX10_isGiver_5 : decode cX10_isGiver 5 = .ok (.aload_n 0, 1) := by decide +kernel
theorem dX10_isGiver_6 : decode cX10_isGiver 6 = .ok (.getfield 10, 3) := by decide +kernel
theorem dX10_isGiver_9 : decode cX10_isGiver 9 = .ok (.getfield 93, 3) := by decide +kernel
theorem dX10_isGiver_12 : decode cX10_isGiver 12 = .ok (.if_icmp .ge 7, 3) := by decide +kernel
theorem dX10_isGiver_15 : decode cX10_isGiver 15 = .ok (.iconst 1, 1) := by decide +kernel
theorem dX10_isGiver_16 : decode cX10_isGiver 16 = .ok (.goto 4, 3) := by decide +kernel
theorem dX10_isGiver_19 : decode cX10_isGiver 19 = .ok (.iconst 0, 1) := by decide +kernel
theorem dX10_isGiver_20 : decode cX10_isGiver 20 = .ok (.ireturn, 1) := by decide +kernel
theorem dX10_isWork_0 : decode cX10_isWork 0 = .ok (.iload_n 1, 1) := by decide +kernel
theorem dX10_isWork_1 : decode cX10_isWork 1 = .ok (.ifCond .lt 18, 3) := by decide +kernel
theorem dX10_isWork_4 : decode cX10_isWork 4 = .ok (.iload_n 1, 1) := by decide +kernel
theorem dX10_isWork_5 : decode cX10_isWork 5 = .ok (.aload_n 0, 1) := by decide +kernel
theorem dX10_isWork_6 : decode cX10_isWork 6 = .ok (.getfield 10, 3) := by decide +kernel
theorem dX10_isWork_9 : decode cX10_isWork 9 = .ok (.getfield 101, 3) := by decide +kernel
theorem dX10_isWork_12 : decode cX10_isWork 12 = .ok (.if_icmp .ge 7, 3) := by decide +kernel
theorem dX10_isWork_15 : decode cX10_isWork 15 = .ok (.iconst 1, 1) := by decide +kernel
theorem dX10_isWork_16 : decode cX10_isWork 16 = .ok (.goto 4, 3) := by decide +kernel
theorem dX10_isWork_19 : decode cX10_isWork 19 = .ok (.iconst 0, 1) := by decide +kernel
theorem dX10_isWork_20 : decode cX10_isWork 20 = .ok (.ireturn, 1) := by decide +kernel
theorem dX10_isPair_0 : decode cX10_isPair 0 = .ok (.aload_n 0, 1) := by decide +kernel
theorem dX10_isPair_1 : decode cX10_isPair 1 = .ok (.iload_n 1, 1) := by decide +kernel
theorem dX10_isPair_2 : decode cX10_isPair 2 = .ok (.invokevirtual 178, 3) := by decide +kernel
theorem dX10_isPair_5 : decode cX10_isPair 5 = .ok (.ifCond .eq 15, 3) := by decide +kernel
theorem dX10_isPair_8 : decode cX10_isPair 8 = .ok (.aload_n 0, 1) := by decide +kernel
theorem dX10_isPair_9 : decode cX10_isPair 9 = .ok (.iload_n 2, 1) := by decide +kernel
theorem dX10_isPair_10 : decode cX10_isPair 10 = .ok (.invokevirtual 158, 3) := by decide +kernel
theorem dX10_isPair_13 : decode cX10_isPair 13 = .ok (.ifCond .eq 7, 3) := by decide +kernel
theorem dX10_isPair_16 : decode cX10_isPair 16 = .ok (.iconst 1, 1) := by decide +kernel
theorem dX10_isPair_17 : decode cX10_isPair 17 = .ok (.goto 4, 3) := by decide +kernel
theorem dX10_isPair_20 : decode cX10_isPair 20 = .ok (.iconst 0, 1) := by decide +kernel
theorem dX10_isPair_21 : decode cX10_isPair 21 = .ok (.ireturn, 1) := by decide +kernel
theorem dX11_init_0 : decode cX11_init 0 = .ok (.aload_n 0, 1) := by decide +kernel
theorem dX11_init_1 : decode cX11_init 1 = .ok (.invokespecial 1, 3) := by decide +kernel
theorem dX11_init_4 : decode cX11_init 4 = .ok (.aload_n 0, 1) := by decide +kernel
theorem dX11_init_5 : decode cX11_init 5 = .ok (.sipush 182, 3) := by decide +kernel
theorem dX11_init_8 : decode cX11_init 8 = .ok (.newarray .int, 2) := by decide +kernel
theorem dX11_init_10 : decode cX11_init 10 = .ok (.putfield 7, 3) := by decide +kernel
theorem dX11_init_13 : decode cX11_init 13 = .ok (.aload_n 0, 1) := by decide +kernel
theorem dX11_init_14 : decode cX11_init 14 = .ok (.sipush 364, 3) := by decide +kernel
theorem dX11_init_17 : decode cX11_init 17 = .ok (.newarray .int, 2) := by decide +kernel
theorem dX11_init_19 : decode cX11_init 19 = .ok (.putfield 13, 3) := by decide +kernel
theorem dX11_init_22 : decode cX11_init 22 = .ok (.aload_n 0, 1) := by decide +kernel
theorem dX11_init_23 : decode cX11_init 23 = .ok (.iconst 2, 1) := by decide +kernel
theorem dX11_init_24 : decode cX11_init 24 = .ok (.newarray .boolean, 2) := by decide +kernel
theorem dX11_init_26 : decode cX11_init 26 = .ok (.putfield 16, 3) := by decide +kernel
theorem dX11_init_29 : decode cX11_init 29 = .ok (.aload_n 0, 1) := by decide +kernel
theorem dX11_init_30 : decode cX11_init 30 = .ok (.bipush 64, 2) := by decide +kernel
theorem dX11_init_32 : decode cX11_init 32 = .ok (.newarray .long, 2) := by decide +kernel
theorem dX11_init_34 : decode cX11_init 34 = .ok (.putfield 20, 3) := by decide +kernel
theorem dX11_init_37 : decode cX11_init 37 = .ok (.aload_n 0, 1) := by decide +kernel
theorem dX11_init_38 : decode cX11_init 38 = .ok (.sipush 128, 3) := by decide +kernel
theorem dX11_init_41 : decode cX11_init 41 = .ok (.newarray .int, 2) := by decide +kernel
theorem dX11_init_43 : decode cX11_init 43 = .ok (.putfield 24, 3) := by decide +kernel
theorem dX11_init_46 : decode cX11_init 46 = .ok (.aload_n 0, 1) := by decide +kernel
theorem dX11_init_47 : decode cX11_init 47 = .ok (.iconst 5, 1) := by decide +kernel
theorem dX11_init_48 : decode cX11_init 48 = .ok (.newarray .long, 2) := by decide +kernel
theorem dX11_init_50 : decode cX11_init 50 = .ok (.putfield 27, 3) := by decide +kernel
theorem dX11_init_53 : decode cX11_init 53 = .ok (.aload_n 0, 1) := by decide +kernel
theorem dX11_init_54 : decode cX11_init 54 = .ok (.bipush 16, 2) := by decide +kernel
theorem dX11_init_56 : decode cX11_init 56 = .ok (.newarray .int, 2) := by decide +kernel
theorem dX11_init_58 : decode cX11_init 58 = .ok (.putfield 30, 3) := by decide +kernel
theorem dX11_init_61 : decode cX11_init 61 = .ok (.aload_n 0, 1) := by decide +kernel
theorem dX11_init_62 : decode cX11_init 62 = .ok (.bipush 13, 2) := by decide +kernel
theorem dX11_init_64 : decode cX11_init 64 = .ok (.newarray .long, 2) := by decide +kernel
theorem dX11_init_66 : decode cX11_init 66 = .ok (.putfield 33, 3) := by decide +kernel
theorem dX11_init_69 : decode cX11_init 69 = .ok (.aload_n 0, 1) := by decide +kernel
theorem dX11_init_70 : decode cX11_init 70 = .ok (.iconst 3, 1) := by decide +kernel
theorem dX11_init_71 : decode cX11_init 71 = .ok (.newarray .int, 2) := by decide +kernel
theorem dX11_init_73 : decode cX11_init 73 = .ok (.putfield 36, 3) := by decide +kernel
theorem dX11_init_76 : decode cX11_init 76 = .ok (.aload_n 0, 1) := by decide +kernel
theorem dX11_init_77 : decode cX11_init 77 = .ok (.iconst 3, 1) := by decide +kernel
theorem dX11_init_78 : decode cX11_init 78 = .ok (.newarray .int, 2) := by decide +kernel
theorem dX11_init_80 : decode cX11_init 80 = .ok (.putfield 39, 3) := by decide +kernel
theorem dX11_init_83 : decode cX11_init 83 = .ok (.aload_n 0, 1) := by decide +kernel
theorem dX11_init_84 : decode cX11_init 84 = .ok (.iconst 3, 1) := by decide +kernel
theorem dX11_init_85 : decode cX11_init 85 = .ok (.newarray .int, 2) := by decide +kernel
theorem dX11_init_87 : decode cX11_init 87 = .ok (.putfield 42, 3) := by decide +kernel
theorem dX11_init_90 : decode cX11_init 90 = .ok (.aload_n 0, 1) := by decide +kernel
theorem dX11_init_91 : decode cX11_init 91 = .ok (.iconst (-1), 1) := by decide +kernel
theorem dX11_init_92 : decode cX11_init 92 = .ok (.putfield 45, 3) := by decide +kernel
theorem dX11_init_95 : decode cX11_init 95 = .ok (.aload_n 0, 1) := by decide +kernel
theorem dX11_init_96 : decode cX11_init 96 = .ok (.iconst (-1), 1) := by decide +kernel
theorem dX11_init_97 : decode cX11_init 97 = .ok (.putfield 49, 3) := by decide +kernel
theorem dX11_init_100 : decode cX11_init 100 = .ok (.aload_n 0, 1) := by decide +kernel
theorem dX11_init_101 : decode cX11_init 101 = .ok (.iconst 4, 1) := by decide +kernel
theorem dX11_init_102 : decode cX11_init 102 = .ok (.newarray .int, 2) := by decide +kernel
theorem dX11_init_104 : decode cX11_init 104 = .ok (.putfield 52, 3) := by decide +kernel
theorem dX11_init_107 : decode cX11_init 107 = .ok (.aload_n 0, 1) := by decide +kernel
theorem dX11_init_108 : decode cX11_init 108 = .ok (.iconst 3, 1) := by decide +kernel
theorem dX11_init_109 : decode cX11_init 109 = .ok (.newarray .int, 2) := by decide +kernel
theorem dX11_init_111 : decode cX11_init 111 = .ok (.putfield 55, 3) := by decide +kernel
theorem dX11_init_114 : decode cX11_init 114 = .ok (.aload_n 0, 1) := by decide +kernel
theorem dX11_init_115 : decode cX11_init 115 = .ok (.iconst 3, 1) := by decide +kernel
theorem dX11_init_116 : decode cX11_init 116 = .ok (.newarray .int, 2) := by decide +kernel
theorem dX11_init_118 : decode cX11_init 118 = .ok (.putfield 58, 3) := by decide +kernel
theorem dX11_init_121 : decode cX11_init 121 = .ok (.aload_n 0, 1) := by decide +kernel
theorem dX11_init_122 : decode cX11_init 122 = .ok (.sipush 615, 3) := by decide +kernel
theorem dX11_init_125 : decode cX11_init 125 = .ok (.newarray .int, 2) := by decide +kernel
theorem dX11_init_127 : decode cX11_init 127 = .ok (.putfield 61, 3) := by decide +kernel
theorem dX11_init_130 : decode cX11_init 130 = .ok (.aload_n 0, 1) := by decide +kernel
theorem dX11_init_131 : decode cX11_init 131 = .ok (.sipush 183, 3) := by decide +kernel
theorem dX11_init_134 : decode cX11_init 134 = .ok (.newarray .int, 2) := by decide +kernel
theorem dX11_init_136 : decode cX11_init 136 = .ok (.putfield 64, 3) := by decide +kernel
theorem dX11_init_139 : decode cX11_init 139 = .ok (.aload_n 0, 1) := by decide +kernel
theorem dX11_init_140 : decode cX11_init 140 = .ok (.iconst 3, 1) := by decide +kernel
theorem dX11_init_141 : decode cX11_init 141 = .ok (.newarray .int, 2) := by decide +kernel
theorem dX11_init_143 : decode cX11_init 143 = .ok (.putfield 67, 3) := by decide +kernel
theorem dX11_init_146 : decode cX11_init 146 = .ok (.aload_n 0, 1) := by decide +kernel
theorem dX11_init_147 : decode cX11_init 147 = .ok (.iconst 5, 1) := by decide +kernel
theorem dX11_init_148 : decode cX11_init 148 = .ok (.newarray .int, 2) := by decide +kernel
theorem dX11_init_150 : decode cX11_init 150 = .ok (.putfield 70, 3) := by decide +kernel
theorem dX11_init_153 : decode cX11_init 153 = .ok (.aload_n 0, 1) := by decide +kernel
theorem dX11_init_154 : decode cX11_init 154 = .ok (.bipush 15, 2) := by decide +kernel
theorem dX11_init_156 : decode cX11_init 156 = .ok (.newarray .int, 2) := by decide +kernel
theorem dX11_init_158 : decode cX11_init 158 = .ok (.putfield 73, 3) := by decide +kernel
theorem dX11_init_161 : decode cX11_init 161 = .ok (.aload_n 0, 1) := by decide +kernel
theorem dX11_init_162 : decode cX11_init 162 = .ok (.getfield 7, 3) := by decide +kernel
theorem dX11_init_165 : decode cX11_init 165 = .ok (.bipush 53, 2) := by decide +kernel
theorem dX11_init_167 : decode cX11_init 167 = .ok (.bipush 10, 2) := by decide +kernel
theorem dX11_init_169 : decode cX11_init 169 = .ok (.iastore, 1) := by decide +kernel
theorem dX11_init_170 : decode cX11_init 170 = .ok (.aload_n 0, 1) := by decide +kernel
theorem dX11_init_171 : decode cX11_init 171 = .ok (.getfield 7, 3) := by decide +kernel
theorem dX11_init_174 : decode cX11_init 174 = .ok (.bipush 55, 2) := by decide +kernel
theorem dX11_init_176 : decode cX11_init 176 = .ok (.bipush 40, 2) := by decide +kernel
theorem dX11_init_178 : decode cX11_init 178 = .ok (.iastore, 1) := by decide +kernel
theorem dX11_init_179 : decode cX11_init 179 = .ok (.return_, 1) := by decide +kernel
theorem dX11_in_0 : decode cX11_in 0 = .ok (.lload_n 0, 1) := by decide +kernel
theorem dX11_in_1 : decode cX11_in 1 = .ok (.lload_n 2, 1) := by decide +kernel
theorem dX11_in_2 : decode cX11_in 2 = .ok (.lcmp, 1) := by decide +kernel
theorem dX11_in_3 : decode cX11_in 3 = .ok (.ifCond .lt 14, 3) := by decide +kernel
theorem dX11_in_6 : decode cX11_in 6 = .ok (.lload_n 0, 1) := by decide +kernel
theorem dX11_in_7 : decode cX11_in 7 = .ok (.lload 4, 2) := by decide +kernel
theorem dX11_in_9 : decode cX11_in 9 = .ok (.lcmp, 1) := by decide +kernel
theorem dX11_in_10 : decode cX11_in 10 = .ok (.ifCond .gt 7, 3) := by decide +kernel
theorem dX11_in_13 : decode cX11_in 13 = .ok (.iconst 1, 1) := by decide +kernel
theorem dX11_in_14 : decode cX11_in 14 = .ok (.goto 4, 3) := by decide +kernel
theorem dX11_in_17 : decode cX11_in 17 = .ok (.iconst 0, 1) := by decide +kernel
theorem dX11_in_18 : decode cX11_in 18 = .ok (.ireturn, 1) := by decide +kernel
theorem dX11_givers_0 : decode cX11_givers 0 = .ok (.aload_n 0, 1) := by decide +kernel
theorem dX11_givers_1 : decode cX11_givers 1 = .ok (.getfield 7, 3) := by decide +kernel
theorem dX11_givers_4 : decode cX11_givers 4 = .ok (.sipush 180, 3) := by decide +kernel
theorem dX11_givers_7 : decode cX11_givers 7 = .ok (.iaload, 1) := by decide +kernel
theorem dX11_givers_8 : decode cX11_givers 8 = .ok (.ireturn, 1) := by decide +kernel
theorem dX11_works_0 : decode cX11_works 0 = .ok (.aload_n 0, 1) := by decide +kernel
theorem dX11_works_1 : decode cX11_works 1 = .ok (.getfield 7, 3) := by decide +kernel
theorem dX11_works_4 : decode cX11_works 4 = .ok (.sipush 181, 3) := by decide +kernel
theorem dX11_works_7 : decode cX11_works 7 = .ok (.iaload, 1) := by decide +kernel
theorem dX11_works_8 : decode cX11_works 8 = .ok (.ireturn, 1) := by decide +kernel
theorem dX11_isGiver_0 : decode cX11_isGiver 0 = .ok (.iload_n 1, 1) := by decide +kernel
theorem dX11_isGiver_1 : decode cX11_isGiver 1 = .ok (.i2l, 1) := by decide +kernel
theorem dX11_isGiver_2 : decode cX11_isGiver 2 = .ok (.lconst 0, 1) := by decide +kernel
theorem dX11_isGiver_3 : decode cX11_isGiver 3 = .ok (.aload_n 0, 1) := by decide +kernel
theorem dX11_isGiver_4 : decode cX11_isGiver 4 = .ok (.invokevirtual 76, 3) := by decide +kernel
theorem dX11_isGiver_7 : decode cX11_isGiver 7 = .ok (.iconst 1, 1) := by decide +kernel
theorem dX11_isGiver_8 : decode cX11_isGiver 8 = .ok (.isub, 1) := by decide +kernel
theorem dX11_isGiver_9 : decode cX11_isGiver 9 = .ok (.i2l, 1) := by decide +kernel
theorem dX11_isGiver_10 : decode cX11_isGiver 10 = .ok (.invokestatic 80, 3) := by decide +kernel
theorem dX11_isGiver_13 : decode cX11_isGiver 13 = .ok (.ireturn, 1) := by decide +kernel
theorem dX11_isWork_0 : decode cX11_isWork 0 = .ok (.iload_n 1, 1) := by decide +kernel
theorem dX11_isWork_1 : decode cX11_isWork 1 = .ok (.i2l, 1) := by decide +kernel
theorem dX11_isWork_2 : decode cX11_isWork 2 = .ok (.lconst 0, 1) := by decide +kernel
theorem dX11_isWork_3 : decode cX11_isWork 3 = .ok (.aload_n 0, 1) := by decide +kernel
theorem dX11_isWork_4 : decode cX11_isWork 4 = .ok (.invokevirtual 84, 3) := by decide +kernel
theorem dX11_isWork_7 : decode cX11_isWork 7 = .ok (.iconst 1, 1) := by decide +kernel
theorem dX11_isWork_8 : decode cX11_isWork 8 = .ok (.isub, 1) := by decide +kernel
theorem dX11_isWork_9 : decode cX11_isWork 9 = .ok (.i2l, 1) := by decide +kernel
theorem dX11_isWork_10 : decode cX11_isWork 10 = .ok (.invokestatic 80, 3) := by decide +kernel
theorem dX11_isWork_13 : decode cX11_isWork 13 = .ok (.ireturn, 1) := by decide +kernel
theorem dX11_gift_0 : decode cX11_gift 0 = .ok (.aload_n 0, 1) := by decide +kernel
theorem dX11_gift_1 : decode cX11_gift 1 = .ok (.getfield 7, 3) := by decide +kernel
theorem dX11_gift_4 : decode cX11_gift 4 = .ok (.bipush 35, 2) := by decide +kernel
theorem dX11_gift_6 : decode cX11_gift 6 = .ok (.iconst 3, 1) := by decide +kernel
theorem dX11_gift_7 : decode cX11_gift 7 = .ok (.iload_n 1, 1) := by decide +kernel
theorem dX11_gift_8 : decode cX11_gift 8 = .ok (.imul, 1) := by decide +kernel
theorem dX11_gift_9 : decode cX11_gift 9 = .ok (.iadd, 1) := by decide +kernel
theorem dX11_gift_10 : decode cX11_gift 10 = .ok (.iload_n 2, 1) := by decide +kernel
theorem dX11_gift_11 : decode cX11_gift 11 = .ok (.iadd, 1) := by decide +kernel
theorem dX11_gift_12 : decode cX11_gift 12 = .ok (.iaload, 1) := by decide +kernel
theorem dX11_gift_13 : decode cX11_gift 13 = .ok (.ireturn, 1) := by decide +kernel
theorem dX11_giver_0 : decode cX11_giver 0 = .ok (.iload_n 1, 1) := by decide +kernel
theorem dX11_giver_1 : decode cX11_giver 1 = .ok (.i2l, 1) := by decide +kernel
theorem dX11_giver_2 : decode cX11_giver 2 = .ok (.lconst 0, 1) := by decide +kernel
theorem dX11_giver_3 : decode cX11_giver 3 = .ok (.ldc2_w 87, 3) := by decide +kernel
theorem dX11_giver_6 : decode cX11_giver 6 = .ok (.invokestatic 80, 3) := by decide +kernel
theorem dX11_giver_9 : decode cX11_giver 9 = .ok (.ifCond .ne 6, 3) := by decide +kernel
theorem dX11_giver_12 : decode cX11_giver 12 = .ok (.bipush (-2), 2) := by decide +kernel
theorem dX11_giver_14 : decode cX11_giver 14 = .ok (.ireturn, 1) := by decide +kernel
theorem dX11_giver_15 : decode cX11_giver 15 = .ok (.aload_n 0, 1) := by decide +kernel
theorem dX11_giver_16 : decode cX11_giver 16 = .ok (.invokevirtual 76, 3) := by decide +kernel
theorem dX11_giver_19 : decode cX11_giver 19 = .ok (.iconst 5, 1) := by decide +kernel
theorem dX11_giver_20 : decode cX11_giver 20 = .ok (.if_icmp .ne 6, 3) := by decide +kernel
theorem dX11_giver_23 : decode cX11_giver 23 = .ok (.bipush (-4), 2) := by decide +kernel
theorem dX11_giver_25 : decode cX11_giver 25 = .ok (.ireturn, 1) := by decide +kernel
theorem dX11_giver_26 : decode cX11_giver 26 = .ok (.aload_n 0, 1) := by decide +kernel
theorem dX11_giver_27 : decode cX11_giver 27 = .ok (.getfield 7, 3) := by decide +kernel
theorem dX11_giver_30 : decode cX11_giver 30 = .ok (.iconst 0, 1) := by decide +kernel
theorem dX11_giver_31 : decode cX11_giver 31 = .ok (.aload_n 0, 1) := by decide +kernel
theorem dX11_giver_32 : decode cX11_giver 32 = .ok (.invokevirtual 76, 3) := by decide +kernel
theorem dX11_giver_35 : decode cX11_giver 35 = .ok (.iadd, 1) := by decide +kernel
theorem dX11_giver_36 : decode cX11_giver 36 = .ok (.iload_n 1, 1) := by decide +kernel
theorem dX11_giver_37 : decode cX11_giver 37 = .ok (.iastore, 1) := by decide +kernel
theorem dX11_giver_38 : decode cX11_giver 38 = .ok (.aload_n 0, 1) := by decide +kernel
theorem dX11_giver_39 : decode cX11_giver 39 = .ok (.getfield 7, 3) := by decide +kernel
theorem dX11_giver_42 : decode cX11_giver 42 = .ok (.sipush 180, 3) := by decide +kernel
theorem dX11_giver_45 : decode cX11_giver 45 = .ok (.dup2, 1) := by decide +kernel
theorem dX11_giver_46 : decode cX11_giver 46 = .ok (.iaload, 1) := by decide +kernel
theorem dX11_giver_47 : decode cX11_giver 47 = .ok (.iconst 1, 1) := by decide +kernel
theorem dX11_giver_48 : decode cX11_giver 48 = .ok (.iadd, 1) := by decide +kernel
theorem dX11_giver_49 : decode cX11_giver 49 = .ok (.iastore, 1) := by decide +kernel
theorem dX11_giver_50 : decode cX11_giver 50 = .ok (.aload_n 0, 1) := by decide +kernel
theorem dX11_giver_51 : decode cX11_giver 51 = .ok (.invokevirtual 76, 3) := by decide +kernel
theorem dX11_giver_54 : decode cX11_giver 54 = .ok (.iconst 1, 1) := by decide +kernel
theorem dX11_giver_55 : decode cX11_giver 55 = .ok (.isub, 1) := by decide +kernel
theorem dX11_giver_56 : decode cX11_giver 56 = .ok (.ireturn, 1) := by decide +kernel
theorem dX11_work_0 : decode cX11_work 0 = .ok (.iload_n 1, 1) := by decide +kernel
theorem dX11_work_1 : decode cX11_work 1 = .ok (.i2l, 1) := by decide +kernel
theorem dX11_work_2 : decode cX11_work 2 = .ok (.lconst 0, 1) := by decide +kernel
theorem dX11_work_3 : decode cX11_work 3 = .ok (.ldc2_w 89, 3) := by decide +kernel
theorem dX11_work_6 : decode cX11_work 6 = .ok (.invokestatic 80, 3) := by decide +kernel
theorem dX11_work_9 : decode cX11_work 9 = .ok (.ifCond .ne 6, 3) := by decide +kernel
theorem dX11_work_12 : decode cX11_work 12 = .ok (.bipush (-2), 2) := by decide +kernel
theorem dX11_work_14 : decode cX11_work 14 = .ok (.ireturn, 1) := by decide +kernel
theorem dX11_work_15 : decode cX11_work 15 = .ok (.aload_n 0, 1) := by decide +kernel
theorem dX11_work_16 : decode cX11_work 16 = .ok (.invokevirtual 84, 3) := by decide +kernel
theorem dX11_work_19 : decode cX11_work 19 = .ok (.iconst 3, 1) := by decide +kernel
theorem dX11_work_20 : decode cX11_work 20 = .ok (.if_icmp .ne 6, 3) := by decide +kernel
theorem dX11_work_23 : decode cX11_work 23 = .ok (.bipush (-4), 2) := by decide +kernel
theorem dX11_work_25 : decode cX11_work 25 = .ok (.ireturn, 1) := by decide +kernel
theorem dX11_work_26 : decode cX11_work 26 = .ok (.aload_n 0, 1) := by decide +kernel
theorem dX11_work_27 : decode cX11_work 27 = .ok (.getfield 7, 3) := by decide +kernel
theorem dX11_work_30 : decode cX11_work 30 = .ok (.bipush 50, 2) := by decide +kernel
theorem dX11_work_32 : decode cX11_work 32 = .ok (.aload_n 0, 1) := by decide +kernel
theorem dX11_work_33 : decode cX11_work 33 = .ok (.invokevirtual 84, 3) := by decide +kernel
theorem dX11_work_36 : decode cX11_work 36 = .ok (.iadd, 1) := by decide +kernel
theorem dX11_work_37 : decode cX11_work 37 = .ok (.iload_n 1, 1) := by decide +kernel
theorem dX11_work_38 : decode cX11_work 38 = .ok (.iastore, 1) := by decide +kernel
theorem dX11_work_39 : decode cX11_work 39 = .ok (.aload_n 0, 1) := by decide +kernel
theorem dX11_work_40 : decode cX11_work 40 = .ok (.getfield 7, 3) := by decide +kernel
theorem dX11_work_43 : decode cX11_work 43 = .ok (.sipush 181, 3) := by decide +kernel
theorem dX11_work_46 : decode cX11_work 46 = .ok (.dup2, 1) := by decide +kernel
theorem dX11_work_47 : decode cX11_work 47 = .ok (.iaload, 1) := by decide +kernel
theorem dX11_work_48 : decode cX11_work 48 = .ok (.iconst 1, 1) := by decide +kernel
theorem dX11_work_49 : decode cX11_work 49 = .ok (.iadd, 1) := by decide +kernel
theorem dX11_work_50 : decode cX11_work 50 = .ok (.iastore, 1) := by decide +kernel
theorem dX11_work_51 : decode cX11_work 51 = .ok (.aload_n 0, 1) := by decide +kernel
theorem dX11_work_52 : decode cX11_work 52 = .ok (.invokevirtual 84, 3) := by decide +kernel
theorem dX11_work_55 : decode cX11_work 55 = .ok (.iconst 1, 1) := by decide +kernel
theorem dX11_work_56 : decode cX11_work 56 = .ok (.isub, 1) := by decide +kernel
theorem dX11_work_57 : decode cX11_work 57 = .ok (.ireturn, 1) := by decide +kernel
theorem dX11_worth_0 : decode cX11_worth 0 = .ok (.aload_n 0, 1) := by decide +kernel
theorem dX11_worth_1 : decode cX11_worth 1 = .ok (.iload_n 1, 1) := by decide +kernel
theorem dX11_worth_2 : decode cX11_worth 2 = .ok (.invokevirtual 91, 3) := by decide +kernel
theorem dX11_worth_5 : decode cX11_worth 5 = .ok (.ifCond .eq 36, 3) := by decide +kernel
theorem dX11_worth_8 : decode cX11_worth 8 = .ok (.aload_n 0, 1) := by decide +kernel
theorem dX11_worth_9 : decode cX11_worth 9 = .ok (.iload_n 2, 1) := by decide +kernel
theorem dX11_worth_10 : decode cX11_worth 10 = .ok (.invokevirtual 95, 3) := by decide +kernel
