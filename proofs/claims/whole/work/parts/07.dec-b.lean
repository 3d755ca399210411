theorem dX7_init_0 : decode cX7_init 0 = .ok (.aload_n 0, 1) := by decide +kernel
theorem dX7_init_1 : decode cX7_init 1 = .ok (.invokespecial 1, 3) := by decide +kernel
theorem dX7_init_4 : decode cX7_init 4 = .ok (.aload_n 0, 1) := by decide +kernel
theorem dX7_init_5 : decode cX7_init 5 = .ok (.new 7, 3) := by decide +kernel
theorem dX7_init_8 : decode cX7_init 8 = .ok (.dup, 1) := by decide +kernel
theorem dX7_init_9 : decode cX7_init 9 = .ok (.invokespecial 9, 3) := by decide +kernel
theorem dX7_init_12 : decode cX7_init 12 = .ok (.putfield 10, 3) := by decide +kernel
theorem dX7_init_15 : decode cX7_init 15 = .ok (.aload_n 0, 1) := by decide +kernel
theorem dX7_init_16 : decode cX7_init 16 = .ok (.new 16, 3) := by decide +kernel
theorem dX7_init_19 : decode cX7_init 19 = .ok (.dup, 1) := by decide +kernel
theorem dX7_init_20 : decode cX7_init 20 = .ok (.invokespecial 18, 3) := by decide +kernel
theorem dX7_init_23 : decode cX7_init 23 = .ok (.putfield 19, 3) := by decide +kernel
theorem dX7_init_26 : decode cX7_init 26 = .ok (.aload_n 0, 1) := by decide +kernel
theorem dX7_init_27 : decode cX7_init 27 = .ok (.new 23, 3) := by decide +kernel
theorem dX7_init_30 : decode cX7_init 30 = .ok (.dup, 1) := by decide +kernel
theorem dX7_init_31 : decode cX7_init 31 = .ok (.invokespecial 25, 3) := by decide +kernel
theorem dX7_init_34 : decode cX7_init 34 = .ok (.putfield 26, 3) := by decide +kernel
theorem dX7_init_37 : decode cX7_init 37 = .ok (.aload_n 0, 1) := by decide +kernel
theorem dX7_init_38 : decode cX7_init 38 = .ok (.new 30, 3) := by decide +kernel
theorem dX7_init_41 : decode cX7_init 41 = .ok (.dup, 1) := by decide +kernel
theorem dX7_init_42 : decode cX7_init 42 = .ok (.invokespecial 32, 3) := by decide +kernel
theorem dX7_init_45 : decode cX7_init 45 = .ok (.putfield 33, 3) := by decide +kernel
theorem dX7_init_48 : decode cX7_init 48 = .ok (.aload_n 0, 1) := by decide +kernel
theorem dX7_init_49 : decode cX7_init 49 = .ok (.new 37, 3) := by decide +kernel
theorem dX7_init_52 : decode cX7_init 52 = .ok (.dup, 1) := by decide +kernel
theorem dX7_init_53 : decode cX7_init 53 = .ok (.invokespecial 39, 3) := by decide +kernel
theorem dX7_init_56 : decode cX7_init 56 = .ok (.putfield 40, 3) := by decide +kernel
theorem dX7_init_59 : decode cX7_init 59 = .ok (.aload_n 0, 1) := by decide +kernel
theorem dX7_init_60 : decode cX7_init 60 = .ok (.new 44, 3) := by decide +kernel
theorem dX7_init_63 : decode cX7_init 63 = .ok (.dup, 1) := by decide +kernel
theorem dX7_init_64 : decode cX7_init 64 = .ok (.invokespecial 46, 3) := by decide +kernel
theorem dX7_init_67 : decode cX7_init 67 = .ok (.putfield 47, 3) := by decide +kernel
theorem dX7_init_70 : decode cX7_init 70 = .ok (.return_, 1) := by decide +kernel
theorem dX7_write_0 : decode cX7_write 0 = .ok (.iload_n 1, 1) := by decide +kernel
theorem dX7_write_1 : decode cX7_write 1 = .ok (.ifCond .lt 10, 3) := by decide +kernel
theorem dX7_write_4 : decode cX7_write 4 = .ok (.iload_n 1, 1) := by decide +kernel
theorem dX7_write_5 : decode cX7_write 5 = .ok (.sipush 255, 3) := by decide +kernel
theorem dX7_write_8 : decode cX7_write 8 = .ok (.if_icmp .le 6, 3) := by decide +kernel
theorem dX7_write_11 : decode cX7_write 11 = .ok (.bipush (-2), 2) := by decide +kernel
theorem dX7_write_13 : decode cX7_write 13 = .ok (.ireturn, 1) := by decide +kernel
theorem dX7_write_14 : decode cX7_write 14 = .ok (.aload_n 0, 1) := by decide +kernel
theorem dX7_write_15 : decode cX7_write 15 = .ok (.getfield 10, 3) := by decide +kernel
theorem dX7_write_18 : decode cX7_write 18 = .ok (.getfield 51, 3) := by decide +kernel
theorem dX7_write_21 : decode cX7_write 21 = .ok (.bipush 40, 2) := by decide +kernel
theorem dX7_write_23 : decode cX7_write 23 = .ok (.if_icmp .lt 6, 3) := by decide +kernel
theorem dX7_write_26 : decode cX7_write 26 = .ok (.bipush (-4), 2) := by decide +kernel
theorem dX7_write_28 : decode cX7_write 28 = .ok (.ireturn, 1) := by decide +kernel
theorem dX7_write_29 : decode cX7_write 29 = .ok (.aload_n 0, 1) := by decide +kernel
theorem dX7_write_30 : decode cX7_write 30 = .ok (.getfield 10, 3) := by decide +kernel
theorem dX7_write_33 : decode cX7_write 33 = .ok (.iload_n 1, 1) := by decide +kernel
theorem dX7_write_34 : decode cX7_write 34 = .ok (.invokevirtual 55, 3) := by decide +kernel
theorem dX7_write_37 : decode cX7_write 37 = .ok (.aload_n 0, 1) := by decide +kernel
theorem dX7_write_38 : decode cX7_write 38 = .ok (.getfield 10, 3) := by decide +kernel
theorem dX7_write_41 : decode cX7_write 41 = .ok (.getfield 51, 3) := by decide +kernel
theorem dX7_write_44 : decode cX7_write 44 = .ok (.ireturn, 1) := by decide +kernel
theorem dX7_wipe_0 : decode cX7_wipe 0 = .ok (.aload_n 0, 1) := by decide +kernel
theorem dX7_wipe_1 : decode cX7_wipe 1 = .ok (.getfield 10, 3) := by decide +kernel
theorem dX7_wipe_4 : decode cX7_wipe 4 = .ok (.getfield 51, 3) := by decide +kernel
theorem dX7_wipe_7 : decode cX7_wipe 7 = .ok (.istore_n 1, 1) := by decide +kernel
theorem dX7_wipe_8 : decode cX7_wipe 8 = .ok (.aload_n 0, 1) := by decide +kernel
theorem dX7_wipe_9 : decode cX7_wipe 9 = .ok (.getfield 10, 3) := by decide +kernel
theorem dX7_wipe_12 : decode cX7_wipe 12 = .ok (.iconst 0, 1) := by decide +kernel
theorem dX7_wipe_13 : decode cX7_wipe 13 = .ok (.putfield 51, 3) := by decide +kernel
theorem dX7_wipe_16 : decode cX7_wipe 16 = .ok (.iload_n 1, 1) := by decide +kernel
theorem dX7_wipe_17 : decode cX7_wipe 17 = .ok (.ireturn, 1) := by decide +kernel
theorem dX7_fault_0 : decode cX7_fault 0 = .ok (.aload_n 0, 1) := by decide +kernel
theorem dX7_fault_1 : decode cX7_fault 1 = .ok (.getfield 10, 3) := by decide +kernel
theorem dX7_fault_4 : decode cX7_fault 4 = .ok (.invokevirtual 59, 3) := by decide +kernel
theorem dX7_fault_7 : decode cX7_fault 7 = .ok (.ireturn, 1) := by decide +kernel
theorem dX7_canal_0 : decode cX7_canal 0 = .ok (.aload_n 0, 1) := by decide +kernel
theorem dX7_canal_1 : decode cX7_canal 1 = .ok (.getfield 10, 3) := by decide +kernel
theorem dX7_canal_4 : decode cX7_canal 4 = .ok (.invokevirtual 59, 3) := by decide +kernel
theorem dX7_canal_7 : decode cX7_canal 7 = .ok (.bipush (-9), 2) := by decide +kernel
theorem dX7_canal_9 : decode cX7_canal 9 = .ok (.if_icmp .eq 6, 3) := by decide +kernel
theorem dX7_canal_12 : decode cX7_canal 12 = .ok (.bipush (-3), 2) := by decide +kernel
theorem dX7_canal_14 : decode cX7_canal 14 = .ok (.ireturn, 1) := by decide +kernel
theorem dX7_canal_15 : decode cX7_canal 15 = .ok (.aload_n 0, 1) := by decide +kernel
theorem dX7_canal_16 : decode cX7_canal 16 = .ok (.getfield 19, 3) := by decide +kernel
theorem dX7_canal_19 : decode cX7_canal 19 = .ok (.aload_n 0, 1) := by decide +kernel
theorem dX7_canal_20 : decode cX7_canal 20 = .ok (.getfield 10, 3) := by decide +kernel
theorem dX7_canal_23 : decode cX7_canal 23 = .ok (.invokevirtual 63, 3) := by decide +kernel
theorem dX7_canal_26 : decode cX7_canal 26 = .ok (.aload_n 0, 1) := by decide +kernel
theorem dX7_canal_27 : decode cX7_canal 27 = .ok (.getfield 26, 3) := by decide +kernel
theorem dX7_canal_30 : decode cX7_canal 30 = .ok (.invokevirtual 67, 3) := by decide +kernel
theorem dX7_canal_33 : decode cX7_canal 33 = .ok (.aload_n 0, 1) := by decide +kernel
theorem dX7_canal_34 : decode cX7_canal 34 = .ok (.getfield 33, 3) := by decide +kernel
theorem dX7_canal_37 : decode cX7_canal 37 = .ok (.invokevirtual 70, 3) := by decide +kernel
theorem dX7_canal_40 : decode cX7_canal 40 = .ok (.bipush 10, 2) := by decide +kernel
theorem dX7_canal_42 : decode cX7_canal 42 = .ok (.aload_n 0, 1) := by decide +kernel
theorem dX7_canal_43 : decode cX7_canal 43 = .ok (.getfield 19, 3) := by decide +kernel
theorem dX7_canal_46 : decode cX7_canal 46 = .ok (.getfield 71, 3) := by decide +kernel
theorem dX7_canal_49 : decode cX7_canal 49 = .ok (.imul, 1) := by decide +kernel
theorem dX7_canal_50 : decode cX7_canal 50 = .ok (.aload_n 0, 1) := by decide +kernel
theorem dX7_canal_51 : decode cX7_canal 51 = .ok (.getfield 19, 3) := by decide +kernel
theorem dX7_canal_54 : decode cX7_canal 54 = .ok (.getfield 74, 3) := by decide +kernel
theorem dX7_canal_57 : decode cX7_canal 57 = .ok (.iadd, 1) := by decide +kernel
theorem dX7_canal_58 : decode cX7_canal 58 = .ok (.ireturn, 1) := by decide +kernel
theorem dX7_barge_0 : decode cX7_barge 0 = .ok (.aload_n 0, 1) := by decide +kernel
theorem dX7_barge_1 : decode cX7_barge 1 = .ok (.getfield 19, 3) := by decide +kernel
theorem dX7_barge_4 : decode cX7_barge 4 = .ok (.iload_n 1, 1) := by decide +kernel
theorem dX7_barge_5 : decode cX7_barge 5 = .ok (.invokevirtual 77, 3) := by decide +kernel
theorem dX7_barge_8 : decode cX7_barge 8 = .ok (.ifCond .ne 5, 3) := by decide +kernel
theorem dX7_barge_11 : decode cX7_barge 11 = .ok (.iconst (-1), 1) := by decide +kernel
theorem dX7_barge_12 : decode cX7_barge 12 = .ok (.ireturn, 1) := by decide +kernel
theorem dX7_barge_13 : decode cX7_barge 13 = .ok (.iload_n 2, 1) := by decide +kernel
theorem dX7_barge_14 : decode cX7_barge 14 = .ok (.tableswitch 92 0 4 #[34, 44, 54, 67, 79], 34) := by decide +kernel
theorem dX7_barge_48 : decode cX7_barge 48 = .ok (.aload_n 0, 1) := by decide +kernel
theorem dX7_barge_49 : decode cX7_barge 49 = .ok (.getfield 19, 3) := by decide +kernel
theorem dX7_barge_52 : decode cX7_barge 52 = .ok (.getfield 81, 3) := by decide +kernel
theorem dX7_barge_55 : decode cX7_barge 55 = .ok (.iload_n 1, 1) := by decide +kernel
theorem dX7_barge_56 : decode cX7_barge 56 = .ok (.iaload, 1) := by decide +kernel
theorem dX7_barge_57 : decode cX7_barge 57 = .ok (.ireturn, 1) := by decide +kernel
theorem dX7_barge_58 : decode cX7_barge 58 = .ok (.aload_n 0, 1) := by decide +kernel
theorem dX7_barge_59 : decode cX7_barge 59 = .ok (.getfield 19, 3) := by decide +kernel
theorem dX7_barge_62 : decode cX7_barge 62 = .ok (.getfield 85, 3) := by decide +kernel
theorem dX7_barge_65 : decode cX7_barge 65 = .ok (.iload_n 1, 1) := by decide +kernel
theorem dX7_barge_66 : decode cX7_barge 66 = .ok (.iaload, 1) := by decide +kernel
theorem dX7_barge_67 : decode cX7_barge 67 = .ok (.ireturn, 1) := by decide +kernel
theorem dX7_barge_68 : decode cX7_barge 68 = .ok (.aload_n 0, 1) := by decide +kernel
theorem dX7_barge_69 : decode cX7_barge 69 = .ok (.getfield 19, 3) := by decide +kernel
theorem dX7_barge_72 : decode cX7_barge 72 = .ok (.getfield 88, 3) := by decide +kernel
theorem dX7_barge_75 : decode cX7_barge 75 = .ok (.getfield 92, 3) := by decide +kernel
theorem dX7_barge_78 : decode cX7_barge 78 = .ok (.iload_n 1, 1) := by decide +kernel
theorem dX7_barge_79 : decode cX7_barge 79 = .ok (.iaload, 1) := by decide +kernel
theorem dX7_barge_80 : decode cX7_barge 80 = .ok (.ireturn, 1) := by decide +kernel
theorem dX7_barge_81 : decode cX7_barge 81 = .ok (.aload_n 0, 1) := by decide +kernel
theorem dX7_barge_82 : decode cX7_barge 82 = .ok (.getfield 19, 3) := by decide +kernel
theorem dX7_barge_85 : decode cX7_barge 85 = .ok (.getfield 88, 3) := by decide +kernel
theorem dX7_barge_88 : decode cX7_barge 88 = .ok (.iload_n 1, 1) := by decide +kernel
theorem dX7_barge_89 : decode cX7_barge 89 = .ok (.invokevirtual 97, 3) := by decide +kernel
theorem dX7_barge_92 : decode cX7_barge 92 = .ok (.ireturn, 1) := by decide +kernel
theorem dX7_barge_93 : decode cX7_barge 93 = .ok (.aload_n 0, 1) := by decide +kernel
theorem dX7_barge_94 : decode cX7_barge 94 = .ok (.getfield 19, 3) := by decide +kernel
theorem dX7_barge_97 : decode cX7_barge 97 = .ok (.getfield 88, 3) := by decide +kernel
theorem dX7_barge_100 : decode cX7_barge 100 = .ok (.getfield 101, 3) := by decide +kernel
theorem dX7_barge_103 : decode cX7_barge 103 = .ok (.iload_n 1, 1) := by decide +kernel
theorem dX7_barge_104 : decode cX7_barge 104 = .ok (.iaload, 1) := by decide +kernel
theorem dX7_barge_105 : decode cX7_barge 105 = .ok (.ireturn, 1) := by decide +kernel
theorem dX7_barge_106 : decode cX7_barge 106 = .ok (.bipush (-2), 2) := by decide +kernel
theorem dX7_barge_108 : decode cX7_barge 108 = .ok (.ireturn, 1) := by decide +kernel
theorem dX7_lock_0 : decode cX7_lock 0 = .ok (.aload_n 0, 1) := by decide +kernel
theorem dX7_lock_1 : decode cX7_lock 1 = .ok (.getfield 19, 3) := by decide +kernel
theorem dX7_lock_4 : decode cX7_lock 4 = .ok (.iload_n 1, 1) := by decide +kernel
theorem dX7_lock_5 : decode cX7_lock 5 = .ok (.invokevirtual 104, 3) := by decide +kernel
theorem dX7_lock_8 : decode cX7_lock 8 = .ok (.ifCond .ne 5, 3) := by decide +kernel
theorem dX7_lock_11 : decode cX7_lock 11 = .ok (.iconst (-1), 1) := by decide +kernel
theorem dX7_lock_12 : decode cX7_lock 12 = .ok (.ireturn, 1) := by decide +kernel
theorem dX7_lock_13 : decode cX7_lock 13 = .ok (.iload_n 2, 1) := by decide +kernel
theorem dX7_lock_14 : decode cX7_lock 14 = .ok (.tableswitch 68 0 2 #[26, 39, 56], 26) := by decide +kernel
theorem dX7_lock_40 : decode cX7_lock 40 = .ok (.aload_n 0, 1) := by decide +kernel
theorem dX7_lock_41 : decode cX7_lock 41 = .ok (.getfield 19, 3) := by decide +kernel
theorem dX7_lock_44 : decode cX7_lock 44 = .ok (.getfield 88, 3) := by decide +kernel
theorem dX7_lock_47 : decode cX7_lock 47 = .ok (.getfield 107, 3) := by decide +kernel
theorem dX7_lock_50 : decode cX7_lock 50 = .ok (.iload_n 1, 1) := by decide +kernel
theorem dX7_lock_51 : decode cX7_lock 51 = .ok (.iaload, 1) := by decide +kernel
theorem dX7_lock_52 : decode cX7_lock 52 = .ok (.ireturn, 1) := by decide +kernel
theorem dX7_lock_53 : decode cX7_lock 53 = .ok (.aload_n 0, 1) := by decide +kernel
theorem dX7_lock_54 : decode cX7_lock 54 = .ok (.getfield 19, 3) := by decide +kernel
theorem dX7_lock_57 : decode cX7_lock 57 = .ok (.iload_n 1, 1) := by decide +kernel
theorem dX7_lock_58 : decode cX7_lock 58 = .ok (.invokevirtual 110, 3) := by decide +kernel
theorem dX7_lock_61 : decode cX7_lock 61 = .ok (.ifCond .eq 7, 3) := by decide +kernel
theorem dX7_lock_64 : decode cX7_lock 64 = .ok (.iconst 1, 1) := by decide +kernel
theorem dX7_lock_65 : decode cX7_lock 65 = .ok (.goto 4, 3) := by decide +kernel
theorem dX7_lock_68 : decode cX7_lock 68 = .ok (.iconst 0, 1) := by decide +kernel
theorem dX7_lock_69 : decode cX7_lock 69 = .ok (.ireturn, 1) := by decide +kernel
theorem dX7_lock_70 : decode cX7_lock 70 = .ok (.aload_n 0, 1) := by decide +kernel
theorem dX7_lock_71 : decode cX7_lock 71 = .ok (.getfield 19, 3) := by decide +kernel
theorem dX7_lock_74 : decode cX7_lock 74 = .ok (.getfield 88, 3) := by decide +kernel
theorem dX7_lock_77 : decode cX7_lock 77 = .ok (.iload_n 1, 1) := by decide +kernel
theorem dX7_lock_78 : decode cX7_lock 78 = .ok (.invokevirtual 113, 3) := by decide +kernel
theorem dX7_lock_81 : decode cX7_lock 81 = .ok (.ireturn, 1) := by decide +kernel
theorem dX7_lock_82 : decode cX7_lock 82 = .ok (.bipush (-2), 2) := by decide +kernel
theorem dX7_lock_84 : decode cX7_lock 84 = .ok (.ireturn, 1) := by decide +kernel
theorem dX7_pass_0 : decode cX7_pass 0 = .ok (.aload_n 0, 1) := by decide +kernel
theorem dX7_pass_1 : decode cX7_pass 1 = .ok (.getfield 19, 3) := by decide +kernel
theorem dX7_pass_4 : decode cX7_pass 4 = .ok (.invokevirtual 116, 3) := by decide +kernel
theorem dX7_pass_7 : decode cX7_pass 7 = .ok (.ifCond .ne 6, 3) := by decide +kernel
theorem dX7_pass_10 : decode cX7_pass 10 = .ok (.bipush (-3), 2) := by decide +kernel
theorem dX7_pass_12 : decode cX7_pass 12 = .ok (.ireturn, 1) := by decide +kernel
theorem dX7_pass_13 : decode cX7_pass 13 = .ok (.aload_n 0, 1) := by decide +kernel
theorem dX7_pass_14 : decode cX7_pass 14 = .ok (.getfield 26, 3) := by decide +kernel
theorem dX7_pass_17 : decode cX7_pass 17 = .ok (.aload_n 0, 1) := by decide +kernel
theorem dX7_pass_18 : decode cX7_pass 18 = .ok (.getfield 19, 3) := by decide +kernel
theorem dX7_pass_21 : decode cX7_pass 21 = .ok (.getfield 88, 3) := by decide +kernel
theorem dX7_pass_24 : decode cX7_pass 24 = .ok (.invokevirtual 119, 3) := by decide +kernel
theorem dX7_pass_27 : decode cX7_pass 27 = .ok (.aload_n 0, 1) := by decide +kernel
theorem dX7_pass_28 : decode cX7_pass 28 = .ok (.getfield 19, 3) := by decide +kernel
theorem dX7_pass_31 : decode cX7_pass 31 = .ok (.aload_n 0, 1) := by decide +kernel
theorem dX7_pass_32 : decode cX7_pass 32 = .ok (.getfield 19, 3) := by decide +kernel
theorem dX7_pass_35 : decode cX7_pass 35 = .ok (.getfield 88, 3) := by decide +kernel
theorem dX7_pass_38 : decode cX7_pass 38 = .ok (.invokevirtual 123, 3) := by decide +kernel
theorem dX7_pass_41 : decode cX7_pass 41 = .ok (.aload_n 0, 1) := by decide +kernel
theorem dX7_pass_42 : decode cX7_pass 42 = .ok (.getfield 19, 3) := by decide +kernel
theorem dX7_pass_45 : decode cX7_pass 45 = .ok (.getfield 88, 3) := by decide +kernel
theorem dX7_pass_48 : decode cX7_pass 48 = .ok (.invokevirtual 126, 3) := by decide +kernel
theorem dX7_pass_51 : decode cX7_pass 51 = .ok (.ireturn, 1) := by decide +kernel
theorem dX7_give_0 : decode cX7_give 0 = .ok (.aload_n 0, 1) := by decide +kernel
theorem dX7_give_1 : decode cX7_give 1 = .ok (.getfield 19, 3) := by decide +kernel
theorem dX7_give_4 : decode cX7_give 4 = .ok (.iload_n 1, 1) := by decide +kernel
theorem dX7_give_5 : decode cX7_give 5 = .ok (.invokevirtual 77, 3) := by decide +kernel
theorem dX7_give_8 : decode cX7_give 8 = .ok (.ifCond .eq 14, 3) := by decide +kernel
theorem dX7_give_11 : decode cX7_give 11 = .ok (.aload_n 0, 1) := by decide +kernel
theorem dX7_give_12 : decode cX7_give 12 = .ok (.getfield 19, 3) := by decide +kernel
theorem dX7_give_15 : decode cX7_give 15 = .ok (.iload_n 2, 1) := by decide +kernel
theorem dX7_give_16 : decode cX7_give 16 = .ok (.invokevirtual 104, 3) := by decide +kernel
theorem dX7_give_19 : decode cX7_give 19 = .ok (.ifCond .ne 5, 3) := by decide +kernel
theorem dX7_give_22 : decode cX7_give 22 = .ok (.iconst (-1), 1) := by decide +kernel
theorem dX7_give_23 : decode cX7_give 23 = .ok (.ireturn, 1) := by decide +kernel
theorem dX7_give_24 : decode cX7_give 24 = .ok (.aload_n 0, 1) := by decide +kernel
theorem dX7_give_25 : decode cX7_give 25 = .ok (.getfield 19, 3) := by decide +kernel
theorem dX7_give_28 : decode cX7_give 28 = .ok (.getfield 88, 3) := by decide +kernel
theorem dX7_give_31 : decode cX7_give 31 = .ok (.getfield 92, 3) := by decide +kernel
theorem dX7_give_34 : decode cX7_give 34 = .ok (.iload_n 1, 1) := by decide +kernel
theorem dX7_give_35 : decode cX7_give 35 = .ok (.iaload, 1) := by decide +kernel
theorem dX7_give_36 : decode cX7_give 36 = .ok (.iconst 1, 1) := by decide +kernel
theorem dX7_give_37 : decode cX7_give 37 = .ok (.if_icmp .lt 14, 3) := by decide +kernel
theorem dX7_give_40 : decode cX7_give 40 = .ok (.aload_n 0, 1) := by decide +kernel
theorem dX7_give_41 : decode cX7_give 41 = .ok (.getfield 19, 3) := by decide +kernel
theorem dX7_give_44 : decode cX7_give 44 = .ok (.iload_n 2, 1) := by decide +kernel
theorem dX7_give_45 : decode cX7_give 45 = .ok (.invokevirtual 110, 3) := by decide +kernel
theorem dX7_give_48 : decode cX7_give 48 = .ok (.ifCond .eq 6, 3) := by decide +kernel
theorem dX7_give_51 : decode cX7_give 51 = .ok (.bipush (-3), 2) := by decide +kernel
theorem dX7_give_53 : decode cX7_give 53 = .ok (.ireturn, 1) := by decide +kernel
theorem dX7_give_54 : decode cX7_give 54 = .ok (.aload_n 0, 1) := by decide +kernel
theorem dX7_give_55 : decode cX7_give 55 = .ok (.getfield 26, 3) := by decide +kernel
theorem dX7_give_58 : decode cX7_give 58 = .ok (.aload_n 0, 1) := by decide +kernel
theorem dX7_give_59 : decode cX7_give 59 = .ok (.getfield 19, 3) := by decide +kernel
theorem dX7_give_62 : decode cX7_give 62 = .ok (.getfield 88, 3) := by decide +kernel
theorem dX7_give_65 : decode cX7_give 65 = .ok (.invokevirtual 119, 3) := by decide +kernel
theorem dX7_give_68 : decode cX7_give 68 = .ok (.aload_n 0, 1) := by decide +kernel
theorem dX7_give_69 : decode cX7_give 69 = .ok (.getfield 19, 3) := by decide +kernel
theorem dX7_give_72 : decode cX7_give 72 = .ok (.getfield 88, 3) := by decide +kernel
theorem dX7_give_75 : decode cX7_give 75 = .ok (.getfield 92, 3) := by decide +kernel
theorem dX7_give_78 : decode cX7_give 78 = .ok (.iload_n 1, 1) := by decide +kernel
theorem dX7_give_79 : decode cX7_give 79 = .ok (.dup2, 1) := by decide +kernel
theorem dX7_give_80 : decode cX7_give 80 = .ok (.iaload, 1) := by decide +kernel
theorem dX7_give_81 : decode cX7_give 81 = .ok (.iconst 1, 1) := by decide +kernel
theorem dX7_give_82 : decode cX7_give 82 = .ok (.isub, 1) := by decide +kernel
theorem dX7_give_83 : decode cX7_give 83 = .ok (.iastore, 1) := by decide +kernel
theorem dX7_give_84 : decode cX7_give 84 = .ok (.aload_n 0, 1) := by decide +kernel
theorem dX7_give_85 : decode cX7_give 85 = .ok (.getfield 19, 3) := by decide +kernel
theorem dX7_give_88 : decode cX7_give 88 = .ok (.getfield 88, 3) := by decide +kernel
theorem dX7_give_91 : decode cX7_give 91 = .ok (.iload_n 1, 1) := by decide +kernel
theorem dX7_give_92 : decode cX7_give 92 = .ok (.iload_n 2, 1) := by decide +kernel
theorem dX7_give_93 : decode cX7_give 93 = .ok (.iconst 1, 1) := by decide +kernel
theorem dX7_give_94 : decode cX7_give 94 = .ok (.invokevirtual 129, 3) := by decide +kernel
theorem dX7_give_97 : decode cX7_give 97 = .ok (.aload_n 0, 1) := by decide +kernel
theorem dX7_give_98 : decode cX7_give 98 = .ok (.getfield 19, 3) := by decide +kernel
theorem dX7_give_101 : decode cX7_give 101 = .ok (.getfield 88, 3) := by decide +kernel
theorem dX7_give_104 : decode cX7_give 104 = .ok (.iload_n 1, 1) := by decide +kernel
theorem dX7_give_105 : decode cX7_give 105 = .ok (.iload_n 2, 1) := by decide +kernel
theorem dX7_give_106 : decode cX7_give 106 = .ok (.invokevirtual 133, 3) := by decide +kernel
theorem dX7_give_109 : decode cX7_give 109 = .ok (.ireturn, 1) := by decide +kernel
theorem dX7_letBy_0 : decode cX7_letBy 0 = .ok (.aload_n 0, 1) := by decide +kernel
theorem dX7_letBy_1 : decode cX7_letBy 1 = .ok (.getfield 19, 3) := by decide +kernel
theorem dX7_letBy_4 : decode cX7_letBy 4 = .ok (.iload_n 1, 1) := by decide +kernel
theorem dX7_letBy_5 : decode cX7_letBy 5 = .ok (.invokevirtual 77, 3) := by decide +kernel
theorem dX7_letBy_8 : decode cX7_letBy 8 = .ok (.ifCond .ne 5, 3) := by decide +kernel
theorem dX7_letBy_11 : decode cX7_letBy 11 = .ok (.iconst (-1), 1) := by decide +kernel
theorem dX7_letBy_12 : decode cX7_letBy 12 = .ok (.ireturn, 1) := by decide +kernel
theorem dX7_letBy_13 : decode cX7_letBy 13 = .ok (.aload_n 0, 1) := by decide +kernel
theorem dX7_letBy_14 : decode cX7_letBy 14 = .ok (.getfield 19, 3) := by decide +kernel
theorem dX7_letBy_17 : decode cX7_letBy 17 = .ok (.getfield 88, 3) := by decide +kernel
theorem dX7_letBy_20 : decode cX7_letBy 20 = .ok (.iload_n 1, 1) := by decide +kernel
theorem dX7_letBy_21 : decode cX7_letBy 21 = .ok (.invokevirtual 97, 3) := by decide +kernel
theorem dX7_letBy_24 : decode cX7_letBy 24 = .ok (.istore_n 2, 1) := by decide +kernel
theorem dX7_letBy_25 : decode cX7_letBy 25 = .ok (.iload_n 2, 1) := by decide +kernel
theorem dX7_letBy_26 : decode cX7_letBy 26 = .ok (.aload_n 0, 1) := by decide +kernel
theorem dX7_letBy_27 : decode cX7_letBy 27 = .ok (.getfield 19, 3) := by decide +kernel
theorem dX7_letBy_30 : decode cX7_letBy 30 = .ok (.getfield 74, 3) := by decide +kernel
theorem dX7_letBy_33 : decode cX7_letBy 33 = .ok (.iconst 1, 1) := by decide +kernel
theorem dX7_letBy_34 : decode cX7_letBy 34 = .ok (.isub, 1) := by decide +kernel
theorem dX7_letBy_35 : decode cX7_letBy 35 = .ok (.if_icmp .lt 6, 3) := by decide +kernel
theorem dX7_letBy_38 : decode cX7_letBy 38 = .ok (.bipush (-3), 2) := by decide +kernel
theorem dX7_letBy_40 : decode cX7_letBy 40 = .ok (.ireturn, 1) := by decide +kernel
theorem dX7_letBy_41 : decode cX7_letBy 41 = .ok (.aload_n 0, 1) := by decide +kernel
theorem dX7_letBy_42 : decode cX7_letBy 42 = .ok (.getfield 26, 3) := by decide +kernel
theorem dX7_letBy_45 : decode cX7_letBy 45 = .ok (.aload_n 0, 1) := by decide +kernel
theorem dX7_letBy_46 : decode cX7_letBy 46 = .ok (.getfield 19, 3) := by decide +kernel
theorem dX7_letBy_49 : decode cX7_letBy 49 = .ok (.getfield 88, 3) := by decide +kernel
theorem dX7_letBy_52 : decode cX7_letBy 52 = .ok (.invokevirtual 119, 3) := by decide +kernel
theorem dX7_letBy_55 : decode cX7_letBy 55 = .ok (.aload_n 0, 1) := by decide +kernel
theorem dX7_letBy_56 : decode cX7_letBy 56 = .ok (.getfield 19, 3) := by decide +kernel
theorem dX7_letBy_59 : decode cX7_letBy 59 = .ok (.getfield 88, 3) := by decide +kernel
theorem dX7_letBy_62 : decode cX7_letBy 62 = .ok (.iload_n 2, 1) := by decide +kernel
theorem dX7_letBy_63 : decode cX7_letBy 63 = .ok (.invokevirtual 137, 3) := by decide +kernel
theorem dX7_letBy_66 : decode cX7_letBy 66 = .ok (.iload_n 2, 1) := by decide +kernel
theorem dX7_letBy_67 : decode cX7_letBy 67 = .ok (.iconst 1, 1) := by decide +kernel
theorem dX7_letBy_68 : decode cX7_letBy 68 = .ok (.iadd, 1) := by decide +kernel
theorem dX7_letBy_69 : decode cX7_letBy 69 = .ok (.ireturn, 1) := by decide +kernel
theorem dX7_learn_0 : decode cX7_learn 0 = .ok (.aload_n 0, 1) := by decide +kernel
theorem dX7_learn_1 : decode cX7_learn 1 = .ok (.getfield 19, 3) := by decide +kernel
theorem dX7_learn_4 : decode cX7_learn 4 = .ok (.iload_n 1, 1) := by decide +kernel
theorem dX7_learn_5 : decode cX7_learn 5 = .ok (.invokevirtual 104, 3) := by decide +kernel
theorem dX7_learn_8 : decode cX7_learn 8 = .ok (.ifCond .ne 5, 3) := by decide +kernel
theorem dX7_learn_11 : decode cX7_learn 11 = .ok (.iconst (-1), 1) := by decide +kernel
theorem dX7_learn_12 : decode cX7_learn 12 = .ok (.ireturn, 1) := by decide +kernel
theorem dX7_learn_13 : decode cX7_learn 13 = .ok (.iload_n 2, 1) := by decide +kernel
theorem dX7_learn_14 : decode cX7_learn 14 = .ok (.ifCond .lt 8, 3) := by decide +kernel
theorem dX7_learn_17 : decode cX7_learn 17 = .ok (.iload_n 2, 1) := by decide +kernel
theorem dX7_learn_18 : decode cX7_learn 18 = .ok (.iconst 3, 1) := by decide +kernel
theorem dX7_learn_19 : decode cX7_learn 19 = .ok (.if_icmp .le 6, 3) := by decide +kernel
theorem dX7_learn_22 : decode cX7_learn 22 = .ok (.bipush (-2), 2) := by decide +kernel
theorem dX7_learn_24 : decode cX7_learn 24 = .ok (.ireturn, 1) := by decide +kernel
theorem dX7_learn_25 : decode cX7_learn 25 = .ok (.aload_n 0, 1) := by decide +kernel
theorem dX7_learn_26 : decode cX7_learn 26 = .ok (.getfield 19, 3) := by decide +kernel
theorem dX7_learn_29 : decode cX7_learn 29 = .ok (.getfield 88, 3) := by decide +kernel
theorem dX7_learn_32 : decode cX7_learn 32 = .ok (.getfield 107, 3) := by decide +kernel
theorem dX7_learn_35 : decode cX7_learn 35 = .ok (.iload_n 1, 1) := by decide +kernel
theorem dX7_learn_36 : decode cX7_learn 36 = .ok (.iaload, 1) := by decide +kernel
theorem dX7_learn_37 : decode cX7_learn 37 = .ok (.istore_n 3, 1) := by decide +kernel
theorem dX7_learn_38 : decode cX7_learn 38 = .ok (.aload_n 0, 1) := by decide +kernel
theorem dX7_learn_39 : decode cX7_learn 39 = .ok (.getfield 19, 3) := by decide +kernel
theorem dX7_learn_42 : decode cX7_learn 42 = .ok (.iload_n 1, 1) := by decide +kernel
theorem dX7_learn_43 : decode cX7_learn 43 = .ok (.invokevirtual 110, 3) := by decide +kernel
theorem dX7_learn_46 : decode cX7_learn 46 = .ok (.ifCond .ne 8, 3) := by decide +kernel
theorem dX7_learn_49 : decode cX7_learn 49 = .ok (.iload_n 3, 1) := by decide +kernel
theorem dX7_learn_50 : decode cX7_learn 50 = .ok (.iload_n 2, 1) := by decide +kernel
theorem dX7_learn_51 : decode cX7_learn 51 = .ok (.if_icmp .ne 6, 3) := by decide +kernel
theorem dX7_learn_54 : decode cX7_learn 54 = .ok (.bipush (-3), 2) := by decide +kernel
theorem dX7_learn_56 : decode cX7_learn 56 = .ok (.ireturn, 1) := by decide +kernel
theorem dX7_learn_57 : decode cX7_learn 57 = .ok (.aload_n 0, 1) := by decide +kernel
theorem dX7_learn_58 : decode cX7_learn 58 = .ok (.getfield 26, 3) := by decide +kernel
theorem dX7_learn_61 : decode cX7_learn 61 = .ok (.aload_n 0, 1) := by decide +kernel
theorem dX7_learn_62 : decode cX7_learn 62 = .ok (.getfield 19, 3) := by decide +kernel
theorem dX7_learn_65 : decode cX7_learn 65 = .ok (.getfield 88, 3) := by decide +kernel
theorem dX7_learn_68 : decode cX7_learn 68 = .ok (.invokevirtual 119, 3) := by decide +kernel
theorem dX7_learn_71 : decode cX7_learn 71 = .ok (.aload_n 0, 1) := by decide +kernel
theorem dX7_learn_72 : decode cX7_learn 72 = .ok (.getfield 19, 3) := by decide +kernel
theorem dX7_learn_75 : decode cX7_learn 75 = .ok (.getfield 88, 3) := by decide +kernel
theorem dX7_learn_78 : decode cX7_learn 78 = .ok (.getfield 107, 3) := by decide +kernel
theorem dX7_learn_81 : decode cX7_learn 81 = .ok (.iload_n 1, 1) := by decide +kernel
theorem dX7_learn_82 : decode cX7_learn 82 = .ok (.iload_n 2, 1) := by decide +kernel
theorem dX7_learn_83 : decode cX7_learn 83 = .ok (.iastore, 1) := by decide +kernel
theorem dX7_learn_84 : decode cX7_learn 84 = .ok (.iload_n 3, 1) := by decide +kernel
theorem dX7_learn_85 : decode cX7_learn 85 = .ok (.ireturn, 1) := by decide +kernel
theorem dX7_undo_0 : decode cX7_undo 0 = .ok (.aload_n 0, 1) := by decide +kernel
theorem dX7_undo_1 : decode cX7_undo 1 = .ok (.getfield 26, 3) := by decide +kernel
theorem dX7_undo_4 : decode cX7_undo 4 = .ok (.getfield 140, 3) := by decide +kernel
theorem dX7_undo_7 : decode cX7_undo 7 = .ok (.ifCond .ne 6, 3) := by decide +kernel
theorem dX7_undo_10 : decode cX7_undo 10 = .ok (.bipush (-3), 2) := by decide +kernel
theorem dX7_undo_12 : decode cX7_undo 12 = .ok (.ireturn, 1) := by decide +kernel
theorem dX7_undo_13 : decode cX7_undo 13 = .ok (.aload_n 0, 1) := by decide +kernel
theorem dX7_undo_14 : decode cX7_undo 14 = .ok (.getfield 26, 3) := by decide +kernel
theorem dX7_undo_17 : decode cX7_undo 17 = .ok (.aload_n 0, 1) := by decide +kernel
theorem dX7_undo_18 : decode cX7_undo 18 = .ok (.getfield 19, 3) := by decide +kernel
theorem dX7_undo_21 : decode cX7_undo 21 = .ok (.getfield 88, 3) := by decide +kernel
theorem dX7_undo_24 : decode cX7_undo 24 = .ok (.invokevirtual 143, 3) := by decide +kernel
theorem dX7_undo_27 : decode cX7_undo 27 = .ok (.aload_n 0, 1) := by decide +kernel
theorem dX7_undo_28 : decode cX7_undo 28 = .ok (.getfield 26, 3) := by decide +kernel
theorem dX7_undo_31 : decode cX7_undo 31 = .ok (.getfield 140, 3) := by decide +kernel
theorem dX7_undo_34 : decode cX7_undo 34 = .ok (.ireturn, 1) := by decide +kernel
theorem dX7_basin_0 : decode cX7_basin 0 = .ok (.aload_n 0, 1) := by decide +kernel
theorem dX7_basin_1 : decode cX7_basin 1 = .ok (.getfield 19, 3) := by decide +kernel
theorem dX7_basin_4 : decode cX7_basin 4 = .ok (.invokevirtual 146, 3) := by decide +kernel
theorem dX7_basin_7 : decode cX7_basin 7 = .ok (.invokevirtual 126, 3) := by decide +kernel
theorem dX7_basin_10 : decode cX7_basin 10 = .ok (.ireturn, 1) := by decide +kernel
theorem dX7_hour_0 : decode cX7_hour 0 = .ok (.aload_n 0, 1) := by decide +kernel
theorem dX7_hour_1 : decode cX7_hour 1 = .ok (.getfield 19, 3) := by decide +kernel
theorem dX7_hour_4 : decode cX7_hour 4 = .ok (.iload_n 1, 1) := by decide +kernel
theorem dX7_hour_5 : decode cX7_hour 5 = .ok (.invokevirtual 77, 3) := by decide +kernel
theorem dX7_hour_8 : decode cX7_hour 8 = .ok (.ifCond .eq 18, 3) := by decide +kernel
theorem dX7_hour_11 : decode cX7_hour 11 = .ok (.aload_n 0, 1) := by decide +kernel
theorem dX7_hour_12 : decode cX7_hour 12 = .ok (.getfield 19, 3) := by decide +kernel
theorem dX7_hour_15 : decode cX7_hour 15 = .ok (.invokevirtual 146, 3) := by decide +kernel
theorem dX7_hour_18 : decode cX7_hour 18 = .ok (.getfield 101, 3) := by decide +kernel
theorem dX7_hour_21 : decode cX7_hour 21 = .ok (.iload_n 1, 1) := by decide +kernel
theorem dX7_hour_22 : decode cX7_hour 22 = .ok (.iaload, 1) := by decide +kernel
theorem dX7_hour_23 : decode cX7_hour 23 = .ok (.goto 4, 3) := by decide +kernel
theorem dX7_hour_26 : decode cX7_hour 26 = .ok (.iconst (-1), 1) := by decide +kernel
theorem dX7_hour_27 : decode cX7_hour 27 = .ok (.ireturn, 1) := by decide +kernel
theorem dX7_gains_0 : decode cX7_gains 0 = .ok (.aload_n 0, 1) := by decide +kernel
theorem dX7_gains_1 : decode cX7_gains 1 = .ok (.getfield 19, 3) := by decide +kernel
theorem dX7_gains_4 : decode cX7_gains 4 = .ok (.iload_n 1, 1) := by decide +kernel
theorem dX7_gains_5 : decode cX7_gains 5 = .ok (.invokevirtual 77, 3) := by decide +kernel
theorem dX7_gains_8 : decode cX7_gains 8 = .ok (.ifCond .eq 18, 3) := by decide +kernel
theorem dX7_gains_11 : decode cX7_gains 11 = .ok (.aload_n 0, 1) := by decide +kernel
theorem dX7_gains_12 : decode cX7_gains 12 = .ok (.getfield 40, 3) := by decide +kernel
theorem dX7_gains_15 : decode cX7_gains 15 = .ok (.aload_n 0, 1) := by decide +kernel
theorem dX7_gains_16 : decode cX7_gains 16 = .ok (.getfield 19, 3) := by decide +kernel
theorem dX7_gains_19 : decode cX7_gains 19 = .ok (.iload_n 1, 1) := by decide +kernel
theorem dX7_gains_20 : decode cX7_gains 20 = .ok (.invokevirtual 150, 3) := by decide +kernel
theorem dX7_gains_23 : decode cX7_gains 23 = .ok (.goto 4, 3) := by decide +kernel
theorem dX7_gains_26 : decode cX7_gains 26 = .ok (.iconst (-1), 1) := by decide +kernel
theorem dX7_gains_27 : decode cX7_gains 27 = .ok (.ireturn, 1) := by decide +kernel
theorem dX7_mates_0 : decode cX7_mates 0 = .ok (.aload_n 0, 1) := by decide +kernel
theorem dX7_mates_1 : decode cX7_mates 1 = .ok (.getfield 19, 3) := by decide +kernel
theorem dX7_mates_4 : decode cX7_mates 4 = .ok (.iload_n 1, 1) := by decide +kernel
theorem dX7_mates_5 : decode cX7_mates 5 = .ok (.invokevirtual 77, 3) := by decide +kernel
theorem dX7_mates_8 : decode cX7_mates 8 = .ok (.ifCond .eq 18, 3) := by decide +kernel
theorem dX7_mates_11 : decode cX7_mates 11 = .ok (.aload_n 0, 1) := by decide +kernel
theorem dX7_mates_12 : decode cX7_mates 12 = .ok (.getfield 40, 3) := by decide +kernel
theorem dX7_mates_15 : decode cX7_mates 15 = .ok (.aload_n 0, 1) := by decide +kernel
theorem dX7_mates_16 : decode cX7_mates 16 = .ok (.getfield 19, 3) := by decide +kernel
theorem dX7_mates_19 : decode cX7_mates 19 = .ok (.iload_n 1, 1) := by decide +kernel
theorem dX7_mates_20 : decode cX7_mates 20 = .ok (.invokevirtual 154, 3) := by decide +kernel
theorem dX7_mates_23 : decode cX7_mates 23 = .ok (.goto 4, 3) := by decide +kernel
theorem dX7_mates_26 : decode cX7_mates 26 = .ok (.iconst (-1), 1) := by decide +kernel
theorem dX7_mates_27 : decode cX7_mates 27 = .ok (.ireturn, 1) := by decide +kernel
theorem dX7_first_0 : decode cX7_first 0 = .ok (.aload_n 0, 1) := by decide +kernel
theorem dX7_first_1 : decode cX7_first 1 = .ok (.iload_n 1, 1) := by decide +kernel
theorem dX7_first_2 : decode cX7_first 2 = .ok (.iload_n 2, 1) := by decide +kernel
theorem dX7_first_3 : decode cX7_first 3 = .ok (.invokevirtual 157, 3) := by decide +kernel
theorem dX7_first_6 : decode cX7_first 6 = .ok (.istore_n 3, 1) := by decide +kernel
theorem dX7_first_7 : decode cX7_first 7 = .ok (.iload_n 3, 1) := by decide +kernel
theorem dX7_first_8 : decode cX7_first 8 = .ok (.ifCond .eq 7, 3) := by decide +kernel
theorem dX7_first_11 : decode cX7_first 11 = .ok (.iload_n 3, 1) := by decide +kernel
theorem dX7_first_12 : decode cX7_first 12 = .ok (.goto 16, 3) := by decide +kernel
theorem dX7_first_15 : decode cX7_first 15 = .ok (.aload_n 0, 1) := by decide +kernel
theorem dX7_first_16 : decode cX7_first 16 = .ok (.getfield 40, 3) := by decide +kernel
theorem dX7_first_19 : decode cX7_first 19 = .ok (.aload_n 0, 1) := by decide +kernel
theorem dX7_first_20 : decode cX7_first 20 = .ok (.getfield 19, 3) := by decide +kernel
theorem dX7_first_23 : decode cX7_first 23 = .ok (.iload_n 1, 1) := by decide +kernel
theorem dX7_first_24 : decode cX7_first 24 = .ok (.iload_n 2, 1) := by decide +kernel
theorem dX7_first_25 : decode cX7_first 25 = .ok (.invokevirtual 160, 3) := by decide +kernel
theorem dX7_first_28 : decode cX7_first 28 = .ok (.ireturn, 1) := by decide +kernel
theorem dX7_tea_0 : decode cX7_tea 0 = .ok (.aload_n 0, 1) := by decide +kernel
theorem dX7_tea_1 : decode cX7_tea 1 = .ok (.iload_n 1, 1) := by decide +kernel
theorem dX7_tea_2 : decode cX7_tea 2 = .ok (.iload_n 2, 1) := by decide +kernel
theorem dX7_tea_3 : decode cX7_tea 3 = .ok (.invokevirtual 157, 3) := by decide +kernel
theorem dX7_tea_6 : decode cX7_tea 6 = .ok (.istore 4, 2) := by decide +kernel
theorem dX7_tea_8 : decode cX7_tea 8 = .ok (.iload 4, 2) := by decide +kernel
theorem dX7_tea_10 : decode cX7_tea 10 = .ok (.ifCond .eq 6, 3) := by decide +kernel
theorem dX7_tea_13 : decode cX7_tea 13 = .ok (.iload 4, 2) := by decide +kernel
theorem dX7_tea_15 : decode cX7_tea 15 = .ok (.ireturn, 1) := by decide +kernel
theorem dX7_tea_16 : decode cX7_tea 16 = .ok (.aload_n 0, 1) := by decide +kernel
theorem dX7_tea_17 : decode cX7_tea 17 = .ok (.getfield 40, 3) := by decide +kernel
theorem dX7_tea_20 : decode cX7_tea 20 = .ok (.aload_n 0, 1) := by decide +kernel
theorem dX7_tea_21 : decode cX7_tea 21 = .ok (.getfield 19, 3) := by decide +kernel
theorem dX7_tea_24 : decode cX7_tea 24 = .ok (.iload_n 1, 1) := by decide +kernel
theorem dX7_tea_25 : decode cX7_tea 25 = .ok (.iload_n 2, 1) := by decide +kernel
theorem dX7_tea_26 : decode cX7_tea 26 = .ok (.invokevirtual 164, 3) := by decide +kernel
theorem dX7_tea_29 : decode cX7_tea 29 = .ok (.istore 5, 2) := by decide +kernel
theorem dX7_tea_31 : decode cX7_tea 31 = .ok (.iload_n 3, 1) := by decide +kernel
theorem dX7_tea_32 : decode cX7_tea 32 = .ok (.ifCond .ne 10, 3) := by decide +kernel
theorem dX7_tea_35 : decode cX7_tea 35 = .ok (.iload 5, 2) := by decide +kernel
theorem dX7_tea_37 : decode cX7_tea 37 = .ok (.bipush (-9), 2) := by decide +kernel
theorem dX7_tea_39 : decode cX7_tea 39 = .ok (.if_icmp .ne 8, 3) := by decide +kernel
theorem dX7_tea_42 : decode cX7_tea 42 = .ok (.iload 5, 2) := by decide +kernel
theorem dX7_tea_44 : decode cX7_tea 44 = .ok (.goto 12, 3) := by decide +kernel
theorem dX7_tea_47 : decode cX7_tea 47 = .ok (.aload_n 0, 1) := by decide +kernel
theorem dX7_tea_48 : decode cX7_tea 48 = .ok (.getfield 40, 3) := by decide +kernel
theorem dX7_tea_51 : decode cX7_tea 51 = .ok (.iload 5, 2) := by decide +kernel
theorem dX7_tea_53 : decode cX7_tea 53 = .ok (.invokevirtual 167, 3) := by decide +kernel
theorem dX7_tea_56 : decode cX7_tea 56 = .ok (.ireturn, 1) := by decide +kernel
theorem dX7_judge_0 : decode cX7_judge 0 = .ok (.iload_n 1, 1) := by decide +kernel
theorem dX7_judge_1 : decode cX7_judge 1 = .ok (.iconst 1, 1) := by decide +kernel
theorem dX7_judge_2 : decode cX7_judge 2 = .ok (.if_icmp .lt 25, 3) := by decide +kernel
theorem dX7_judge_5 : decode cX7_judge 5 = .ok (.iload_n 1, 1) := by decide +kernel
theorem dX7_judge_6 : decode cX7_judge 6 = .ok (.bipush 6, 2) := by decide +kernel
theorem dX7_judge_8 : decode cX7_judge 8 = .ok (.if_icmp .gt 19, 3) := by decide +kernel
theorem dX7_judge_11 : decode cX7_judge 11 = .ok (.iload_n 2, 1) := by decide +kernel
theorem dX7_judge_12 : decode cX7_judge 12 = .ok (.ifCond .lt 15, 3) := by decide +kernel
theorem dX7_judge_15 : decode cX7_judge 15 = .ok (.aload_n 0, 1) := by decide +kernel
theorem dX7_judge_16 : decode cX7_judge 16 = .ok (.getfield 40, 3) := by decide +kernel
theorem dX7_judge_19 : decode cX7_judge 19 = .ok (.iload_n 2, 1) := by decide +kernel
theorem dX7_judge_20 : decode cX7_judge 20 = .ok (.iload_n 1, 1) := by decide +kernel
theorem dX7_judge_21 : decode cX7_judge 21 = .ok (.invokevirtual 170, 3) := by decide +kernel
theorem dX7_judge_24 : decode cX7_judge 24 = .ok (.ifCond .ne 6, 3) := by decide +kernel
theorem dX7_judge_27 : decode cX7_judge 27 = .ok (.bipush (-2), 2) := by decide +kernel
theorem dX7_judge_29 : decode cX7_judge 29 = .ok (.ireturn, 1) := by decide +kernel
theorem dX7_judge_30 : decode cX7_judge 30 = .ok (.aload_n 0, 1) := by decide +kernel
theorem dX7_judge_31 : decode cX7_judge 31 = .ok (.getfield 40, 3) := by decide +kernel
theorem dX7_judge_34 : decode cX7_judge 34 = .ok (.aload_n 0, 1) := by decide +kernel
theorem dX7_judge_35 : decode cX7_judge 35 = .ok (.getfield 19, 3) := by decide +kernel
theorem dX7_judge_38 : decode cX7_judge 38 = .ok (.iload_n 1, 1) := by decide +kernel
theorem dX7_judge_39 : decode cX7_judge 39 = .ok (.invokevirtual 174, 3) := by decide +kernel
theorem dX7_judge_42 : decode cX7_judge 42 = .ok (.ireturn, 1) := by decide +kernel
theorem dX7_share_0 : decode cX7_share 0 = .ok (.aload_n 0, 1) := by decide +kernel
theorem dX7_share_1 : decode cX7_share 1 = .ok (.getfield 19, 3) := by decide +kernel
theorem dX7_share_4 : decode cX7_share 4 = .ok (.iload_n 1, 1) := by decide +kernel
theorem dX7_share_5 : decode cX7_share 5 = .ok (.invokevirtual 77, 3) := by decide +kernel
theorem dX7_share_8 : decode cX7_share 8 = .ok (.ifCond .ne 5, 3) := by decide +kernel
theorem dX7_share_11 : decode cX7_share 11 = .ok (.iconst (-1), 1) := by decide +kernel
theorem dX7_share_12 : decode cX7_share 12 = .ok (.ireturn, 1) := by decide +kernel
theorem dX7_share_13 : decode cX7_share 13 = .ok (.aload_n 0, 1) := by decide +kernel
theorem dX7_share_14 : decode cX7_share 14 = .ok (.getfield 40, 3) := by decide +kernel
theorem dX7_share_17 : decode cX7_share 17 = .ok (.aload_n 0, 1) := by decide +kernel
theorem dX7_share_18 : decode cX7_share 18 = .ok (.getfield 19, 3) := by decide +kernel
theorem dX7_share_21 : decode cX7_share 21 = .ok (.iload_n 1, 1) := by decide +kernel
theorem dX7_share_22 : decode cX7_share 22 = .ok (.invokevirtual 177, 3) := by decide +kernel
theorem dX7_share_25 : decode cX7_share 25 = .ok (.getstatic 180, 3) := by decide +kernel
theorem dX7_share_28 : decode cX7_share 28 = .ok (.aload_n 0, 1) := by decide +kernel
theorem dX7_share_29 : decode cX7_share 29 = .ok (.getfield 19, 3) := by decide +kernel
theorem dX7_share_32 : decode cX7_share 32 = .ok (.getfield 74, 3) := by decide +kernel
theorem dX7_share_35 : decode cX7_share 35 = .ok (.iaload, 1) := by decide +kernel
theorem dX7_share_36 : decode cX7_share 36 = .ok (.iload_n 2, 1) := by decide +kernel
theorem dX7_share_37 : decode cX7_share 37 = .ok (.invokestatic 183, 3) := by decide +kernel
theorem dX7_share_40 : decode cX7_share 40 = .ok (.ireturn, 1) := by decide +kernel
theorem dX7_gave_0 : decode cX7_gave 0 = .ok (.aload_n 0, 1) := by decide +kernel
theorem dX7_gave_1 : decode cX7_gave 1 = .ok (.getfield 19, 3) := by decide +kernel
theorem dX7_gave_4 : decode cX7_gave 4 = .ok (.iload_n 1, 1) := by decide +kernel
theorem dX7_gave_5 : decode cX7_gave 5 = .ok (.invokevirtual 104, 3) := by decide +kernel
theorem dX7_gave_8 : decode cX7_gave 8 = .ok (.ifCond .ne 5, 3) := by decide +kernel
theorem dX7_gave_11 : decode cX7_gave 11 = .ok (.iconst (-1), 1) := by decide +kernel
theorem dX7_gave_12 : decode cX7_gave 12 = .ok (.ireturn, 1) := by decide +kernel
theorem dX7_gave_13 : decode cX7_gave 13 = .ok (.aload_n 0, 1) := by decide +kernel
theorem dX7_gave_14 : decode cX7_gave 14 = .ok (.getfield 40, 3) := by decide +kernel
theorem dX7_gave_17 : decode cX7_gave 17 = .ok (.aload_n 0, 1) := by decide +kernel
theorem dX7_gave_18 : decode cX7_gave 18 = .ok (.getfield 19, 3) := by decide +kernel
theorem dX7_gave_21 : decode cX7_gave 21 = .ok (.iload_n 2, 1) := by decide +kernel
theorem dX7_gave_22 : decode cX7_gave 22 = .ok (.invokevirtual 187, 3) := by decide +kernel
theorem dX7_gave_25 : decode cX7_gave 25 = .ok (.ifCond .eq 12, 3) := by decide +kernel
theorem dX7_gave_28 : decode cX7_gave 28 = .ok (.iload_n 3, 1) := by decide +kernel
theorem dX7_gave_29 : decode cX7_gave 29 = .ok (.ifCond .lt 8, 3) := by decide +kernel
theorem dX7_gave_32 : decode cX7_gave 32 = .ok (.iload_n 3, 1) := by decide +kernel
theorem dX7_gave_33 : decode cX7_gave 33 = .ok (.iconst 2, 1) := by decide +kernel
theorem dX7_gave_34 : decode cX7_gave 34 = .ok (.if_icmp .le 6, 3) := by decide +kernel
theorem dX7_gave_37 : decode cX7_gave 37 = .ok (.bipush (-2), 2) := by decide +kernel
theorem dX7_gave_39 : decode cX7_gave 39 = .ok (.ireturn, 1) := by decide +kernel
theorem dX7_gave_40 : decode cX7_gave 40 = .ok (.aload_n 0, 1) := by decide +kernel
theorem dX7_gave_41 : decode cX7_gave 41 = .ok (.getfield 19, 3) := by decide +kernel
theorem dX7_gave_44 : decode cX7_gave 44 = .ok (.iload_n 1, 1) := by decide +kernel
theorem dX7_gave_45 : decode cX7_gave 45 = .ok (.invokevirtual 110, 3) := by decide +kernel
theorem dX7_gave_48 : decode cX7_gave 48 = .ok (.ifCond .eq 6, 3) := by decide +kernel
theorem dX7_gave_51 : decode cX7_gave 51 = .ok (.bipush (-3), 2) := by decide +kernel
theorem dX7_gave_53 : decode cX7_gave 53 = .ok (.ireturn, 1) := by decide +kernel
theorem dX7_gave_54 : decode cX7_gave 54 = .ok (.aload_n 0, 1) := by decide +kernel
theorem dX7_gave_55 : decode cX7_gave 55 = .ok (.getfield 47, 3) := by decide +kernel
theorem dX7_gave_58 : decode cX7_gave 58 = .ok (.aload_n 0, 1) := by decide +kernel
theorem dX7_gave_59 : decode cX7_gave 59 = .ok (.getfield 19, 3) := by decide +kernel
theorem dX7_gave_62 : decode cX7_gave 62 = .ok (.iload_n 1, 1) := by decide +kernel
theorem dX7_gave_63 : decode cX7_gave 63 = .ok (.iload_n 2, 1) := by decide +kernel
theorem dX7_gave_64 : decode cX7_gave 64 = .ok (.invokevirtual 191, 3) := by decide +kernel
theorem dX7_gave_67 : decode cX7_gave 67 = .ok (.iload_n 3, 1) := by decide +kernel
theorem dX7_gave_68 : decode cX7_gave 68 = .ok (.ifCond .ne 11, 3) := by decide +kernel
theorem dX7_gave_71 : decode cX7_gave 71 = .ok (.aload_n 0, 1) := by decide +kernel
theorem dX7_gave_72 : decode cX7_gave 72 = .ok (.getfield 47, 3) := by decide +kernel
theorem dX7_gave_75 : decode cX7_gave 75 = .ok (.getfield 195, 3) := by decide +kernel
theorem dX7_gave_78 : decode cX7_gave 78 = .ok (.ireturn, 1) := by decide +kernel
theorem dX7_gave_79 : decode cX7_gave 79 = .ok (.aload_n 0, 1) := by decide +kernel
theorem dX7_gave_80 : decode cX7_gave 80 = .ok (.getfield 47, 3) := by decide +kernel
theorem dX7_gave_83 : decode cX7_gave 83 = .ok (.getfield 195, 3) := by decide +kernel
theorem dX7_gave_86 : decode cX7_gave 86 = .ok (.ifCond .ne 6, 3) := by decide +kernel
theorem dX7_gave_89 : decode cX7_gave 89 = .ok (.bipush (-9), 2) := by decide +kernel
theorem dX7_gave_91 : decode cX7_gave 91 = .ok (.ireturn, 1) := by decide +kernel
theorem dX7_gave_92 : decode cX7_gave 92 = .ok (.iload_n 3, 1) := by decide +kernel
theorem dX7_gave_93 : decode cX7_gave 93 = .ok (.iconst 1, 1) := by decide +kernel
theorem dX7_gave_94 : decode cX7_gave 94 = .ok (.if_icmp .ne 13, 3) := by decide +kernel
theorem dX7_gave_97 : decode cX7_gave 97 = .ok (.aload_n 0, 1) := by decide +kernel
theorem dX7_gave_98 : decode cX7_gave 98 = .ok (.getfield 47, 3) := by decide +kernel
theorem dX7_gave_101 : decode cX7_gave 101 = .ok (.getfield 198, 3) := by decide +kernel
theorem dX7_gave_104 : decode cX7_gave 104 = .ok (.goto 10, 3) := by decide +kernel
theorem dX7_gave_107 : decode cX7_gave 107 = .ok (.aload_n 0, 1) := by decide +kernel
theorem dX7_gave_108 : decode cX7_gave 108 = .ok (.getfield 47, 3) := by decide +kernel
theorem dX7_gave_111 : decode cX7_gave 111 = .ok (.getfield 201, 3) := by decide +kernel
theorem dX7_gave_114 : decode cX7_gave 114 = .ok (.ireturn, 1) := by decide +kernel
theorem dX7_rests_0 : decode cX7_rests 0 = .ok (.aload_n 0, 1) := by decide +kernel
theorem dX7_rests_1 : decode cX7_rests 1 = .ok (.getfield 19, 3) := by decide +kernel
theorem dX7_rests_4 : decode cX7_rests 4 = .ok (.iload_n 1, 1) := by decide +kernel
theorem dX7_rests_5 : decode cX7_rests 5 = .ok (.invokevirtual 77, 3) := by decide +kernel
theorem dX7_rests_8 : decode cX7_rests 8 = .ok (.ifCond .eq 25, 3) := by decide +kernel
theorem dX7_rests_11 : decode cX7_rests 11 = .ok (.aload_n 0, 1) := by decide +kernel
theorem dX7_rests_12 : decode cX7_rests 12 = .ok (.getfield 19, 3) := by decide +kernel
theorem dX7_rests_15 : decode cX7_rests 15 = .ok (.iload_n 2, 1) := by decide +kernel
theorem dX7_rests_16 : decode cX7_rests 16 = .ok (.invokevirtual 77, 3) := by decide +kernel
theorem dX7_rests_19 : decode cX7_rests 19 = .ok (.ifCond .eq 14, 3) := by decide +kernel
theorem dX7_rests_22 : decode cX7_rests 22 = .ok (.aload_n 0, 1) := by decide +kernel
theorem dX7_rests_23 : decode cX7_rests 23 = .ok (.getfield 19, 3) := by decide +kernel
theorem dX7_rests_26 : decode cX7_rests 26 = .ok (.iload_n 3, 1) := by decide +kernel
theorem dX7_rests_27 : decode cX7_rests 27 = .ok (.invokevirtual 104, 3) := by decide +kernel
theorem dX7_rests_30 : decode cX7_rests 30 = .ok (.ifCond .ne 5, 3) := by decide +kernel
theorem dX7_rests_33 : decode cX7_rests 33 = .ok (.iconst (-1), 1) := by decide +kernel
theorem dX7_rests_34 : decode cX7_rests 34 = .ok (.ireturn, 1) := by decide +kernel
theorem dX7_rests_35 : decode cX7_rests 35 = .ok (.iload_n 1, 1) := by decide +kernel
theorem dX7_rests_36 : decode cX7_rests 36 = .ok (.iload_n 2, 1) := by decide +kernel
theorem dX7_rests_37 : decode cX7_rests 37 = .ok (.if_icmp .eq 14, 3) := by decide +kernel
theorem dX7_rests_40 : decode cX7_rests 40 = .ok (.iload 4, 2) := by decide +kernel
theorem dX7_rests_42 : decode cX7_rests 42 = .ok (.ifCond .lt 9, 3) := by decide +kernel
theorem dX7_rests_45 : decode cX7_rests 45 = .ok (.iload 4, 2) := by decide +kernel
theorem dX7_rests_47 : decode cX7_rests 47 = .ok (.iconst 1, 1) := by decide +kernel
theorem dX7_rests_48 : decode cX7_rests 48 = .ok (.if_icmp .le 6, 3) := by decide +kernel
theorem dX7_rests_51 : decode cX7_rests 51 = .ok (.bipush (-2), 2) := by decide +kernel
theorem dX7_rests_53 : decode cX7_rests 53 = .ok (.ireturn, 1) := by decide +kernel
theorem dX7_rests_54 : decode cX7_rests 54 = .ok (.aload_n 0, 1) := by decide +kernel
theorem dX7_rests_55 : decode cX7_rests 55 = .ok (.getfield 19, 3) := by decide +kernel
theorem dX7_rests_58 : decode cX7_rests 58 = .ok (.iload_n 3, 1) := by decide +kernel
theorem dX7_rests_59 : decode cX7_rests 59 = .ok (.invokevirtual 110, 3) := by decide +kernel
theorem dX7_rests_62 : decode cX7_rests 62 = .ok (.ifCond .eq 6, 3) := by decide +kernel
theorem dX7_rests_65 : decode cX7_rests 65 = .ok (.bipush (-3), 2) := by decide +kernel
theorem dX7_rests_67 : decode cX7_rests 67 = .ok (.ireturn, 1) := by decide +kernel
theorem dX7_rests_68 : decode cX7_rests 68 = .ok (.aload_n 0, 1) := by decide +kernel
theorem dX7_rests_69 : decode cX7_rests 69 = .ok (.getfield 47, 3) := by decide +kernel
theorem dX7_rests_72 : decode cX7_rests 72 = .ok (.aload_n 0, 1) := by decide +kernel
theorem dX7_rests_73 : decode cX7_rests 73 = .ok (.getfield 19, 3) := by decide +kernel
theorem dX7_rests_76 : decode cX7_rests 76 = .ok (.iload_n 1, 1) := by decide +kernel
theorem dX7_rests_77 : decode cX7_rests 77 = .ok (.iload_n 2, 1) := by decide +kernel
theorem dX7_rests_78 : decode cX7_rests 78 = .ok (.iload_n 3, 1) := by decide +kernel
theorem dX7_rests_79 : decode cX7_rests 79 = .ok (.invokevirtual 204, 3) := by decide +kernel
theorem dX7_rests_82 : decode cX7_rests 82 = .ok (.iload 4, 2) := by decide +kernel
theorem dX7_rests_84 : decode cX7_rests 84 = .ok (.ifCond .ne 13, 3) := by decide +kernel
theorem dX7_rests_87 : decode cX7_rests 87 = .ok (.aload_n 0, 1) := by decide +kernel
theorem dX7_rests_88 : decode cX7_rests 88 = .ok (.getfield 47, 3) := by decide +kernel
theorem dX7_rests_91 : decode cX7_rests 91 = .ok (.getfield 195, 3) := by decide +kernel
theorem dX7_rests_94 : decode cX7_rests 94 = .ok (.goto 10, 3) := by decide +kernel
theorem dX7_rests_97 : decode cX7_rests 97 = .ok (.aload_n 0, 1) := by decide +kernel
theorem dX7_rests_98 : decode cX7_rests 98 = .ok (.getfield 47, 3) := by decide +kernel
theorem dX7_rests_101 : decode cX7_rests 101 = .ok (.getfield 208, 3) := by decide +kernel
theorem dX7_rests_104 : decode cX7_rests 104 = .ok (.ireturn, 1) := by decide +kernel
theorem dX7_asleep_0 : decode cX7_asleep 0 = .ok (.aload_n 0, 1) := by decide +kernel
theorem dX7_asleep_1 : decode cX7_asleep 1 = .ok (.getfield 19, 3) := by decide +kernel
theorem dX7_asleep_4 : decode cX7_asleep 4 = .ok (.iload_n 1, 1) := by decide +kernel
theorem dX7_asleep_5 : decode cX7_asleep 5 = .ok (.invokevirtual 77, 3) := by decide +kernel
theorem dX7_asleep_8 : decode cX7_asleep 8 = .ok (.ifCond .ne 5, 3) := by decide +kernel
theorem dX7_asleep_11 : decode cX7_asleep 11 = .ok (.iconst (-1), 1) := by decide +kernel
theorem dX7_asleep_12 : decode cX7_asleep 12 = .ok (.ireturn, 1) := by decide +kernel
theorem dX7_asleep_13 : decode cX7_asleep 13 = .ok (.iload_n 2, 1) := by decide +kernel
theorem dX7_asleep_14 : decode cX7_asleep 14 = .ok (.ifCond .lt 24, 3) := by decide +kernel
theorem dX7_asleep_17 : decode cX7_asleep 17 = .ok (.iload_n 2, 1) := by decide +kernel
theorem dX7_asleep_18 : decode cX7_asleep 18 = .ok (.aload_n 0, 1) := by decide +kernel
theorem dX7_asleep_19 : decode cX7_asleep 19 = .ok (.getfield 19, 3) := by decide +kernel
theorem dX7_asleep_22 : decode cX7_asleep 22 = .ok (.getfield 74, 3) := by decide +kernel
theorem dX7_asleep_25 : decode cX7_asleep 25 = .ok (.if_icmp .ge 13, 3) := by decide +kernel
theorem dX7_asleep_28 : decode cX7_asleep 28 = .ok (.iload_n 3, 1) := by decide +kernel
theorem dX7_asleep_29 : decode cX7_asleep 29 = .ok (.ifCond .lt 9, 3) := by decide +kernel
theorem dX7_asleep_32 : decode cX7_asleep 32 = .ok (.iload_n 3, 1) := by decide +kernel
theorem dX7_asleep_33 : decode cX7_asleep 33 = .ok (.bipush 10, 2) := by decide +kernel
theorem dX7_asleep_35 : decode cX7_asleep 35 = .ok (.if_icmp .le 6, 3) := by decide +kernel
theorem dX7_asleep_38 : decode cX7_asleep 38 = .ok (.bipush (-2), 2) := by decide +kernel
theorem dX7_asleep_40 : decode cX7_asleep 40 = .ok (.ireturn, 1) := by decide +kernel
theorem dX7_asleep_41 : decode cX7_asleep 41 = .ok (.bipush 10, 2) := by decide +kernel
theorem dX7_asleep_43 : decode cX7_asleep 43 = .ok (.aload_n 0, 1) := by decide +kernel
theorem dX7_asleep_44 : decode cX7_asleep 44 = .ok (.getfield 19, 3) := by decide +kernel
theorem dX7_asleep_47 : decode cX7_asleep 47 = .ok (.invokevirtual 116, 3) := by decide +kernel
theorem dX7_asleep_50 : decode cX7_asleep 50 = .ok (.invokestatic 211, 3) := by decide +kernel
theorem dX7_asleep_53 : decode cX7_asleep 53 = .ok (.istore 5, 2) := by decide +kernel
theorem dX7_asleep_55 : decode cX7_asleep 55 = .ok (.aload_n 0, 1) := by decide +kernel
theorem dX7_asleep_56 : decode cX7_asleep 56 = .ok (.getfield 47, 3) := by decide +kernel
theorem dX7_asleep_59 : decode cX7_asleep 59 = .ok (.aload_n 0, 1) := by decide +kernel
theorem dX7_asleep_60 : decode cX7_asleep 60 = .ok (.getfield 19, 3) := by decide +kernel
theorem dX7_asleep_63 : decode cX7_asleep 63 = .ok (.iload_n 1, 1) := by decide +kernel
theorem dX7_asleep_64 : decode cX7_asleep 64 = .ok (.iload_n 2, 1) := by decide +kernel
theorem dX7_asleep_65 : decode cX7_asleep 65 = .ok (.iload_n 3, 1) := by decide +kernel
theorem dX7_asleep_66 : decode cX7_asleep 66 = .ok (.invokevirtual 214, 3) := by decide +kernel
theorem dX7_asleep_69 : decode cX7_asleep 69 = .ok (.iload 5, 2) := by decide +kernel
theorem dX7_asleep_71 : decode cX7_asleep 71 = .ok (.iload 4, 2) := by decide +kernel
theorem dX7_asleep_73 : decode cX7_asleep 73 = .ok (.invokestatic 183, 3) := by decide +kernel
theorem dX7_asleep_76 : decode cX7_asleep 76 = .ok (.ireturn, 1) := by decide +kernel
theorem dX7_seed_0 : decode cX7_seed 0 = .ok (.aload_n 0, 1) := by decide +kernel
theorem dX7_seed_1 : decode cX7_seed 1 = .ok (.getfield 218, 3) := by decide +kernel
theorem dX7_seed_4 : decode cX7_seed 4 = .ok (.lstore_n 3, 1) := by decide +kernel
theorem dX7_seed_5 : decode cX7_seed 5 = .ok (.aload_n 0, 1) := by decide +kernel
theorem dX7_seed_6 : decode cX7_seed 6 = .ok (.lload_n 1, 1) := by decide +kernel
theorem dX7_seed_7 : decode cX7_seed 7 = .ok (.putfield 218, 3) := by decide +kernel
theorem dX7_seed_10 : decode cX7_seed 10 = .ok (.lload_n 3, 1) := by decide +kernel
theorem dX7_seed_11 : decode cX7_seed 11 = .ok (.lreturn, 1) := by decide +kernel
theorem dX7_days_0 : decode cX7_days 0 = .ok (.aload_n 0, 1) := by decide +kernel
theorem dX7_days_1 : decode cX7_days 1 = .ok (.getfield 19, 3) := by decide +kernel
theorem dX7_days_4 : decode cX7_days 4 = .ok (.iload_n 1, 1) := by decide +kernel
theorem dX7_days_5 : decode cX7_days 5 = .ok (.invokevirtual 77, 3) := by decide +kernel
theorem dX7_days_8 : decode cX7_days 8 = .ok (.ifCond .ne 5, 3) := by decide +kernel
theorem dX7_days_11 : decode cX7_days 11 = .ok (.iconst (-1), 1) := by decide +kernel
theorem dX7_days_12 : decode cX7_days 12 = .ok (.ireturn, 1) := by decide +kernel
theorem dX7_days_13 : decode cX7_days 13 = .ok (.iload_n 2, 1) := by decide +kernel
theorem dX7_days_14 : decode cX7_days 14 = .ok (.iconst 1, 1) := by decide +kernel
theorem dX7_days_15 : decode cX7_days 15 = .ok (.if_icmp .lt 9, 3) := by decide +kernel
theorem dX7_days_18 : decode cX7_days 18 = .ok (.iload_n 2, 1) := by decide +kernel
theorem dX7_days_19 : decode cX7_days 19 = .ok (.bipush 30, 2) := by decide +kernel
theorem dX7_days_21 : decode cX7_days 21 = .ok (.if_icmp .le 6, 3) := by decide +kernel
theorem dX7_days_24 : decode cX7_days 24 = .ok (.bipush (-2), 2) := by decide +kernel
theorem dX7_days_26 : decode cX7_days 26 = .ok (.ireturn, 1) := by decide +kernel
theorem dX7_days_27 : decode cX7_days 27 = .ok (.iconst 0, 1) := by decide +kernel
theorem dX7_days_28 : decode cX7_days 28 = .ok (.istore_n 3, 1) := by decide +kernel
theorem dX7_days_29 : decode cX7_days 29 = .ok (.iconst 0, 1) := by decide +kernel
theorem dX7_days_30 : decode cX7_days 30 = .ok (.istore 4, 2) := by decide +kernel
theorem dX7_days_32 : decode cX7_days 32 = .ok (.iload 4, 2) := by decide +kernel
theorem dX7_days_34 : decode cX7_days 34 = .ok (.iload_n 2, 1) := by decide +kernel
theorem dX7_days_35 : decode cX7_days 35 = .ok (.if_icmp .ge 59, 3) := by decide +kernel
theorem dX7_days_38 : decode cX7_days 38 = .ok (.aload_n 0, 1) := by decide +kernel
theorem dX7_days_39 : decode cX7_days 39 = .ok (.aload_n 0, 1) := by decide +kernel
theorem dX7_days_40 : decode cX7_days 40 = .ok (.getfield 218, 3) := by decide +kernel
theorem dX7_days_43 : decode cX7_days 43 = .ok (.ldc2_w 222, 3) := by decide +kernel
theorem dX7_days_46 : decode cX7_days 46 = .ok (.lmul, 1) := by decide +kernel
theorem dX7_days_47 : decode cX7_days 47 = .ok (.ldc2_w 224, 3) := by decide +kernel
theorem dX7_days_50 : decode cX7_days 50 = .ok (.ladd, 1) := by decide +kernel
theorem dX7_days_51 : decode cX7_days 51 = .ok (.putfield 218, 3) := by decide +kernel
theorem dX7_days_54 : decode cX7_days 54 = .ok (.aload_n 0, 1) := by decide +kernel
theorem dX7_days_55 : decode cX7_days 55 = .ok (.getfield 218, 3) := by decide +kernel
theorem dX7_days_58 : decode cX7_days 58 = .ok (.bipush 33, 2) := by decide +kernel
theorem dX7_days_60 : decode cX7_days 60 = .ok (.lushr, 1) := by decide +kernel
theorem dX7_days_61 : decode cX7_days 61 = .ok (.ldc2_w 226, 3) := by decide +kernel
theorem dX7_days_64 : decode cX7_days 64 = .ok (.lrem, 1) := by decide +kernel
theorem dX7_days_65 : decode cX7_days 65 = .ok (.l2i, 1) := by decide +kernel
theorem dX7_days_66 : decode cX7_days 66 = .ok (.istore 5, 2) := by decide +kernel
theorem dX7_days_68 : decode cX7_days 68 = .ok (.aload_n 0, 1) := by decide +kernel
theorem dX7_days_69 : decode cX7_days 69 = .ok (.getfield 47, 3) := by decide +kernel
theorem dX7_days_72 : decode cX7_days 72 = .ok (.aload_n 0, 1) := by decide +kernel
theorem dX7_days_73 : decode cX7_days 73 = .ok (.getfield 19, 3) := by decide +kernel
theorem dX7_days_76 : decode cX7_days 76 = .ok (.iload_n 1, 1) := by decide +kernel
theorem dX7_days_77 : decode cX7_days 77 = .ok (.iload 5, 2) := by decide +kernel
theorem dX7_days_79 : decode cX7_days 79 = .ok (.invokevirtual 228, 3) := by decide +kernel
theorem dX7_days_82 : decode cX7_days 82 = .ok (.ifCond .eq 6, 3) := by decide +kernel
theorem dX7_days_85 : decode cX7_days 85 = .ok (.iinc 3 1, 3) := by decide +kernel
theorem dX7_days_88 : decode cX7_days 88 = .ok (.iinc 4 1, 3) := by decide +kernel
theorem dX7_days_91 : decode cX7_days 91 = .ok (.goto (-59), 3) := by decide +kernel
theorem dX7_days_94 : decode cX7_days 94 = .ok (.iload_n 3, 1) := by decide +kernel
theorem dX7_days_95 : decode cX7_days 95 = .ok (.ireturn, 1) := by decide +kernel
theorem dX7_keep_0 : decode cX7_keep 0 = .ok (.iload_n 1, 1) := by decide +kernel
theorem dX7_keep_1 : decode cX7_keep 1 = .ok (.ifCond .lt 8, 3) := by decide +kernel
theorem dX7_keep_4 : decode cX7_keep 4 = .ok (.iload_n 1, 1) := by decide +kernel
theorem dX7_keep_5 : decode cX7_keep 5 = .ok (.iconst 2, 1) := by decide +kernel
theorem dX7_keep_6 : decode cX7_keep 6 = .ok (.if_icmp .lt 5, 3) := by decide +kernel
theorem dX7_keep_9 : decode cX7_keep 9 = .ok (.iconst (-1), 1) := by decide +kernel
theorem dX7_keep_10 : decode cX7_keep 10 = .ok (.ireturn, 1) := by decide +kernel
theorem dX7_keep_11 : decode cX7_keep 11 = .ok (.aload_n 0, 1) := by decide +kernel
theorem dX7_keep_12 : decode cX7_keep 12 = .ok (.getfield 33, 3) := by decide +kernel
theorem dX7_keep_15 : decode cX7_keep 15 = .ok (.iload_n 1, 1) := by decide +kernel
theorem dX7_keep_16 : decode cX7_keep 16 = .ok (.aload_n 0, 1) := by decide +kernel
theorem dX7_keep_17 : decode cX7_keep 17 = .ok (.getfield 19, 3) := by decide +kernel
theorem dX7_keep_20 : decode cX7_keep 20 = .ok (.getfield 88, 3) := by decide +kernel
theorem dX7_keep_23 : decode cX7_keep 23 = .ok (.invokevirtual 232, 3) := by decide +kernel
theorem dX7_keep_26 : decode cX7_keep 26 = .ok (.aload_n 0, 1) := by decide +kernel
theorem dX7_keep_27 : decode cX7_keep 27 = .ok (.getfield 19, 3) := by decide +kernel
theorem dX7_keep_30 : decode cX7_keep 30 = .ok (.getfield 88, 3) := by decide +kernel
theorem dX7_keep_33 : decode cX7_keep 33 = .ok (.getfield 236, 3) := by decide +kernel
theorem dX7_keep_36 : decode cX7_keep 36 = .ok (.ireturn, 1) := by decide +kernel
theorem dX7_again_0 : decode cX7_again 0 = .ok (.iload_n 1, 1) := by decide +kernel
theorem dX7_again_1 : decode cX7_again 1 = .ok (.ifCond .lt 8, 3) := by decide +kernel
theorem dX7_again_4 : decode cX7_again 4 = .ok (.iload_n 1, 1) := by decide +kernel
theorem dX7_again_5 : decode cX7_again 5 = .ok (.iconst 2, 1) := by decide +kernel
theorem dX7_again_6 : decode cX7_again 6 = .ok (.if_icmp .lt 5, 3) := by decide +kernel
theorem dX7_again_9 : decode cX7_again 9 = .ok (.iconst (-1), 1) := by decide +kernel
theorem dX7_again_10 : decode cX7_again 10 = .ok (.ireturn, 1) := by decide +kernel
theorem dX7_again_11 : decode cX7_again 11 = .ok (.aload_n 0, 1) := by decide +kernel
theorem dX7_again_12 : decode cX7_again 12 = .ok (.getfield 33, 3) := by decide +kernel
theorem dX7_again_15 : decode cX7_again 15 = .ok (.getfield 239, 3) := by decide +kernel
theorem dX7_again_18 : decode cX7_again 18 = .ok (.iload_n 1, 1) := by decide +kernel
theorem dX7_again_19 : decode cX7_again 19 = .ok (.baload, 1) := by decide +kernel
theorem dX7_again_20 : decode cX7_again 20 = .ok (.ifCond .ne 6, 3) := by decide +kernel
theorem dX7_again_23 : decode cX7_again 23 = .ok (.bipush (-3), 2) := by decide +kernel
theorem dX7_again_25 : decode cX7_again 25 = .ok (.ireturn, 1) := by decide +kernel
theorem dX7_again_26 : decode cX7_again 26 = .ok (.aload_n 0, 1) := by decide +kernel
theorem dX7_again_27 : decode cX7_again 27 = .ok (.getfield 19, 3) := by decide +kernel
theorem dX7_again_30 : decode cX7_again 30 = .ok (.getfield 88, 3) := by decide +kernel
theorem dX7_again_33 : decode cX7_again 33 = .ok (.aload_n 0, 1) := by decide +kernel
theorem dX7_again_34 : decode cX7_again 34 = .ok (.getfield 33, 3) := by decide +kernel
theorem dX7_again_37 : decode cX7_again 37 = .ok (.getfield 243, 3) := by decide +kernel
theorem dX7_again_40 : decode cX7_again 40 = .ok (.iload_n 1, 1) := by decide +kernel
theorem dX7_again_41 : decode cX7_again 41 = .ok (.aaload, 1) := by decide +kernel
theorem dX7_again_42 : decode cX7_again 42 = .ok (.invokevirtual 247, 3) := by decide +kernel
theorem dX7_again_45 : decode cX7_again 45 = .ok (.aload_n 0, 1) := by decide +kernel
theorem dX7_again_46 : decode cX7_again 46 = .ok (.getfield 26, 3) := by decide +kernel
theorem dX7_again_49 : decode cX7_again 49 = .ok (.invokevirtual 67, 3) := by decide +kernel
theorem dX7_again_52 : decode cX7_again 52 = .ok (.aload_n 0, 1) := by decide +kernel
theorem dX7_again_53 : decode cX7_again 53 = .ok (.getfield 19, 3) := by decide +kernel
theorem dX7_again_56 : decode cX7_again 56 = .ok (.getfield 88, 3) := by decide +kernel
theorem dX7_again_59 : decode cX7_again 59 = .ok (.getfield 236, 3) := by decide +kernel
theorem dX7_again_62 : decode cX7_again 62 = .ok (.ireturn, 1) := by decide +kernel
theorem dX7_count_0 : decode cX7_count 0 = .ok (.iload_n 1, 1) := by decide +kernel
theorem dX7_count_1 : decode cX7_count 1 = .ok (.tableswitch 153 0 8 #[51, 59, 67, 75, 86, 97, 118, 134, 142], 51) := by decide +kernel
theorem dX7_count_52 : decode cX7_count 52 = .ok (.aload_n 0, 1) := by decide +kernel
theorem dX7_count_53 : decode cX7_count 53 = .ok (.getfield 10, 3) := by decide +kernel
theorem dX7_count_56 : decode cX7_count 56 = .ok (.getfield 51, 3) := by decide +kernel
theorem dX7_count_59 : decode cX7_count 59 = .ok (.ireturn, 1) := by decide +kernel
theorem dX7_count_60 : decode cX7_count 60 = .ok (.aload_n 0, 1) := by decide +kernel
theorem dX7_count_61 : decode cX7_count 61 = .ok (.getfield 19, 3) := by decide +kernel
theorem dX7_count_64 : decode cX7_count 64 = .ok (.getfield 71, 3) := by decide +kernel
theorem dX7_count_67 : decode cX7_count 67 = .ok (.ireturn, 1) := by decide +kernel
theorem dX7_count_68 : decode cX7_count 68 = .ok (.aload_n 0, 1) := by decide +kernel
theorem dX7_count_69 : decode cX7_count 69 = .ok (.getfield 19, 3) := by decide +kernel
theorem dX7_count_72 : decode cX7_count 72 = .ok (.getfield 74, 3) := by decide +kernel
theorem dX7_count_75 : decode cX7_count 75 = .ok (.ireturn, 1) := by decide +kernel
theorem dX7_count_76 : decode cX7_count 76 = .ok (.aload_n 0, 1) := by decide +kernel
theorem dX7_count_77 : decode cX7_count 77 = .ok (.getfield 19, 3) := by decide +kernel
theorem dX7_count_80 : decode cX7_count 80 = .ok (.getfield 88, 3) := by decide +kernel
theorem dX7_count_83 : decode cX7_count 83 = .ok (.getfield 236, 3) := by decide +kernel
theorem dX7_count_86 : decode cX7_count 86 = .ok (.ireturn, 1) := by decide +kernel
theorem dX7_count_87 : decode cX7_count 87 = .ok (.aload_n 0, 1) := by decide +kernel
theorem dX7_count_88 : decode cX7_count 88 = .ok (.getfield 19, 3) := by decide +kernel
theorem dX7_count_91 : decode cX7_count 91 = .ok (.getfield 88, 3) := by decide +kernel
theorem dX7_count_94 : decode cX7_count 94 = .ok (.invokevirtual 126, 3) := by decide +kernel
theorem dX7_count_97 : decode cX7_count 97 = .ok (.ireturn, 1) := by decide +kernel
theorem dX7_count_98 : decode cX7_count 98 = .ok (.aload_n 0, 1) := by decide +kernel
theorem dX7_count_99 : decode cX7_count 99 = .ok (.getfield 19, 3) := by decide +kernel
theorem dX7_count_102 : decode cX7_count 102 = .ok (.getfield 88, 3) := by decide +kernel
theorem dX7_count_105 : decode cX7_count 105 = .ok (.getfield 92, 3) := by decide +kernel
theorem dX7_count_108 : decode cX7_count 108 = .ok (.aload_n 0, 1) := by decide +kernel
theorem dX7_count_109 : decode cX7_count 109 = .ok (.getfield 19, 3) := by decide +kernel
theorem dX7_count_112 : decode cX7_count 112 = .ok (.getfield 74, 3) := by decide +kernel
theorem dX7_count_115 : decode cX7_count 115 = .ok (.invokestatic 250, 3) := by decide +kernel
theorem dX7_count_118 : decode cX7_count 118 = .ok (.ireturn, 1) := by decide +kernel
theorem dX7_count_119 : decode cX7_count 119 = .ok (.aload_n 0, 1) := by decide +kernel
theorem dX7_count_120 : decode cX7_count 120 = .ok (.getfield 19, 3) := by decide +kernel
theorem dX7_count_123 : decode cX7_count 123 = .ok (.getfield 88, 3) := by decide +kernel
theorem dX7_count_126 : decode cX7_count 126 = .ok (.getfield 254, 3) := by decide +kernel
theorem dX7_count_129 : decode cX7_count 129 = .ok (.bipush 30, 2) := by decide +kernel
theorem dX7_count_131 : decode cX7_count 131 = .ok (.invokestatic 250, 3) := by decide +kernel
theorem dX7_count_134 : decode cX7_count 134 = .ok (.ireturn, 1) := by decide +kernel
theorem dX7_count_135 : decode cX7_count 135 = .ok (.aload_n 0, 1) := by decide +kernel
theorem dX7_count_136 : decode cX7_count 136 = .ok (.getfield 26, 3) := by decide +kernel
theorem dX7_count_139 : decode cX7_count 139 = .ok (.getfield 140, 3) := by decide +kernel
theorem dX7_count_142 : decode cX7_count 142 = .ok (.ireturn, 1) := by decide +kernel
theorem dX7_count_143 : decode cX7_count 143 = .ok (.aload_n 0, 1) := by decide +kernel
theorem dX7_count_144 : decode cX7_count 144 = .ok (.getfield 19, 3) := by decide +kernel
theorem dX7_count_147 : decode cX7_count 147 = .ok (.invokevirtual 146, 3) := by decide +kernel
theorem dX7_count_150 : decode cX7_count 150 = .ok (.invokevirtual 257, 3) := by decide +kernel
theorem dX7_count_153 : decode cX7_count 153 = .ok (.ireturn, 1) := by decide +kernel
theorem dX7_count_154 : decode cX7_count 154 = .ok (.bipush (-2), 2) := by decide +kernel
theorem dX7_count_156 : decode cX7_count 156 = .ok (.ireturn, 1) := by decide +kernel
theorem dX7_refusalOfTwo_0 : decode cX7_refusalOfTwo 0 = .ok (.aload_n 0, 1) := by decide +kernel
theorem dX7_refusalOfTwo_1 : decode cX7_refusalOfTwo 1 = .ok (.getfield 19, 3) := by decide +kernel
theorem dX7_refusalOfTwo_4 : decode cX7_refusalOfTwo 4 = .ok (.iload_n 1, 1) := by decide +kernel
theorem dX7_refusalOfTwo_5 : decode cX7_refusalOfTwo 5 = .ok (.invokevirtual 77, 3) := by decide +kernel
theorem dX7_refusalOfTwo_8 : decode cX7_refusalOfTwo 8 = .ok (.ifCond .eq 14, 3) := by decide +kernel
theorem dX7_refusalOfTwo_11 : decode cX7_refusalOfTwo 11 = .ok (.aload_n 0, 1) := by decide +kernel
theorem dX7_refusalOfTwo_12 : decode cX7_refusalOfTwo 12 = .ok (.getfield 19, 3) := by decide +kernel
theorem dX7_refusalOfTwo_15 : decode cX7_refusalOfTwo 15 = .ok (.iload_n 2, 1) := by decide +kernel
theorem dX7_refusalOfTwo_16 : decode cX7_refusalOfTwo 16 = .ok (.invokevirtual 77, 3) := by decide +kernel
theorem dX7_refusalOfTwo_19 : decode cX7_refusalOfTwo 19 = .ok (.ifCond .ne 5, 3) := by decide +kernel
theorem dX7_refusalOfTwo_22 : decode cX7_refusalOfTwo 22 = .ok (.iconst (-1), 1) := by decide +kernel
theorem dX7_refusalOfTwo_23 : decode cX7_refusalOfTwo 23 = .ok (.ireturn, 1) := by decide +kernel
theorem dX7_refusalOfTwo_24 : decode cX7_refusalOfTwo 24 = .ok (.iload_n 1, 1) := by decide +kernel
theorem dX7_refusalOfTwo_25 : decode cX7_refusalOfTwo 25 = .ok (.iload_n 2, 1) := by decide +kernel
theorem dX7_refusalOfTwo_26 : decode cX7_refusalOfTwo 26 = .ok (.if_icmp .ne 8, 3) := by decide +kernel
theorem dX7_refusalOfTwo_29 : decode cX7_refusalOfTwo 29 = .ok (.bipush (-2), 2) := by decide +kernel
theorem dX7_refusalOfTwo_31 : decode cX7_refusalOfTwo 31 = .ok (.goto 4, 3) := by decide +kernel
theorem dX7_refusalOfTwo_34 : decode cX7_refusalOfTwo 34 = .ok (.iconst 0, 1) := by decide +kernel
theorem dX7_refusalOfTwo_35 : decode cX7_refusalOfTwo 35 = .ok (.ireturn, 1) := by decide +kernel
theorem dX7_sum_0 : decode cX7_sum 0 = .ok (.iconst 0, 1) := by decide +kernel
theorem dX7_sum_1 : decode cX7_sum 1 = .ok (.istore_n 2, 1) := by decide +kernel
theorem dX7_sum_2 : decode cX7_sum 2 = .ok (.iconst 0, 1) := by decide +kernel
theorem dX7_sum_3 : decode cX7_sum 3 = .ok (.istore_n 3, 1) := by decide +kernel
theorem dX7_sum_4 : decode cX7_sum 4 = .ok (.iload_n 3, 1) := by decide +kernel
theorem dX7_sum_5 : decode cX7_sum 5 = .ok (.iload_n 1, 1) := by decide +kernel
theorem dX7_sum_6 : decode cX7_sum 6 = .ok (.if_icmp .ge 21, 3) := by decide +kernel
theorem dX7_sum_9 : decode cX7_sum 9 = .ok (.iload_n 3, 1) := by decide +kernel
theorem dX7_sum_10 : decode cX7_sum 10 = .ok (.aload_n 0, 1) := by decide +kernel
theorem dX7_sum_11 : decode cX7_sum 11 = .ok (.arraylength, 1) := by decide +kernel
theorem dX7_sum_12 : decode cX7_sum 12 = .ok (.if_icmp .ge 15, 3) := by decide +kernel
theorem dX7_sum_15 : decode cX7_sum 15 = .ok (.iload_n 2, 1) := by decide +kernel
theorem dX7_sum_16 : decode cX7_sum 16 = .ok (.aload_n 0, 1) := by decide +kernel
theorem dX7_sum_17 : decode cX7_sum 17 = .ok (.iload_n 3, 1) := by decide +kernel
theorem dX7_sum_18 : decode cX7_sum 18 = .ok (.iaload, 1) := by decide +kernel
theorem dX7_sum_19 : decode cX7_sum 19 = .ok (.iadd, 1) := by decide +kernel
theorem dX7_sum_20 : decode cX7_sum 20 = .ok (.istore_n 2, 1) := by decide +kernel
theorem dX7_sum_21 : decode cX7_sum 21 = .ok (.iinc 3 1, 3) := by decide +kernel
theorem dX7_sum_24 : decode cX7_sum 24 = .ok (.goto (-20), 3) := by decide +kernel
theorem dX7_sum_27 : decode cX7_sum 27 = .ok (.iload_n 2, 1) := by decide +kernel
theorem dX7_sum_28 : decode cX7_sum 28 = .ok (.ireturn, 1) := by decide +kernel
theorem dX7_power_0 : decode cX7_power 0 = .ok (.iconst 1, 1) := by decide +kernel
theorem dX7_power_1 : decode cX7_power 1 = .ok (.istore_n 2, 1) := by decide +kernel
theorem dX7_power_2 : decode cX7_power 2 = .ok (.iconst 0, 1) := by decide +kernel
theorem dX7_power_3 : decode cX7_power 3 = .ok (.istore_n 3, 1) := by decide +kernel
theorem dX7_power_4 : decode cX7_power 4 = .ok (.iload_n 3, 1) := by decide +kernel
theorem dX7_power_5 : decode cX7_power 5 = .ok (.iload_n 1, 1) := by decide +kernel
theorem dX7_power_6 : decode cX7_power 6 = .ok (.if_icmp .ge 13, 3) := by decide +kernel
theorem dX7_power_9 : decode cX7_power 9 = .ok (.iload_n 2, 1) := by decide +kernel
theorem dX7_power_10 : decode cX7_power 10 = .ok (.iload_n 0, 1) := by decide +kernel
theorem dX7_power_11 : decode cX7_power 11 = .ok (.imul, 1) := by decide +kernel
theorem dX7_power_12 : decode cX7_power 12 = .ok (.istore_n 2, 1) := by decide +kernel
theorem dX7_power_13 : decode cX7_power 13 = .ok (.iinc 3 1, 3) := by decide +kernel
theorem dX7_power_16 : decode cX7_power 16 = .ok (.goto (-12), 3) := by decide +kernel
theorem dX7_power_19 : decode cX7_power 19 = .ok (.iload_n 2, 1) := by decide +kernel
theorem dX7_power_20 : decode cX7_power 20 = .ok (.ireturn, 1) := by decide +kernel
theorem dX7_tellFraction_0 : decode cX7_tellFraction 0 = .ok (.iload_n 0, 1) := by decide +kernel
theorem dX7_tellFraction_1 : decode cX7_tellFraction 1 = .ok (.invokestatic 260, 3) := by decide +kernel
theorem dX7_tellFraction_4 : decode cX7_tellFraction 4 = .ok (.iload_n 1, 1) := by decide +kernel
theorem dX7_tellFraction_5 : decode cX7_tellFraction 5 = .ok (.invokestatic 265, 3) := by decide +kernel
theorem dX7_tellFraction_8 : decode cX7_tellFraction 8 = .ok (.istore_n 3, 1) := by decide +kernel
theorem dX7_tellFraction_9 : decode cX7_tellFraction 9 = .ok (.iload_n 2, 1) := by decide +kernel
theorem dX7_tellFraction_10 : decode cX7_tellFraction 10 = .ok (.ifCond .eq 7, 3) := by decide +kernel
theorem dX7_tellFraction_13 : decode cX7_tellFraction 13 = .ok (.iload_n 0, 1) := by decide +kernel
theorem dX7_tellFraction_14 : decode cX7_tellFraction 14 = .ok (.goto 4, 3) := by decide +kernel
theorem dX7_tellFraction_17 : decode cX7_tellFraction 17 = .ok (.iload_n 1, 1) := by decide +kernel
theorem dX7_tellFraction_18 : decode cX7_tellFraction 18 = .ok (.istore 4, 2) := by decide +kernel
theorem dX7_tellFraction_20 : decode cX7_tellFraction 20 = .ok (.iload_n 3, 1) := by decide +kernel
theorem dX7_tellFraction_21 : decode cX7_tellFraction 21 = .ok (.iconst 1, 1) := by decide +kernel
theorem dX7_tellFraction_22 : decode cX7_tellFraction 22 = .ok (.if_icmp .le 10, 3) := by decide +kernel
theorem dX7_tellFraction_25 : decode cX7_tellFraction 25 = .ok (.iload 4, 2) := by decide +kernel
theorem dX7_tellFraction_27 : decode cX7_tellFraction 27 = .ok (.iload_n 3, 1) := by decide +kernel
theorem dX7_tellFraction_28 : decode cX7_tellFraction 28 = .ok (.idiv, 1) := by decide +kernel
theorem dX7_tellFraction_29 : decode cX7_tellFraction 29 = .ok (.goto 5, 3) := by decide +kernel
theorem dX7_tellFraction_32 : decode cX7_tellFraction 32 = .ok (.iload 4, 2) := by decide +kernel
theorem dX7_tellFraction_34 : decode cX7_tellFraction 34 = .ok (.ireturn, 1) := by decide +kernel
theorem dX7_greatestDivisor_0 : decode cX7_greatestDivisor 0 = .ok (.iload_n 0, 1) := by decide +kernel
theorem dX7_greatestDivisor_1 : decode cX7_greatestDivisor 1 = .ok (.istore_n 2, 1) := by decide +kernel
theorem dX7_greatestDivisor_2 : decode cX7_greatestDivisor 2 = .ok (.iload_n 1, 1) := by decide +kernel
theorem dX7_greatestDivisor_3 : decode cX7_greatestDivisor 3 = .ok (.istore_n 3, 1) := by decide +kernel
theorem dX7_greatestDivisor_4 : decode cX7_greatestDivisor 4 = .ok (.iconst 0, 1) := by decide +kernel
theorem dX7_greatestDivisor_5 : decode cX7_greatestDivisor 5 = .ok (.istore 4, 2) := by decide +kernel
theorem dX7_greatestDivisor_7 : decode cX7_greatestDivisor 7 = .ok (.iload 4, 2) := by decide +kernel
theorem dX7_greatestDivisor_9 : decode cX7_greatestDivisor 9 = .ok (.bipush 100, 2) := by decide +kernel
theorem dX7_greatestDivisor_11 : decode cX7_greatestDivisor 11 = .ok (.if_icmp .ge 23, 3) := by decide +kernel
theorem dX7_greatestDivisor_14 : decode cX7_greatestDivisor 14 = .ok (.iload_n 3, 1) := by decide +kernel
theorem dX7_greatestDivisor_15 : decode cX7_greatestDivisor 15 = .ok (.ifCond .eq 19, 3) := by decide +kernel
theorem dX7_greatestDivisor_18 : decode cX7_greatestDivisor 18 = .ok (.iload_n 2, 1) := by decide +kernel
theorem dX7_greatestDivisor_19 : decode cX7_greatestDivisor 19 = .ok (.iload_n 3, 1) := by decide +kernel
theorem dX7_greatestDivisor_20 : decode cX7_greatestDivisor 20 = .ok (.irem, 1) := by decide +kernel
theorem dX7_greatestDivisor_21 : decode cX7_greatestDivisor 21 = .ok (.istore 5, 2) := by decide +kernel
theorem dX7_greatestDivisor_23 : decode cX7_greatestDivisor 23 = .ok (.iload_n 3, 1) := by decide +kernel
theorem dX7_greatestDivisor_24 : decode cX7_greatestDivisor 24 = .ok (.istore_n 2, 1) := by decide +kernel
theorem dX7_greatestDivisor_25 : decode cX7_greatestDivisor 25 = .ok (.iload 5, 2) := by decide +kernel
theorem dX7_greatestDivisor_27 : decode cX7_greatestDivisor 27 = .ok (.istore_n 3, 1) := by decide +kernel
theorem dX7_greatestDivisor_28 : decode cX7_greatestDivisor 28 = .ok (.iinc 4 1, 3) := by decide +kernel
theorem dX7_greatestDivisor_31 : decode cX7_greatestDivisor 31 = .ok (.goto (-24), 3) := by decide +kernel
theorem dX7_greatestDivisor_34 : decode cX7_greatestDivisor 34 = .ok (.iload_n 2, 1) := by decide +kernel
theorem dX7_greatestDivisor_35 : decode cX7_greatestDivisor 35 = .ok (.ireturn, 1) := by decide +kernel
