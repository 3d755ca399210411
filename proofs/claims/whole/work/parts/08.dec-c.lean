theorem dX8_init_0 : decode cX8_init 0 = .ok (.aload_n 0, 1) := by decide +kernel
theorem dX8_init_1 : decode cX8_init 1 = .ok (.invokespecial 1, 3) := by decide +kernel
theorem dX8_init_4 : decode cX8_init 4 = .ok (.aload_n 0, 1) := by decide +kernel
theorem dX8_init_5 : decode cX8_init 5 = .ok (.bipush 6, 2) := by decide +kernel
theorem dX8_init_7 : decode cX8_init 7 = .ok (.newarray .int, 2) := by decide +kernel
theorem dX8_init_9 : decode cX8_init 9 = .ok (.putfield 7, 3) := by decide +kernel
theorem dX8_init_12 : decode cX8_init 12 = .ok (.aload_n 0, 1) := by decide +kernel
theorem dX8_init_13 : decode cX8_init 13 = .ok (.bipush 6, 2) := by decide +kernel
theorem dX8_init_15 : decode cX8_init 15 = .ok (.newarray .int, 2) := by decide +kernel
theorem dX8_init_17 : decode cX8_init 17 = .ok (.putfield 13, 3) := by decide +kernel
theorem dX8_init_20 : decode cX8_init 20 = .ok (.aload_n 0, 1) := by decide +kernel
theorem dX8_init_21 : decode cX8_init 21 = .ok (.bipush 108, 2) := by decide +kernel
theorem dX8_init_23 : decode cX8_init 23 = .ok (.newarray .int, 2) := by decide +kernel
theorem dX8_init_25 : decode cX8_init 25 = .ok (.putfield 16, 3) := by decide +kernel
theorem dX8_init_28 : decode cX8_init 28 = .ok (.aload_n 0, 1) := by decide +kernel
theorem dX8_init_29 : decode cX8_init 29 = .ok (.iconst 5, 1) := by decide +kernel
theorem dX8_init_30 : decode cX8_init 30 = .ok (.newarray .int, 2) := by decide +kernel
theorem dX8_init_32 : decode cX8_init 32 = .ok (.putfield 19, 3) := by decide +kernel
theorem dX8_init_35 : decode cX8_init 35 = .ok (.aload_n 0, 1) := by decide +kernel
theorem dX8_init_36 : decode cX8_init 36 = .ok (.bipush 18, 2) := by decide +kernel
theorem dX8_init_38 : decode cX8_init 38 = .ok (.newarray .int, 2) := by decide +kernel
theorem dX8_init_40 : decode cX8_init 40 = .ok (.putfield 22, 3) := by decide +kernel
theorem dX8_init_43 : decode cX8_init 43 = .ok (.aload_n 0, 1) := by decide +kernel
theorem dX8_init_44 : decode cX8_init 44 = .ok (.bipush 40, 2) := by decide +kernel
theorem dX8_init_46 : decode cX8_init 46 = .ok (.newarray .int, 2) := by decide +kernel
theorem dX8_init_48 : decode cX8_init 48 = .ok (.putfield 25, 3) := by decide +kernel
theorem dX8_init_51 : decode cX8_init 51 = .ok (.aload_n 0, 1) := by decide +kernel
theorem dX8_init_52 : decode cX8_init 52 = .ok (.bipush 6, 2) := by decide +kernel
theorem dX8_init_54 : decode cX8_init 54 = .ok (.newarray .int, 2) := by decide +kernel
theorem dX8_init_56 : decode cX8_init 56 = .ok (.putfield 28, 3) := by decide +kernel
theorem dX8_init_59 : decode cX8_init 59 = .ok (.aload_n 0, 1) := by decide +kernel
theorem dX8_init_60 : decode cX8_init 60 = .ok (.sipush 756, 3) := by decide +kernel
theorem dX8_init_63 : decode cX8_init 63 = .ok (.newarray .int, 2) := by decide +kernel
theorem dX8_init_65 : decode cX8_init 65 = .ok (.putfield 31, 3) := by decide +kernel
theorem dX8_init_68 : decode cX8_init 68 = .ok (.aload_n 0, 1) := by decide +kernel
theorem dX8_init_69 : decode cX8_init 69 = .ok (.bipush 64, 2) := by decide +kernel
theorem dX8_init_71 : decode cX8_init 71 = .ok (.newarray .int, 2) := by decide +kernel
theorem dX8_init_73 : decode cX8_init 73 = .ok (.putfield 34, 3) := by decide +kernel
theorem dX8_init_76 : decode cX8_init 76 = .ok (.aload_n 0, 1) := by decide +kernel
theorem dX8_init_77 : decode cX8_init 77 = .ok (.bipush 16, 2) := by decide +kernel
theorem dX8_init_79 : decode cX8_init 79 = .ok (.newarray .int, 2) := by decide +kernel
theorem dX8_init_81 : decode cX8_init 81 = .ok (.putfield 37, 3) := by decide +kernel
theorem dX8_init_84 : decode cX8_init 84 = .ok (.aload_n 0, 1) := by decide +kernel
theorem dX8_init_85 : decode cX8_init 85 = .ok (.bipush 16, 2) := by decide +kernel
theorem dX8_init_87 : decode cX8_init 87 = .ok (.newarray .int, 2) := by decide +kernel
theorem dX8_init_89 : decode cX8_init 89 = .ok (.putfield 40, 3) := by decide +kernel
theorem dX8_init_92 : decode cX8_init 92 = .ok (.aload_n 0, 1) := by decide +kernel
theorem dX8_init_93 : decode cX8_init 93 = .ok (.iconst 2, 1) := by decide +kernel
theorem dX8_init_94 : decode cX8_init 94 = .ok (.newarray .boolean, 2) := by decide +kernel
theorem dX8_init_96 : decode cX8_init 96 = .ok (.putfield 43, 3) := by decide +kernel
theorem dX8_init_99 : decode cX8_init 99 = .ok (.aload_n 0, 1) := by decide +kernel
theorem dX8_init_100 : decode cX8_init 100 = .ok (.bipush 108, 2) := by decide +kernel
theorem dX8_init_102 : decode cX8_init 102 = .ok (.newarray .int, 2) := by decide +kernel
theorem dX8_init_104 : decode cX8_init 104 = .ok (.putfield 47, 3) := by decide +kernel
theorem dX8_init_107 : decode cX8_init 107 = .ok (.aload_n 0, 1) := by decide +kernel
theorem dX8_init_108 : decode cX8_init 108 = .ok (.iconst 0, 1) := by decide +kernel
theorem dX8_init_109 : decode cX8_init 109 = .ok (.putfield 50, 3) := by decide +kernel
theorem dX8_init_112 : decode cX8_init 112 = .ok (.return_, 1) := by decide +kernel
theorem dX8_in_0 : decode cX8_in 0 = .ok (.lload_n 0, 1) := by decide +kernel
theorem dX8_in_1 : decode cX8_in 1 = .ok (.lload_n 2, 1) := by decide +kernel
theorem dX8_in_2 : decode cX8_in 2 = .ok (.lcmp, 1) := by decide +kernel
theorem dX8_in_3 : decode cX8_in 3 = .ok (.ifCond .lt 14, 3) := by decide +kernel
theorem dX8_in_6 : decode cX8_in 6 = .ok (.lload_n 0, 1) := by decide +kernel
theorem dX8_in_7 : decode cX8_in 7 = .ok (.lload 4, 2) := by decide +kernel
theorem dX8_in_9 : decode cX8_in 9 = .ok (.lcmp, 1) := by decide +kernel
theorem dX8_in_10 : decode cX8_in 10 = .ok (.ifCond .gt 7, 3) := by decide +kernel
theorem dX8_in_13 : decode cX8_in 13 = .ok (.iconst 1, 1) := by decide +kernel
theorem dX8_in_14 : decode cX8_in 14 = .ok (.goto 4, 3) := by decide +kernel
theorem dX8_in_17 : decode cX8_in 17 = .ok (.iconst 0, 1) := by decide +kernel
theorem dX8_in_18 : decode cX8_in 18 = .ok (.ireturn, 1) := by decide +kernel
theorem dX8_has_0 : decode cX8_has 0 = .ok (.iload_n 0, 1) := by decide +kernel
theorem dX8_has_1 : decode cX8_has 1 = .ok (.iload_n 1, 1) := by decide +kernel
theorem dX8_has_2 : decode cX8_has 2 = .ok (.ishr, 1) := by decide +kernel
theorem dX8_has_3 : decode cX8_has 3 = .ok (.iconst 1, 1) := by decide +kernel
theorem dX8_has_4 : decode cX8_has 4 = .ok (.iand, 1) := by decide +kernel
theorem dX8_has_5 : decode cX8_has 5 = .ok (.iconst 1, 1) := by decide +kernel
theorem dX8_has_6 : decode cX8_has 6 = .ok (.if_icmp .ne 7, 3) := by decide +kernel
theorem dX8_has_9 : decode cX8_has 9 = .ok (.iconst 1, 1) := by decide +kernel
theorem dX8_has_10 : decode cX8_has 10 = .ok (.goto 4, 3) := by decide +kernel
theorem dX8_has_13 : decode cX8_has 13 = .ok (.iconst 0, 1) := by decide +kernel
theorem dX8_has_14 : decode cX8_has 14 = .ok (.ireturn, 1) := by decide +kernel
theorem dX8_ones_0 : decode cX8_ones 0 = .ok (.iconst 0, 1) := by decide +kernel
theorem dX8_ones_1 : decode cX8_ones 1 = .ok (.istore_n 1, 1) := by decide +kernel
theorem dX8_ones_2 : decode cX8_ones 2 = .ok (.iconst 0, 1) := by decide +kernel
theorem dX8_ones_3 : decode cX8_ones 3 = .ok (.istore_n 2, 1) := by decide +kernel
theorem dX8_ones_4 : decode cX8_ones 4 = .ok (.iload_n 2, 1) := by decide +kernel
theorem dX8_ones_5 : decode cX8_ones 5 = .ok (.bipush 6, 2) := by decide +kernel
theorem dX8_ones_7 : decode cX8_ones 7 = .ok (.if_icmp .ge 17, 3) := by decide +kernel
theorem dX8_ones_10 : decode cX8_ones 10 = .ok (.iload_n 1, 1) := by decide +kernel
theorem dX8_ones_11 : decode cX8_ones 11 = .ok (.iload_n 0, 1) := by decide +kernel
theorem dX8_ones_12 : decode cX8_ones 12 = .ok (.iload_n 2, 1) := by decide +kernel
theorem dX8_ones_13 : decode cX8_ones 13 = .ok (.ishr, 1) := by decide +kernel
theorem dX8_ones_14 : decode cX8_ones 14 = .ok (.iconst 1, 1) := by decide +kernel
theorem dX8_ones_15 : decode cX8_ones 15 = .ok (.iand, 1) := by decide +kernel
theorem dX8_ones_16 : decode cX8_ones 16 = .ok (.iadd, 1) := by decide +kernel
theorem dX8_ones_17 : decode cX8_ones 17 = .ok (.istore_n 1, 1) := by decide +kernel
theorem dX8_ones_18 : decode cX8_ones 18 = .ok (.iinc 2 1, 3) := by decide +kernel
theorem dX8_ones_21 : decode cX8_ones 21 = .ok (.goto (-17), 3) := by decide +kernel
theorem dX8_ones_24 : decode cX8_ones 24 = .ok (.iload_n 1, 1) := by decide +kernel
theorem dX8_ones_25 : decode cX8_ones 25 = .ok (.ireturn, 1) := by decide +kernel
theorem dX8_write_0 : decode cX8_write 0 = .ok (.iload_n 1, 1) := by decide +kernel
theorem dX8_write_1 : decode cX8_write 1 = .ok (.i2l, 1) := by decide +kernel
theorem dX8_write_2 : decode cX8_write 2 = .ok (.lconst 0, 1) := by decide +kernel
theorem dX8_write_3 : decode cX8_write 3 = .ok (.ldc2_w 54, 3) := by decide +kernel
theorem dX8_write_6 : decode cX8_write 6 = .ok (.invokestatic 56, 3) := by decide +kernel
theorem dX8_write_9 : decode cX8_write 9 = .ok (.ifCond .ne 6, 3) := by decide +kernel
theorem dX8_write_12 : decode cX8_write 12 = .ok (.bipush (-2), 2) := by decide +kernel
theorem dX8_write_14 : decode cX8_write 14 = .ok (.ireturn, 1) := by decide +kernel
theorem dX8_write_15 : decode cX8_write 15 = .ok (.aload_n 0, 1) := by decide +kernel
theorem dX8_write_16 : decode cX8_write 16 = .ok (.getfield 60, 3) := by decide +kernel
theorem dX8_write_19 : decode cX8_write 19 = .ok (.bipush 40, 2) := by decide +kernel
theorem dX8_write_21 : decode cX8_write 21 = .ok (.if_icmp .ne 6, 3) := by decide +kernel
theorem dX8_write_24 : decode cX8_write 24 = .ok (.bipush (-4), 2) := by decide +kernel
theorem dX8_write_26 : decode cX8_write 26 = .ok (.ireturn, 1) := by decide +kernel
theorem dX8_write_27 : decode cX8_write 27 = .ok (.aload_n 0, 1) := by decide +kernel
theorem dX8_write_28 : decode cX8_write 28 = .ok (.getfield 25, 3) := by decide +kernel
theorem dX8_write_31 : decode cX8_write 31 = .ok (.aload_n 0, 1) := by decide +kernel
theorem dX8_write_32 : decode cX8_write 32 = .ok (.getfield 60, 3) := by decide +kernel
theorem dX8_write_35 : decode cX8_write 35 = .ok (.iload_n 1, 1) := by decide +kernel
theorem dX8_write_36 : decode cX8_write 36 = .ok (.iastore, 1) := by decide +kernel
theorem dX8_write_37 : decode cX8_write 37 = .ok (.aload_n 0, 1) := by decide +kernel
theorem dX8_write_38 : decode cX8_write 38 = .ok (.dup, 1) := by decide +kernel
theorem dX8_write_39 : decode cX8_write 39 = .ok (.getfield 60, 3) := by decide +kernel
theorem dX8_write_42 : decode cX8_write 42 = .ok (.iconst 1, 1) := by decide +kernel
theorem dX8_write_43 : decode cX8_write 43 = .ok (.iadd, 1) := by decide +kernel
theorem dX8_write_44 : decode cX8_write 44 = .ok (.putfield 60, 3) := by decide +kernel
theorem dX8_write_47 : decode cX8_write 47 = .ok (.aload_n 0, 1) := by decide +kernel
theorem dX8_write_48 : decode cX8_write 48 = .ok (.getfield 60, 3) := by decide +kernel
theorem dX8_write_51 : decode cX8_write 51 = .ok (.ireturn, 1) := by decide +kernel
theorem dX8_wipe_0 : decode cX8_wipe 0 = .ok (.aload_n 0, 1) := by decide +kernel
theorem dX8_wipe_1 : decode cX8_wipe 1 = .ok (.getfield 60, 3) := by decide +kernel
theorem dX8_wipe_4 : decode cX8_wipe 4 = .ok (.istore_n 1, 1) := by decide +kernel
theorem dX8_wipe_5 : decode cX8_wipe 5 = .ok (.aload_n 0, 1) := by decide +kernel
theorem dX8_wipe_6 : decode cX8_wipe 6 = .ok (.iconst 0, 1) := by decide +kernel
theorem dX8_wipe_7 : decode cX8_wipe 7 = .ok (.putfield 60, 3) := by decide +kernel
theorem dX8_wipe_10 : decode cX8_wipe 10 = .ok (.iload_n 1, 1) := by decide +kernel
theorem dX8_wipe_11 : decode cX8_wipe 11 = .ok (.ireturn, 1) := by decide +kernel
theorem dX8_figure_0 : decode cX8_figure 0 = .ok (.aload_n 0, 1) := by decide +kernel
theorem dX8_figure_1 : decode cX8_figure 1 = .ok (.getfield 63, 3) := by decide +kernel
theorem dX8_figure_4 : decode cX8_figure 4 = .ok (.bipush (-9), 2) := by decide +kernel
theorem dX8_figure_6 : decode cX8_figure 6 = .ok (.if_icmp .ne 29, 3) := by decide +kernel
theorem dX8_figure_9 : decode cX8_figure 9 = .ok (.aload_n 0, 1) := by decide +kernel
theorem dX8_figure_10 : decode cX8_figure 10 = .ok (.getfield 66, 3) := by decide +kernel
theorem dX8_figure_13 : decode cX8_figure 13 = .ok (.aload_n 0, 1) := by decide +kernel
theorem dX8_figure_14 : decode cX8_figure 14 = .ok (.getfield 60, 3) := by decide +kernel
theorem dX8_figure_17 : decode cX8_figure 17 = .ok (.if_icmp .ge 18, 3) := by decide +kernel
theorem dX8_figure_20 : decode cX8_figure 20 = .ok (.aload_n 0, 1) := by decide +kernel
theorem dX8_figure_21 : decode cX8_figure 21 = .ok (.getfield 25, 3) := by decide +kernel
theorem dX8_figure_24 : decode cX8_figure 24 = .ok (.aload_n 0, 1) := by decide +kernel
theorem dX8_figure_25 : decode cX8_figure 25 = .ok (.getfield 66, 3) := by decide +kernel
theorem dX8_figure_28 : decode cX8_figure 28 = .ok (.iaload, 1) := by decide +kernel
theorem dX8_figure_29 : decode cX8_figure 29 = .ok (.bipush 48, 2) := by decide +kernel
theorem dX8_figure_31 : decode cX8_figure 31 = .ok (.isub, 1) := by decide +kernel
theorem dX8_figure_32 : decode cX8_figure 32 = .ok (.goto 5, 3) := by decide +kernel
theorem dX8_figure_35 : decode cX8_figure 35 = .ok (.bipush (-9), 2) := by decide +kernel
theorem dX8_figure_37 : decode cX8_figure 37 = .ok (.istore_n 3, 1) := by decide +kernel
theorem dX8_figure_38 : decode cX8_figure 38 = .ok (.iload_n 3, 1) := by decide +kernel
theorem dX8_figure_39 : decode cX8_figure 39 = .ok (.i2l, 1) := by decide +kernel
theorem dX8_figure_40 : decode cX8_figure 40 = .ok (.iload_n 1, 1) := by decide +kernel
theorem dX8_figure_41 : decode cX8_figure 41 = .ok (.i2l, 1) := by decide +kernel
theorem dX8_figure_42 : decode cX8_figure 42 = .ok (.iload_n 2, 1) := by decide +kernel
theorem dX8_figure_43 : decode cX8_figure 43 = .ok (.i2l, 1) := by decide +kernel
theorem dX8_figure_44 : decode cX8_figure 44 = .ok (.invokestatic 56, 3) := by decide +kernel
theorem dX8_figure_47 : decode cX8_figure 47 = .ok (.ifCond .ne 29, 3) := by decide +kernel
theorem dX8_figure_50 : decode cX8_figure 50 = .ok (.aload_n 0, 1) := by decide +kernel
theorem dX8_figure_51 : decode cX8_figure 51 = .ok (.aload_n 0, 1) := by decide +kernel
theorem dX8_figure_52 : decode cX8_figure 52 = .ok (.getfield 63, 3) := by decide +kernel
theorem dX8_figure_55 : decode cX8_figure 55 = .ok (.bipush (-9), 2) := by decide +kernel
theorem dX8_figure_57 : decode cX8_figure 57 = .ok (.if_icmp .ne 10, 3) := by decide +kernel
theorem dX8_figure_60 : decode cX8_figure 60 = .ok (.aload_n 0, 1) := by decide +kernel
theorem dX8_figure_61 : decode cX8_figure 61 = .ok (.getfield 66, 3) := by decide +kernel
theorem dX8_figure_64 : decode cX8_figure 64 = .ok (.goto 7, 3) := by decide +kernel
theorem dX8_figure_67 : decode cX8_figure 67 = .ok (.aload_n 0, 1) := by decide +kernel
theorem dX8_figure_68 : decode cX8_figure 68 = .ok (.getfield 63, 3) := by decide +kernel
theorem dX8_figure_71 : decode cX8_figure 71 = .ok (.putfield 63, 3) := by decide +kernel
theorem dX8_figure_74 : decode cX8_figure 74 = .ok (.iload_n 1, 1) := by decide +kernel
theorem dX8_figure_75 : decode cX8_figure 75 = .ok (.ireturn, 1) := by decide +kernel
theorem dX8_figure_76 : decode cX8_figure 76 = .ok (.aload_n 0, 1) := by decide +kernel
theorem dX8_figure_77 : decode cX8_figure 77 = .ok (.dup, 1) := by decide +kernel
theorem dX8_figure_78 : decode cX8_figure 78 = .ok (.getfield 66, 3) := by decide +kernel
theorem dX8_figure_81 : decode cX8_figure 81 = .ok (.iconst 1, 1) := by decide +kernel
theorem dX8_figure_82 : decode cX8_figure 82 = .ok (.iadd, 1) := by decide +kernel
theorem dX8_figure_83 : decode cX8_figure 83 = .ok (.putfield 66, 3) := by decide +kernel
theorem dX8_figure_86 : decode cX8_figure 86 = .ok (.iload_n 3, 1) := by decide +kernel
theorem dX8_figure_87 : decode cX8_figure 87 = .ok (.ireturn, 1) := by decide +kernel
theorem dX8_readText_0 : decode cX8_readText 0 = .ok (.aload_n 0, 1) := by decide +kernel
theorem dX8_readText_1 : decode cX8_readText 1 = .ok (.iconst 0, 1) := by decide +kernel
theorem dX8_readText_2 : decode cX8_readText 2 = .ok (.putfield 66, 3) := by decide +kernel
theorem dX8_readText_5 : decode cX8_readText 5 = .ok (.aload_n 0, 1) := by decide +kernel
theorem dX8_readText_6 : decode cX8_readText 6 = .ok (.bipush (-9), 2) := by decide +kernel
theorem dX8_readText_8 : decode cX8_readText 8 = .ok (.putfield 63, 3) := by decide +kernel
theorem dX8_readText_11 : decode cX8_readText 11 = .ok (.aload_n 0, 1) := by decide +kernel
theorem dX8_readText_12 : decode cX8_readText 12 = .ok (.iconst 0, 1) := by decide +kernel
theorem dX8_readText_13 : decode cX8_readText 13 = .ok (.putfield 69, 3) := by decide +kernel
theorem dX8_readText_16 : decode cX8_readText 16 = .ok (.aload_n 0, 1) := by decide +kernel
theorem dX8_readText_17 : decode cX8_readText 17 = .ok (.iconst 0, 1) := by decide +kernel
theorem dX8_readText_18 : decode cX8_readText 18 = .ok (.putfield 72, 3) := by decide +kernel
theorem dX8_readText_21 : decode cX8_readText 21 = .ok (.aload_n 0, 1) := by decide +kernel
theorem dX8_readText_22 : decode cX8_readText 22 = .ok (.getfield 60, 3) := by decide +kernel
theorem dX8_readText_25 : decode cX8_readText 25 = .ok (.ifCond .eq 14, 3) := by decide +kernel
theorem dX8_readText_28 : decode cX8_readText 28 = .ok (.aload_n 0, 1) := by decide +kernel
theorem dX8_readText_29 : decode cX8_readText 29 = .ok (.getfield 25, 3) := by decide +kernel
theorem dX8_readText_32 : decode cX8_readText 32 = .ok (.iconst 0, 1) := by decide +kernel
theorem dX8_readText_33 : decode cX8_readText 33 = .ok (.iaload, 1) := by decide +kernel
theorem dX8_readText_34 : decode cX8_readText 34 = .ok (.bipush 67, 2) := by decide +kernel
theorem dX8_readText_36 : decode cX8_readText 36 = .ok (.if_icmp .eq 5, 3) := by decide +kernel
theorem dX8_readText_39 : decode cX8_readText 39 = .ok (.iconst 0, 1) := by decide +kernel
theorem dX8_readText_40 : decode cX8_readText 40 = .ok (.ireturn, 1) := by decide +kernel
theorem dX8_readText_41 : decode cX8_readText 41 = .ok (.aload_n 0, 1) := by decide +kernel
theorem dX8_readText_42 : decode cX8_readText 42 = .ok (.iconst 1, 1) := by decide +kernel
theorem dX8_readText_43 : decode cX8_readText 43 = .ok (.putfield 66, 3) := by decide +kernel
theorem dX8_readText_46 : decode cX8_readText 46 = .ok (.aload_n 0, 1) := by decide +kernel
theorem dX8_readText_47 : decode cX8_readText 47 = .ok (.getfield 63, 3) := by decide +kernel
theorem dX8_readText_50 : decode cX8_readText 50 = .ok (.bipush (-9), 2) := by decide +kernel
theorem dX8_readText_52 : decode cX8_readText 52 = .ok (.if_icmp .ne 188, 3) := by decide +kernel
theorem dX8_readText_55 : decode cX8_readText 55 = .ok (.aload_n 0, 1) := by decide +kernel
theorem dX8_readText_56 : decode cX8_readText 56 = .ok (.getfield 66, 3) := by decide +kernel
theorem dX8_readText_59 : decode cX8_readText 59 = .ok (.aload_n 0, 1) := by decide +kernel
theorem dX8_readText_60 : decode cX8_readText 60 = .ok (.getfield 60, 3) := by decide +kernel
theorem dX8_readText_63 : decode cX8_readText 63 = .ok (.if_icmp .ge 177, 3) := by decide +kernel
theorem dX8_readText_66 : decode cX8_readText 66 = .ok (.aload_n 0, 1) := by decide +kernel
theorem dX8_readText_67 : decode cX8_readText 67 = .ok (.getfield 25, 3) := by decide +kernel
theorem dX8_readText_70 : decode cX8_readText 70 = .ok (.aload_n 0, 1) := by decide +kernel
theorem dX8_readText_71 : decode cX8_readText 71 = .ok (.getfield 66, 3) := by decide +kernel
theorem dX8_readText_74 : decode cX8_readText 74 = .ok (.iaload, 1) := by decide +kernel
theorem dX8_readText_75 : decode cX8_readText 75 = .ok (.bipush 75, 2) := by decide +kernel
theorem dX8_readText_77 : decode cX8_readText 77 = .ok (.if_icmp .ne 49, 3) := by decide +kernel
theorem dX8_readText_80 : decode cX8_readText 80 = .ok (.aload_n 0, 1) := by decide +kernel
theorem dX8_readText_81 : decode cX8_readText 81 = .ok (.getfield 69, 3) := by decide +kernel
theorem dX8_readText_84 : decode cX8_readText 84 = .ok (.iconst 5, 1) := by decide +kernel
theorem dX8_readText_85 : decode cX8_readText 85 = .ok (.if_icmp .ge 41, 3) := by decide +kernel
theorem dX8_readText_88 : decode cX8_readText 88 = .ok (.aload_n 0, 1) := by decide +kernel
theorem dX8_readText_89 : decode cX8_readText 89 = .ok (.dup, 1) := by decide +kernel
theorem dX8_readText_90 : decode cX8_readText 90 = .ok (.getfield 66, 3) := by decide +kernel
theorem dX8_readText_93 : decode cX8_readText 93 = .ok (.iconst 1, 1) := by decide +kernel
theorem dX8_readText_94 : decode cX8_readText 94 = .ok (.iadd, 1) := by decide +kernel
theorem dX8_readText_95 : decode cX8_readText 95 = .ok (.putfield 66, 3) := by decide +kernel
theorem dX8_readText_98 : decode cX8_readText 98 = .ok (.aload_n 0, 1) := by decide +kernel
theorem dX8_readText_99 : decode cX8_readText 99 = .ok (.getfield 19, 3) := by decide +kernel
theorem dX8_readText_102 : decode cX8_readText 102 = .ok (.aload_n 0, 1) := by decide +kernel
theorem dX8_readText_103 : decode cX8_readText 103 = .ok (.getfield 69, 3) := by decide +kernel
theorem dX8_readText_106 : decode cX8_readText 106 = .ok (.aload_n 0, 1) := by decide +kernel
theorem dX8_readText_107 : decode cX8_readText 107 = .ok (.iconst 0, 1) := by decide +kernel
theorem dX8_readText_108 : decode cX8_readText 108 = .ok (.iconst 3, 1) := by decide +kernel
theorem dX8_readText_109 : decode cX8_readText 109 = .ok (.invokevirtual 75, 3) := by decide +kernel
theorem dX8_readText_112 : decode cX8_readText 112 = .ok (.iastore, 1) := by decide +kernel
theorem dX8_readText_113 : decode cX8_readText 113 = .ok (.aload_n 0, 1) := by decide +kernel
theorem dX8_readText_114 : decode cX8_readText 114 = .ok (.dup, 1) := by decide +kernel
theorem dX8_readText_115 : decode cX8_readText 115 = .ok (.getfield 69, 3) := by decide +kernel
theorem dX8_readText_118 : decode cX8_readText 118 = .ok (.iconst 1, 1) := by decide +kernel
theorem dX8_readText_119 : decode cX8_readText 119 = .ok (.iadd, 1) := by decide +kernel
theorem dX8_readText_120 : decode cX8_readText 120 = .ok (.putfield 69, 3) := by decide +kernel
theorem dX8_readText_123 : decode cX8_readText 123 = .ok (.goto (-77), 3) := by decide +kernel
theorem dX8_readText_126 : decode cX8_readText 126 = .ok (.aload_n 0, 1) := by decide +kernel
theorem dX8_readText_127 : decode cX8_readText 127 = .ok (.getfield 25, 3) := by decide +kernel
theorem dX8_readText_130 : decode cX8_readText 130 = .ok (.aload_n 0, 1) := by decide +kernel
theorem dX8_readText_131 : decode cX8_readText 131 = .ok (.getfield 66, 3) := by decide +kernel
theorem dX8_readText_134 : decode cX8_readText 134 = .ok (.iaload, 1) := by decide +kernel
theorem dX8_readText_135 : decode cX8_readText 135 = .ok (.bipush 66, 2) := by decide +kernel
theorem dX8_readText_137 : decode cX8_readText 137 = .ok (.if_icmp .ne 92, 3) := by decide +kernel
theorem dX8_readText_140 : decode cX8_readText 140 = .ok (.aload_n 0, 1) := by decide +kernel
theorem dX8_readText_141 : decode cX8_readText 141 = .ok (.getfield 72, 3) := by decide +kernel
theorem dX8_readText_144 : decode cX8_readText 144 = .ok (.bipush 6, 2) := by decide +kernel
theorem dX8_readText_146 : decode cX8_readText 146 = .ok (.if_icmp .ge 83, 3) := by decide +kernel
theorem dX8_readText_149 : decode cX8_readText 149 = .ok (.aload_n 0, 1) := by decide +kernel
theorem dX8_readText_150 : decode cX8_readText 150 = .ok (.dup, 1) := by decide +kernel
theorem dX8_readText_151 : decode cX8_readText 151 = .ok (.getfield 66, 3) := by decide +kernel
theorem dX8_readText_154 : decode cX8_readText 154 = .ok (.iconst 1, 1) := by decide +kernel
theorem dX8_readText_155 : decode cX8_readText 155 = .ok (.iadd, 1) := by decide +kernel
theorem dX8_readText_156 : decode cX8_readText 156 = .ok (.putfield 66, 3) := by decide +kernel
theorem dX8_readText_159 : decode cX8_readText 159 = .ok (.aload_n 0, 1) := by decide +kernel
theorem dX8_readText_160 : decode cX8_readText 160 = .ok (.getfield 22, 3) := by decide +kernel
theorem dX8_readText_163 : decode cX8_readText 163 = .ok (.iconst 3, 1) := by decide +kernel
theorem dX8_readText_164 : decode cX8_readText 164 = .ok (.aload_n 0, 1) := by decide +kernel
theorem dX8_readText_165 : decode cX8_readText 165 = .ok (.getfield 72, 3) := by decide +kernel
theorem dX8_readText_168 : decode cX8_readText 168 = .ok (.imul, 1) := by decide +kernel
theorem dX8_readText_169 : decode cX8_readText 169 = .ok (.aload_n 0, 1) := by decide +kernel
theorem dX8_readText_170 : decode cX8_readText 170 = .ok (.iconst 1, 1) := by decide +kernel
theorem dX8_readText_171 : decode cX8_readText 171 = .ok (.iconst 2, 1) := by decide +kernel
theorem dX8_readText_172 : decode cX8_readText 172 = .ok (.invokevirtual 75, 3) := by decide +kernel
theorem dX8_readText_175 : decode cX8_readText 175 = .ok (.iastore, 1) := by decide +kernel
theorem dX8_readText_176 : decode cX8_readText 176 = .ok (.aload_n 0, 1) := by decide +kernel
theorem dX8_readText_177 : decode cX8_readText 177 = .ok (.getfield 22, 3) := by decide +kernel
theorem dX8_readText_180 : decode cX8_readText 180 = .ok (.iconst 3, 1) := by decide +kernel
theorem dX8_readText_181 : decode cX8_readText 181 = .ok (.aload_n 0, 1) := by decide +kernel
theorem dX8_readText_182 : decode cX8_readText 182 = .ok (.getfield 72, 3) := by decide +kernel
theorem dX8_readText_185 : decode cX8_readText 185 = .ok (.imul, 1) := by decide +kernel
theorem dX8_readText_186 : decode cX8_readText 186 = .ok (.iconst 1, 1) := by decide +kernel
theorem dX8_readText_187 : decode cX8_readText 187 = .ok (.iadd, 1) := by decide +kernel
theorem dX8_readText_188 : decode cX8_readText 188 = .ok (.aload_n 0, 1) := by decide +kernel
theorem dX8_readText_189 : decode cX8_readText 189 = .ok (.iconst 0, 1) := by decide +kernel
theorem dX8_readText_190 : decode cX8_readText 190 = .ok (.bipush 9, 2) := by decide +kernel
theorem dX8_readText_192 : decode cX8_readText 192 = .ok (.invokevirtual 75, 3) := by decide +kernel
theorem dX8_readText_195 : decode cX8_readText 195 = .ok (.iastore, 1) := by decide +kernel
theorem dX8_readText_196 : decode cX8_readText 196 = .ok (.aload_n 0, 1) := by decide +kernel
theorem dX8_readText_197 : decode cX8_readText 197 = .ok (.getfield 22, 3) := by decide +kernel
theorem dX8_readText_200 : decode cX8_readText 200 = .ok (.iconst 3, 1) := by decide +kernel
theorem dX8_readText_201 : decode cX8_readText 201 = .ok (.aload_n 0, 1) := by decide +kernel
theorem dX8_readText_202 : decode cX8_readText 202 = .ok (.getfield 72, 3) := by decide +kernel
theorem dX8_readText_205 : decode cX8_readText 205 = .ok (.imul, 1) := by decide +kernel
theorem dX8_readText_206 : decode cX8_readText 206 = .ok (.iconst 2, 1) := by decide +kernel
theorem dX8_readText_207 : decode cX8_readText 207 = .ok (.iadd, 1) := by decide +kernel
theorem dX8_readText_208 : decode cX8_readText 208 = .ok (.aload_n 0, 1) := by decide +kernel
theorem dX8_readText_209 : decode cX8_readText 209 = .ok (.iconst 0, 1) := by decide +kernel
theorem dX8_readText_210 : decode cX8_readText 210 = .ok (.bipush 9, 2) := by decide +kernel
theorem dX8_readText_212 : decode cX8_readText 212 = .ok (.invokevirtual 75, 3) := by decide +kernel
theorem dX8_readText_215 : decode cX8_readText 215 = .ok (.iastore, 1) := by decide +kernel
theorem dX8_readText_216 : decode cX8_readText 216 = .ok (.aload_n 0, 1) := by decide +kernel
theorem dX8_readText_217 : decode cX8_readText 217 = .ok (.dup, 1) := by decide +kernel
theorem dX8_readText_218 : decode cX8_readText 218 = .ok (.getfield 72, 3) := by decide +kernel
theorem dX8_readText_221 : decode cX8_readText 221 = .ok (.iconst 1, 1) := by decide +kernel
theorem dX8_readText_222 : decode cX8_readText 222 = .ok (.iadd, 1) := by decide +kernel
theorem dX8_readText_223 : decode cX8_readText 223 = .ok (.putfield 72, 3) := by decide +kernel
theorem dX8_readText_226 : decode cX8_readText 226 = .ok (.goto (-180), 3) := by decide +kernel
theorem dX8_readText_229 : decode cX8_readText 229 = .ok (.aload_n 0, 1) := by decide +kernel
theorem dX8_readText_230 : decode cX8_readText 230 = .ok (.aload_n 0, 1) := by decide +kernel
theorem dX8_readText_231 : decode cX8_readText 231 = .ok (.getfield 66, 3) := by decide +kernel
theorem dX8_readText_234 : decode cX8_readText 234 = .ok (.putfield 63, 3) := by decide +kernel
theorem dX8_readText_237 : decode cX8_readText 237 = .ok (.goto (-191), 3) := by decide +kernel
theorem dX8_readText_240 : decode cX8_readText 240 = .ok (.aload_n 0, 1) := by decide +kernel
theorem dX8_readText_241 : decode cX8_readText 241 = .ok (.getfield 63, 3) := by decide +kernel
theorem dX8_readText_244 : decode cX8_readText 244 = .ok (.ireturn, 1) := by decide +kernel
theorem dX8_fault_0 : decode cX8_fault 0 = .ok (.aload_n 0, 1) := by decide +kernel
theorem dX8_fault_1 : decode cX8_fault 1 = .ok (.invokevirtual 79, 3) := by decide +kernel
theorem dX8_fault_4 : decode cX8_fault 4 = .ok (.ireturn, 1) := by decide +kernel
theorem dX8_canal_0 : decode cX8_canal 0 = .ok (.aload_n 0, 1) := by decide +kernel
theorem dX8_canal_1 : decode cX8_canal 1 = .ok (.invokevirtual 79, 3) := by decide +kernel
theorem dX8_canal_4 : decode cX8_canal 4 = .ok (.bipush (-9), 2) := by decide +kernel
theorem dX8_canal_6 : decode cX8_canal 6 = .ok (.if_icmp .eq 6, 3) := by decide +kernel
theorem dX8_canal_9 : decode cX8_canal 9 = .ok (.bipush (-3), 2) := by decide +kernel
theorem dX8_canal_11 : decode cX8_canal 11 = .ok (.ireturn, 1) := by decide +kernel
theorem dX8_canal_12 : decode cX8_canal 12 = .ok (.aload_n 0, 1) := by decide +kernel
theorem dX8_canal_13 : decode cX8_canal 13 = .ok (.aload_n 0, 1) := by decide +kernel
theorem dX8_canal_14 : decode cX8_canal 14 = .ok (.getfield 69, 3) := by decide +kernel
theorem dX8_canal_17 : decode cX8_canal 17 = .ok (.putfield 50, 3) := by decide +kernel
theorem dX8_canal_20 : decode cX8_canal 20 = .ok (.aload_n 0, 1) := by decide +kernel
theorem dX8_canal_21 : decode cX8_canal 21 = .ok (.aload_n 0, 1) := by decide +kernel
theorem dX8_canal_22 : decode cX8_canal 22 = .ok (.getfield 72, 3) := by decide +kernel
theorem dX8_canal_25 : decode cX8_canal 25 = .ok (.putfield 83, 3) := by decide +kernel
theorem dX8_canal_28 : decode cX8_canal 28 = .ok (.iconst 0, 1) := by decide +kernel
theorem dX8_canal_29 : decode cX8_canal 29 = .ok (.istore_n 1, 1) := by decide +kernel
theorem dX8_canal_30 : decode cX8_canal 30 = .ok (.iload_n 1, 1) := by decide +kernel
theorem dX8_canal_31 : decode cX8_canal 31 = .ok (.bipush 54, 2) := by decide +kernel
theorem dX8_canal_33 : decode cX8_canal 33 = .ok (.if_icmp .ge 16, 3) := by decide +kernel
theorem dX8_canal_36 : decode cX8_canal 36 = .ok (.aload_n 0, 1) := by decide +kernel
theorem dX8_canal_37 : decode cX8_canal 37 = .ok (.getfield 16, 3) := by decide +kernel
theorem dX8_canal_40 : decode cX8_canal 40 = .ok (.iload_n 1, 1) := by decide +kernel
theorem dX8_canal_41 : decode cX8_canal 41 = .ok (.iconst 0, 1) := by decide +kernel
theorem dX8_canal_42 : decode cX8_canal 42 = .ok (.iastore, 1) := by decide +kernel
theorem dX8_canal_43 : decode cX8_canal 43 = .ok (.iinc 1 1, 3) := by decide +kernel
theorem dX8_canal_46 : decode cX8_canal 46 = .ok (.goto (-16), 3) := by decide +kernel
theorem dX8_canal_49 : decode cX8_canal 49 = .ok (.iconst 0, 1) := by decide +kernel
theorem dX8_canal_50 : decode cX8_canal 50 = .ok (.istore_n 1, 1) := by decide +kernel
theorem dX8_canal_51 : decode cX8_canal 51 = .ok (.iload_n 1, 1) := by decide +kernel
theorem dX8_canal_52 : decode cX8_canal 52 = .ok (.iconst 5, 1) := by decide +kernel
theorem dX8_canal_53 : decode cX8_canal 53 = .ok (.if_icmp .ge 24, 3) := by decide +kernel
theorem dX8_canal_56 : decode cX8_canal 56 = .ok (.aload_n 0, 1) := by decide +kernel
theorem dX8_canal_57 : decode cX8_canal 57 = .ok (.getfield 16, 3) := by decide +kernel
theorem dX8_canal_60 : decode cX8_canal 60 = .ok (.bipush 12, 2) := by decide +kernel
theorem dX8_canal_62 : decode cX8_canal 62 = .ok (.iload_n 1, 1) := by decide +kernel
theorem dX8_canal_63 : decode cX8_canal 63 = .ok (.iadd, 1) := by decide +kernel
theorem dX8_canal_64 : decode cX8_canal 64 = .ok (.aload_n 0, 1) := by decide +kernel
theorem dX8_canal_65 : decode cX8_canal 65 = .ok (.getfield 19, 3) := by decide +kernel
theorem dX8_canal_68 : decode cX8_canal 68 = .ok (.iload_n 1, 1) := by decide +kernel
theorem dX8_canal_69 : decode cX8_canal 69 = .ok (.iaload, 1) := by decide +kernel
theorem dX8_canal_70 : decode cX8_canal 70 = .ok (.iastore, 1) := by decide +kernel
theorem dX8_canal_71 : decode cX8_canal 71 = .ok (.iinc 1 1, 3) := by decide +kernel
theorem dX8_canal_74 : decode cX8_canal 74 = .ok (.goto (-23), 3) := by decide +kernel
theorem dX8_canal_77 : decode cX8_canal 77 = .ok (.iconst 0, 1) := by decide +kernel
theorem dX8_canal_78 : decode cX8_canal 78 = .ok (.istore_n 1, 1) := by decide +kernel
theorem dX8_canal_79 : decode cX8_canal 79 = .ok (.iload_n 1, 1) := by decide +kernel
theorem dX8_canal_80 : decode cX8_canal 80 = .ok (.bipush 6, 2) := by decide +kernel
theorem dX8_canal_82 : decode cX8_canal 82 = .ok (.if_icmp .ge 77, 3) := by decide +kernel
theorem dX8_canal_85 : decode cX8_canal 85 = .ok (.aload_n 0, 1) := by decide +kernel
theorem dX8_canal_86 : decode cX8_canal 86 = .ok (.getfield 16, 3) := by decide +kernel
theorem dX8_canal_89 : decode cX8_canal 89 = .ok (.iload_n 1, 1) := by decide +kernel
theorem dX8_canal_90 : decode cX8_canal 90 = .ok (.iload_n 1, 1) := by decide +kernel
theorem dX8_canal_91 : decode cX8_canal 91 = .ok (.iastore, 1) := by decide +kernel
theorem dX8_canal_92 : decode cX8_canal 92 = .ok (.aload_n 0, 1) := by decide +kernel
theorem dX8_canal_93 : decode cX8_canal 93 = .ok (.getfield 7, 3) := by decide +kernel
theorem dX8_canal_96 : decode cX8_canal 96 = .ok (.iload_n 1, 1) := by decide +kernel
theorem dX8_canal_97 : decode cX8_canal 97 = .ok (.aload_n 0, 1) := by decide +kernel
theorem dX8_canal_98 : decode cX8_canal 98 = .ok (.getfield 22, 3) := by decide +kernel
theorem dX8_canal_101 : decode cX8_canal 101 = .ok (.iconst 3, 1) := by decide +kernel
theorem dX8_canal_102 : decode cX8_canal 102 = .ok (.iload_n 1, 1) := by decide +kernel
theorem dX8_canal_103 : decode cX8_canal 103 = .ok (.imul, 1) := by decide +kernel
theorem dX8_canal_104 : decode cX8_canal 104 = .ok (.iaload, 1) := by decide +kernel
theorem dX8_canal_105 : decode cX8_canal 105 = .ok (.iastore, 1) := by decide +kernel
theorem dX8_canal_106 : decode cX8_canal 106 = .ok (.aload_n 0, 1) := by decide +kernel
theorem dX8_canal_107 : decode cX8_canal 107 = .ok (.getfield 13, 3) := by decide +kernel
theorem dX8_canal_110 : decode cX8_canal 110 = .ok (.iload_n 1, 1) := by decide +kernel
theorem dX8_canal_111 : decode cX8_canal 111 = .ok (.aload_n 0, 1) := by decide +kernel
theorem dX8_canal_112 : decode cX8_canal 112 = .ok (.getfield 22, 3) := by decide +kernel
theorem dX8_canal_115 : decode cX8_canal 115 = .ok (.iconst 3, 1) := by decide +kernel
theorem dX8_canal_116 : decode cX8_canal 116 = .ok (.iload_n 1, 1) := by decide +kernel
theorem dX8_canal_117 : decode cX8_canal 117 = .ok (.imul, 1) := by decide +kernel
theorem dX8_canal_118 : decode cX8_canal 118 = .ok (.iconst 1, 1) := by decide +kernel
theorem dX8_canal_119 : decode cX8_canal 119 = .ok (.iadd, 1) := by decide +kernel
theorem dX8_canal_120 : decode cX8_canal 120 = .ok (.iaload, 1) := by decide +kernel
theorem dX8_canal_121 : decode cX8_canal 121 = .ok (.iastore, 1) := by decide +kernel
theorem dX8_canal_122 : decode cX8_canal 122 = .ok (.aload_n 0, 1) := by decide +kernel
theorem dX8_canal_123 : decode cX8_canal 123 = .ok (.getfield 16, 3) := by decide +kernel
theorem dX8_canal_126 : decode cX8_canal 126 = .ok (.bipush 17, 2) := by decide +kernel
theorem dX8_canal_128 : decode cX8_canal 128 = .ok (.iload_n 1, 1) := by decide +kernel
theorem dX8_canal_129 : decode cX8_canal 129 = .ok (.iadd, 1) := by decide +kernel
theorem dX8_canal_130 : decode cX8_canal 130 = .ok (.iload_n 1, 1) := by decide +kernel
theorem dX8_canal_131 : decode cX8_canal 131 = .ok (.aload_n 0, 1) := by decide +kernel
theorem dX8_canal_132 : decode cX8_canal 132 = .ok (.getfield 83, 3) := by decide +kernel
theorem dX8_canal_135 : decode cX8_canal 135 = .ok (.if_icmp .ge 16, 3) := by decide +kernel
theorem dX8_canal_138 : decode cX8_canal 138 = .ok (.aload_n 0, 1) := by decide +kernel
theorem dX8_canal_139 : decode cX8_canal 139 = .ok (.getfield 22, 3) := by decide +kernel
theorem dX8_canal_142 : decode cX8_canal 142 = .ok (.iconst 3, 1) := by decide +kernel
theorem dX8_canal_143 : decode cX8_canal 143 = .ok (.iload_n 1, 1) := by decide +kernel
theorem dX8_canal_144 : decode cX8_canal 144 = .ok (.imul, 1) := by decide +kernel
theorem dX8_canal_145 : decode cX8_canal 145 = .ok (.iconst 2, 1) := by decide +kernel
theorem dX8_canal_146 : decode cX8_canal 146 = .ok (.iadd, 1) := by decide +kernel
theorem dX8_canal_147 : decode cX8_canal 147 = .ok (.iaload, 1) := by decide +kernel
theorem dX8_canal_148 : decode cX8_canal 148 = .ok (.goto 4, 3) := by decide +kernel
theorem dX8_canal_151 : decode cX8_canal 151 = .ok (.iconst 0, 1) := by decide +kernel
theorem dX8_canal_152 : decode cX8_canal 152 = .ok (.iastore, 1) := by decide +kernel
theorem dX8_canal_153 : decode cX8_canal 153 = .ok (.iinc 1 1, 3) := by decide +kernel
theorem dX8_canal_156 : decode cX8_canal 156 = .ok (.goto (-77), 3) := by decide +kernel
theorem dX8_canal_159 : decode cX8_canal 159 = .ok (.aload_n 0, 1) := by decide +kernel
theorem dX8_canal_160 : decode cX8_canal 160 = .ok (.iconst 0, 1) := by decide +kernel
theorem dX8_canal_161 : decode cX8_canal 161 = .ok (.putfield 86, 3) := by decide +kernel
theorem dX8_canal_164 : decode cX8_canal 164 = .ok (.aload_n 0, 1) := by decide +kernel
theorem dX8_canal_165 : decode cX8_canal 165 = .ok (.getfield 43, 3) := by decide +kernel
theorem dX8_canal_168 : decode cX8_canal 168 = .ok (.iconst 0, 1) := by decide +kernel
theorem dX8_canal_169 : decode cX8_canal 169 = .ok (.iconst 0, 1) := by decide +kernel
theorem dX8_canal_170 : decode cX8_canal 170 = .ok (.bastore, 1) := by decide +kernel
theorem dX8_canal_171 : decode cX8_canal 171 = .ok (.aload_n 0, 1) := by decide +kernel
theorem dX8_canal_172 : decode cX8_canal 172 = .ok (.getfield 43, 3) := by decide +kernel
theorem dX8_canal_175 : decode cX8_canal 175 = .ok (.iconst 1, 1) := by decide +kernel
theorem dX8_canal_176 : decode cX8_canal 176 = .ok (.iconst 0, 1) := by decide +kernel
theorem dX8_canal_177 : decode cX8_canal 177 = .ok (.bastore, 1) := by decide +kernel
theorem dX8_canal_178 : decode cX8_canal 178 = .ok (.bipush 10, 2) := by decide +kernel
theorem dX8_canal_180 : decode cX8_canal 180 = .ok (.aload_n 0, 1) := by decide +kernel
theorem dX8_canal_181 : decode cX8_canal 181 = .ok (.getfield 50, 3) := by decide +kernel
theorem dX8_canal_184 : decode cX8_canal 184 = .ok (.imul, 1) := by decide +kernel
theorem dX8_canal_185 : decode cX8_canal 185 = .ok (.aload_n 0, 1) := by decide +kernel
theorem dX8_canal_186 : decode cX8_canal 186 = .ok (.getfield 83, 3) := by decide +kernel
theorem dX8_canal_189 : decode cX8_canal 189 = .ok (.iadd, 1) := by decide +kernel
theorem dX8_canal_190 : decode cX8_canal 190 = .ok (.ireturn, 1) := by decide +kernel
theorem dX8_isBarge_0 : decode cX8_isBarge 0 = .ok (.iload_n 1, 1) := by decide +kernel
theorem dX8_isBarge_1 : decode cX8_isBarge 1 = .ok (.i2l, 1) := by decide +kernel
theorem dX8_isBarge_2 : decode cX8_isBarge 2 = .ok (.lconst 0, 1) := by decide +kernel
theorem dX8_isBarge_3 : decode cX8_isBarge 3 = .ok (.aload_n 0, 1) := by decide +kernel
theorem dX8_isBarge_4 : decode cX8_isBarge 4 = .ok (.getfield 83, 3) := by decide +kernel
theorem dX8_isBarge_7 : decode cX8_isBarge 7 = .ok (.iconst 1, 1) := by decide +kernel
theorem dX8_isBarge_8 : decode cX8_isBarge 8 = .ok (.isub, 1) := by decide +kernel
theorem dX8_isBarge_9 : decode cX8_isBarge 9 = .ok (.i2l, 1) := by decide +kernel
theorem dX8_isBarge_10 : decode cX8_isBarge 10 = .ok (.invokestatic 56, 3) := by decide +kernel
theorem dX8_isBarge_13 : decode cX8_isBarge 13 = .ok (.ireturn, 1) := by decide +kernel
theorem dX8_isLock_0 : decode cX8_isLock 0 = .ok (.iload_n 1, 1) := by decide +kernel
theorem dX8_isLock_1 : decode cX8_isLock 1 = .ok (.i2l, 1) := by decide +kernel
theorem dX8_isLock_2 : decode cX8_isLock 2 = .ok (.lconst 0, 1) := by decide +kernel
theorem dX8_isLock_3 : decode cX8_isLock 3 = .ok (.aload_n 0, 1) := by decide +kernel
theorem dX8_isLock_4 : decode cX8_isLock 4 = .ok (.getfield 50, 3) := by decide +kernel
theorem dX8_isLock_7 : decode cX8_isLock 7 = .ok (.iconst 1, 1) := by decide +kernel
theorem dX8_isLock_8 : decode cX8_isLock 8 = .ok (.isub, 1) := by decide +kernel
theorem dX8_isLock_9 : decode cX8_isLock 9 = .ok (.i2l, 1) := by decide +kernel
theorem dX8_isLock_10 : decode cX8_isLock 10 = .ok (.invokestatic 56, 3) := by decide +kernel
theorem dX8_isLock_13 : decode cX8_isLock 13 = .ok (.ireturn, 1) := by decide +kernel
theorem dX8_placeOf_0 : decode cX8_placeOf 0 = .ok (.bipush (-9), 2) := by decide +kernel
theorem dX8_placeOf_2 : decode cX8_placeOf 2 = .ok (.istore 4, 2) := by decide +kernel
theorem dX8_placeOf_4 : decode cX8_placeOf 4 = .ok (.iconst 0, 1) := by decide +kernel
theorem dX8_placeOf_5 : decode cX8_placeOf 5 = .ok (.istore 5, 2) := by decide +kernel
theorem dX8_placeOf_7 : decode cX8_placeOf 7 = .ok (.iload 5, 2) := by decide +kernel
theorem dX8_placeOf_9 : decode cX8_placeOf 9 = .ok (.iload_n 3, 1) := by decide +kernel
theorem dX8_placeOf_10 : decode cX8_placeOf 10 = .ok (.if_icmp .ge 34, 3) := by decide +kernel
theorem dX8_placeOf_13 : decode cX8_placeOf 13 = .ok (.aload_n 0, 1) := by decide +kernel
theorem dX8_placeOf_14 : decode cX8_placeOf 14 = .ok (.getfield 16, 3) := by decide +kernel
theorem dX8_placeOf_17 : decode cX8_placeOf 17 = .ok (.bipush 54, 2) := by decide +kernel
theorem dX8_placeOf_19 : decode cX8_placeOf 19 = .ok (.iload_n 1, 1) := by decide +kernel
theorem dX8_placeOf_20 : decode cX8_placeOf 20 = .ok (.imul, 1) := by decide +kernel
theorem dX8_placeOf_21 : decode cX8_placeOf 21 = .ok (.iload 5, 2) := by decide +kernel
theorem dX8_placeOf_23 : decode cX8_placeOf 23 = .ok (.iadd, 1) := by decide +kernel
theorem dX8_placeOf_24 : decode cX8_placeOf 24 = .ok (.iaload, 1) := by decide +kernel
theorem dX8_placeOf_25 : decode cX8_placeOf 25 = .ok (.iload_n 2, 1) := by decide +kernel
theorem dX8_placeOf_26 : decode cX8_placeOf 26 = .ok (.if_icmp .ne 8, 3) := by decide +kernel
theorem dX8_placeOf_29 : decode cX8_placeOf 29 = .ok (.iload 5, 2) := by decide +kernel
theorem dX8_placeOf_31 : decode cX8_placeOf 31 = .ok (.goto 5, 3) := by decide +kernel
theorem dX8_placeOf_34 : decode cX8_placeOf 34 = .ok (.iload 4, 2) := by decide +kernel
theorem dX8_placeOf_36 : decode cX8_placeOf 36 = .ok (.istore 4, 2) := by decide +kernel
theorem dX8_placeOf_38 : decode cX8_placeOf 38 = .ok (.iinc 5 1, 3) := by decide +kernel
theorem dX8_placeOf_41 : decode cX8_placeOf 41 = .ok (.goto (-34), 3) := by decide +kernel
theorem dX8_placeOf_44 : decode cX8_placeOf 44 = .ok (.iload 4, 2) := by decide +kernel
theorem dX8_placeOf_46 : decode cX8_placeOf 46 = .ok (.ireturn, 1) := by decide +kernel
theorem dX8_barge_0 : decode cX8_barge 0 = .ok (.aload_n 0, 1) := by decide +kernel
theorem dX8_barge_1 : decode cX8_barge 1 = .ok (.iload_n 1, 1) := by decide +kernel
theorem dX8_barge_2 : decode cX8_barge 2 = .ok (.invokevirtual 89, 3) := by decide +kernel
theorem dX8_barge_5 : decode cX8_barge 5 = .ok (.ifCond .ne 5, 3) := by decide +kernel
theorem dX8_barge_8 : decode cX8_barge 8 = .ok (.iconst (-1), 1) := by decide +kernel
theorem dX8_barge_9 : decode cX8_barge 9 = .ok (.ireturn, 1) := by decide +kernel
theorem dX8_barge_10 : decode cX8_barge 10 = .ok (.iload_n 2, 1) := by decide +kernel
theorem dX8_barge_11 : decode cX8_barge 11 = .ok (.tableswitch 78 0 4 #[33, 40, 47, 57, 68], 33) := by decide +kernel
theorem dX8_barge_44 : decode cX8_barge 44 = .ok (.aload_n 0, 1) := by decide +kernel
theorem dX8_barge_45 : decode cX8_barge 45 = .ok (.getfield 7, 3) := by decide +kernel
theorem dX8_barge_48 : decode cX8_barge 48 = .ok (.iload_n 1, 1) := by decide +kernel
theorem dX8_barge_49 : decode cX8_barge 49 = .ok (.iaload, 1) := by decide +kernel
theorem dX8_barge_50 : decode cX8_barge 50 = .ok (.ireturn, 1) := by decide +kernel
theorem dX8_barge_51 : decode cX8_barge 51 = .ok (.aload_n 0, 1) := by decide +kernel
theorem dX8_barge_52 : decode cX8_barge 52 = .ok (.getfield 13, 3) := by decide +kernel
theorem dX8_barge_55 : decode cX8_barge 55 = .ok (.iload_n 1, 1) := by decide +kernel
theorem dX8_barge_56 : decode cX8_barge 56 = .ok (.iaload, 1) := by decide +kernel
theorem dX8_barge_57 : decode cX8_barge 57 = .ok (.ireturn, 1) := by decide +kernel
theorem dX8_barge_58 : decode cX8_barge 58 = .ok (.aload_n 0, 1) := by decide +kernel
theorem dX8_barge_59 : decode cX8_barge 59 = .ok (.getfield 16, 3) := by decide +kernel
theorem dX8_barge_62 : decode cX8_barge 62 = .ok (.bipush 17, 2) := by decide +kernel
theorem dX8_barge_64 : decode cX8_barge 64 = .ok (.iload_n 1, 1) := by decide +kernel
theorem dX8_barge_65 : decode cX8_barge 65 = .ok (.iadd, 1) := by decide +kernel
theorem dX8_barge_66 : decode cX8_barge 66 = .ok (.iaload, 1) := by decide +kernel
theorem dX8_barge_67 : decode cX8_barge 67 = .ok (.ireturn, 1) := by decide +kernel
theorem dX8_barge_68 : decode cX8_barge 68 = .ok (.aload_n 0, 1) := by decide +kernel
theorem dX8_barge_69 : decode cX8_barge 69 = .ok (.iconst 0, 1) := by decide +kernel
theorem dX8_barge_70 : decode cX8_barge 70 = .ok (.iload_n 1, 1) := by decide +kernel
theorem dX8_barge_71 : decode cX8_barge 71 = .ok (.aload_n 0, 1) := by decide +kernel
theorem dX8_barge_72 : decode cX8_barge 72 = .ok (.getfield 83, 3) := by decide +kernel
theorem dX8_barge_75 : decode cX8_barge 75 = .ok (.invokevirtual 93, 3) := by decide +kernel
theorem dX8_barge_78 : decode cX8_barge 78 = .ok (.ireturn, 1) := by decide +kernel
theorem dX8_barge_79 : decode cX8_barge 79 = .ok (.aload_n 0, 1) := by decide +kernel
theorem dX8_barge_80 : decode cX8_barge 80 = .ok (.getfield 16, 3) := by decide +kernel
theorem dX8_barge_83 : decode cX8_barge 83 = .ok (.bipush 6, 2) := by decide +kernel
theorem dX8_barge_85 : decode cX8_barge 85 = .ok (.iload_n 1, 1) := by decide +kernel
theorem dX8_barge_86 : decode cX8_barge 86 = .ok (.iadd, 1) := by decide +kernel
theorem dX8_barge_87 : decode cX8_barge 87 = .ok (.iaload, 1) := by decide +kernel
theorem dX8_barge_88 : decode cX8_barge 88 = .ok (.ireturn, 1) := by decide +kernel
theorem dX8_barge_89 : decode cX8_barge 89 = .ok (.bipush (-2), 2) := by decide +kernel
theorem dX8_barge_91 : decode cX8_barge 91 = .ok (.ireturn, 1) := by decide +kernel
theorem dX8_givenAt_0 : decode cX8_givenAt 0 = .ok (.iconst 0, 1) := by decide +kernel
theorem dX8_givenAt_1 : decode cX8_givenAt 1 = .ok (.istore_n 2, 1) := by decide +kernel
theorem dX8_givenAt_2 : decode cX8_givenAt 2 = .ok (.iconst 0, 1) := by decide +kernel
theorem dX8_givenAt_3 : decode cX8_givenAt 3 = .ok (.istore_n 3, 1) := by decide +kernel
theorem dX8_givenAt_4 : decode cX8_givenAt 4 = .ok (.iload_n 3, 1) := by decide +kernel
theorem dX8_givenAt_5 : decode cX8_givenAt 5 = .ok (.bipush 6, 2) := by decide +kernel
theorem dX8_givenAt_7 : decode cX8_givenAt 7 = .ok (.if_icmp .ge 26, 3) := by decide +kernel
theorem dX8_givenAt_10 : decode cX8_givenAt 10 = .ok (.iload_n 2, 1) := by decide +kernel
theorem dX8_givenAt_11 : decode cX8_givenAt 11 = .ok (.aload_n 0, 1) := by decide +kernel
theorem dX8_givenAt_12 : decode cX8_givenAt 12 = .ok (.getfield 16, 3) := by decide +kernel
theorem dX8_givenAt_15 : decode cX8_givenAt 15 = .ok (.bipush 23, 2) := by decide +kernel
theorem dX8_givenAt_17 : decode cX8_givenAt 17 = .ok (.bipush 6, 2) := by decide +kernel
theorem dX8_givenAt_19 : decode cX8_givenAt 19 = .ok (.iload_n 1, 1) := by decide +kernel
theorem dX8_givenAt_20 : decode cX8_givenAt 20 = .ok (.imul, 1) := by decide +kernel
theorem dX8_givenAt_21 : decode cX8_givenAt 21 = .ok (.iadd, 1) := by decide +kernel
theorem dX8_givenAt_22 : decode cX8_givenAt 22 = .ok (.iload_n 3, 1) := by decide +kernel
theorem dX8_givenAt_23 : decode cX8_givenAt 23 = .ok (.iadd, 1) := by decide +kernel
theorem dX8_givenAt_24 : decode cX8_givenAt 24 = .ok (.iaload, 1) := by decide +kernel
theorem dX8_givenAt_25 : decode cX8_givenAt 25 = .ok (.iadd, 1) := by decide +kernel
theorem dX8_givenAt_26 : decode cX8_givenAt 26 = .ok (.istore_n 2, 1) := by decide +kernel
theorem dX8_givenAt_27 : decode cX8_givenAt 27 = .ok (.iinc 3 1, 3) := by decide +kernel
theorem dX8_givenAt_30 : decode cX8_givenAt 30 = .ok (.goto (-26), 3) := by decide +kernel
theorem dX8_givenAt_33 : decode cX8_givenAt 33 = .ok (.iload_n 2, 1) := by decide +kernel
theorem dX8_givenAt_34 : decode cX8_givenAt 34 = .ok (.ireturn, 1) := by decide +kernel
theorem dX8_lock_0 : decode cX8_lock 0 = .ok (.aload_n 0, 1) := by decide +kernel
theorem dX8_lock_1 : decode cX8_lock 1 = .ok (.iload_n 1, 1) := by decide +kernel
theorem dX8_lock_2 : decode cX8_lock 2 = .ok (.invokevirtual 97, 3) := by decide +kernel
theorem dX8_lock_5 : decode cX8_lock 5 = .ok (.ifCond .ne 5, 3) := by decide +kernel
theorem dX8_lock_8 : decode cX8_lock 8 = .ok (.iconst (-1), 1) := by decide +kernel
theorem dX8_lock_9 : decode cX8_lock 9 = .ok (.ireturn, 1) := by decide +kernel
theorem dX8_lock_10 : decode cX8_lock 10 = .ok (.iload_n 2, 1) := by decide +kernel
theorem dX8_lock_11 : decode cX8_lock 11 = .ok (.tableswitch 58 0 2 #[25, 35, 52], 25) := by decide +kernel
theorem dX8_lock_36 : decode cX8_lock 36 = .ok (.aload_n 0, 1) := by decide +kernel
theorem dX8_lock_37 : decode cX8_lock 37 = .ok (.getfield 16, 3) := by decide +kernel
theorem dX8_lock_40 : decode cX8_lock 40 = .ok (.bipush 12, 2) := by decide +kernel
theorem dX8_lock_42 : decode cX8_lock 42 = .ok (.iload_n 1, 1) := by decide +kernel
theorem dX8_lock_43 : decode cX8_lock 43 = .ok (.iadd, 1) := by decide +kernel
theorem dX8_lock_44 : decode cX8_lock 44 = .ok (.iaload, 1) := by decide +kernel
theorem dX8_lock_45 : decode cX8_lock 45 = .ok (.ireturn, 1) := by decide +kernel
theorem dX8_lock_46 : decode cX8_lock 46 = .ok (.iload_n 1, 1) := by decide +kernel
theorem dX8_lock_47 : decode cX8_lock 47 = .ok (.aload_n 0, 1) := by decide +kernel
theorem dX8_lock_48 : decode cX8_lock 48 = .ok (.getfield 16, 3) := by decide +kernel
theorem dX8_lock_51 : decode cX8_lock 51 = .ok (.bipush 53, 2) := by decide +kernel
theorem dX8_lock_53 : decode cX8_lock 53 = .ok (.iaload, 1) := by decide +kernel
theorem dX8_lock_54 : decode cX8_lock 54 = .ok (.if_icmp .ge 7, 3) := by decide +kernel
theorem dX8_lock_57 : decode cX8_lock 57 = .ok (.iconst 1, 1) := by decide +kernel
theorem dX8_lock_58 : decode cX8_lock 58 = .ok (.goto 4, 3) := by decide +kernel
theorem dX8_lock_61 : decode cX8_lock 61 = .ok (.iconst 0, 1) := by decide +kernel
theorem dX8_lock_62 : decode cX8_lock 62 = .ok (.ireturn, 1) := by decide +kernel
theorem dX8_lock_63 : decode cX8_lock 63 = .ok (.aload_n 0, 1) := by decide +kernel
theorem dX8_lock_64 : decode cX8_lock 64 = .ok (.iload_n 1, 1) := by decide +kernel
theorem dX8_lock_65 : decode cX8_lock 65 = .ok (.invokevirtual 100, 3) := by decide +kernel
theorem dX8_lock_68 : decode cX8_lock 68 = .ok (.ireturn, 1) := by decide +kernel
theorem dX8_lock_69 : decode cX8_lock 69 = .ok (.bipush (-2), 2) := by decide +kernel
theorem dX8_lock_71 : decode cX8_lock 71 = .ok (.ireturn, 1) := by decide +kernel
theorem dX8_isChanged_0 : decode cX8_isChanged 0 = .ok (.bipush 54, 2) := by decide +kernel
theorem dX8_isChanged_2 : decode cX8_isChanged 2 = .ok (.iload_n 1, 1) := by decide +kernel
theorem dX8_isChanged_3 : decode cX8_isChanged 3 = .ok (.imul, 1) := by decide +kernel
theorem dX8_isChanged_4 : decode cX8_isChanged 4 = .ok (.istore 5, 2) := by decide +kernel
theorem dX8_isChanged_6 : decode cX8_isChanged 6 = .ok (.aload_n 0, 1) := by decide +kernel
theorem dX8_isChanged_7 : decode cX8_isChanged 7 = .ok (.getfield 16, 3) := by decide +kernel
theorem dX8_isChanged_10 : decode cX8_isChanged 10 = .ok (.iload 5, 2) := by decide +kernel
theorem dX8_isChanged_12 : decode cX8_isChanged 12 = .ok (.bipush 12, 2) := by decide +kernel
theorem dX8_isChanged_14 : decode cX8_isChanged 14 = .ok (.iadd, 1) := by decide +kernel
theorem dX8_isChanged_15 : decode cX8_isChanged 15 = .ok (.iload_n 2, 1) := by decide +kernel
theorem dX8_isChanged_16 : decode cX8_isChanged 16 = .ok (.iadd, 1) := by decide +kernel
theorem dX8_isChanged_17 : decode cX8_isChanged 17 = .ok (.iaload, 1) := by decide +kernel
theorem dX8_isChanged_18 : decode cX8_isChanged 18 = .ok (.tableswitch 52 0 2 #[26, 28, 30], 26) := by decide +kernel
theorem dX8_isChanged_44 : decode cX8_isChanged 44 = .ok (.iconst 0, 1) := by decide +kernel
theorem dX8_isChanged_45 : decode cX8_isChanged 45 = .ok (.ireturn, 1) := by decide +kernel
theorem dX8_isChanged_46 : decode cX8_isChanged 46 = .ok (.iconst 1, 1) := by decide +kernel
theorem dX8_isChanged_47 : decode cX8_isChanged 47 = .ok (.ireturn, 1) := by decide +kernel
theorem dX8_isChanged_48 : decode cX8_isChanged 48 = .ok (.aload_n 0, 1) := by decide +kernel
theorem dX8_isChanged_49 : decode cX8_isChanged 49 = .ok (.getfield 13, 3) := by decide +kernel
theorem dX8_isChanged_52 : decode cX8_isChanged 52 = .ok (.iload 4, 2) := by decide +kernel
theorem dX8_isChanged_54 : decode cX8_isChanged 54 = .ok (.iaload, 1) := by decide +kernel
theorem dX8_isChanged_55 : decode cX8_isChanged 55 = .ok (.aload_n 0, 1) := by decide +kernel
theorem dX8_isChanged_56 : decode cX8_isChanged 56 = .ok (.getfield 13, 3) := by decide +kernel
theorem dX8_isChanged_59 : decode cX8_isChanged 59 = .ok (.iload_n 3, 1) := by decide +kernel
theorem dX8_isChanged_60 : decode cX8_isChanged 60 = .ok (.iaload, 1) := by decide +kernel
theorem dX8_isChanged_61 : decode cX8_isChanged 61 = .ok (.if_icmp .ge 7, 3) := by decide +kernel
theorem dX8_isChanged_64 : decode cX8_isChanged 64 = .ok (.iconst 1, 1) := by decide +kernel
theorem dX8_isChanged_65 : decode cX8_isChanged 65 = .ok (.goto 4, 3) := by decide +kernel
theorem dX8_isChanged_68 : decode cX8_isChanged 68 = .ok (.iconst 0, 1) := by decide +kernel
theorem dX8_isChanged_69 : decode cX8_isChanged 69 = .ok (.ireturn, 1) := by decide +kernel
theorem dX8_isChanged_70 : decode cX8_isChanged 70 = .ok (.aload_n 0, 1) := by decide +kernel
theorem dX8_isChanged_71 : decode cX8_isChanged 71 = .ok (.getfield 16, 3) := by decide +kernel
theorem dX8_isChanged_74 : decode cX8_isChanged 74 = .ok (.iload 5, 2) := by decide +kernel
theorem dX8_isChanged_76 : decode cX8_isChanged 76 = .ok (.bipush 23, 2) := by decide +kernel
theorem dX8_isChanged_78 : decode cX8_isChanged 78 = .ok (.iadd, 1) := by decide +kernel
theorem dX8_isChanged_79 : decode cX8_isChanged 79 = .ok (.bipush 6, 2) := by decide +kernel
theorem dX8_isChanged_81 : decode cX8_isChanged 81 = .ok (.iload_n 2, 1) := by decide +kernel
theorem dX8_isChanged_82 : decode cX8_isChanged 82 = .ok (.imul, 1) := by decide +kernel
theorem dX8_isChanged_83 : decode cX8_isChanged 83 = .ok (.iadd, 1) := by decide +kernel
theorem dX8_isChanged_84 : decode cX8_isChanged 84 = .ok (.iload 4, 2) := by decide +kernel
theorem dX8_isChanged_86 : decode cX8_isChanged 86 = .ok (.iadd, 1) := by decide +kernel
theorem dX8_isChanged_87 : decode cX8_isChanged 87 = .ok (.iaload, 1) := by decide +kernel
theorem dX8_isChanged_88 : decode cX8_isChanged 88 = .ok (.aload_n 0, 1) := by decide +kernel
theorem dX8_isChanged_89 : decode cX8_isChanged 89 = .ok (.getfield 16, 3) := by decide +kernel
theorem dX8_isChanged_92 : decode cX8_isChanged 92 = .ok (.iload 5, 2) := by decide +kernel
theorem dX8_isChanged_94 : decode cX8_isChanged 94 = .ok (.bipush 23, 2) := by decide +kernel
theorem dX8_isChanged_96 : decode cX8_isChanged 96 = .ok (.iadd, 1) := by decide +kernel
theorem dX8_isChanged_97 : decode cX8_isChanged 97 = .ok (.bipush 6, 2) := by decide +kernel
theorem dX8_isChanged_99 : decode cX8_isChanged 99 = .ok (.iload_n 2, 1) := by decide +kernel
theorem dX8_isChanged_100 : decode cX8_isChanged 100 = .ok (.imul, 1) := by decide +kernel
theorem dX8_isChanged_101 : decode cX8_isChanged 101 = .ok (.iadd, 1) := by decide +kernel
theorem dX8_isChanged_102 : decode cX8_isChanged 102 = .ok (.iload_n 3, 1) := by decide +kernel
theorem dX8_isChanged_103 : decode cX8_isChanged 103 = .ok (.iadd, 1) := by decide +kernel
theorem dX8_isChanged_104 : decode cX8_isChanged 104 = .ok (.iaload, 1) := by decide +kernel
theorem dX8_isChanged_105 : decode cX8_isChanged 105 = .ok (.if_icmp .le 7, 3) := by decide +kernel
theorem dX8_isChanged_108 : decode cX8_isChanged 108 = .ok (.iconst 1, 1) := by decide +kernel
theorem dX8_isChanged_109 : decode cX8_isChanged 109 = .ok (.goto 4, 3) := by decide +kernel
theorem dX8_isChanged_112 : decode cX8_isChanged 112 = .ok (.iconst 0, 1) := by decide +kernel
theorem dX8_isChanged_113 : decode cX8_isChanged 113 = .ok (.ireturn, 1) := by decide +kernel
theorem dX8_more_0 : decode cX8_more 0 = .ok (.iload_n 0, 1) := by decide +kernel
theorem dX8_more_1 : decode cX8_more 1 = .ok (.iload_n 1, 1) := by decide +kernel
theorem dX8_more_2 : decode cX8_more 2 = .ok (.if_icmp .le 7, 3) := by decide +kernel
theorem dX8_more_5 : decode cX8_more 5 = .ok (.iload_n 0, 1) := by decide +kernel
theorem dX8_more_6 : decode cX8_more 6 = .ok (.goto 4, 3) := by decide +kernel
theorem dX8_more_9 : decode cX8_more 9 = .ok (.iload_n 1, 1) := by decide +kernel
theorem dX8_more_10 : decode cX8_more 10 = .ok (.ireturn, 1) := by decide +kernel
theorem dX8_passOn_0 : decode cX8_passOn 0 = .ok (.bipush 54, 2) := by decide +kernel
theorem dX8_passOn_2 : decode cX8_passOn 2 = .ok (.iload_n 1, 1) := by decide +kernel
theorem dX8_passOn_3 : decode cX8_passOn 3 = .ok (.imul, 1) := by decide +kernel
theorem dX8_passOn_4 : decode cX8_passOn 4 = .ok (.istore_n 3, 1) := by decide +kernel
theorem dX8_passOn_5 : decode cX8_passOn 5 = .ok (.aload_n 0, 1) := by decide +kernel
theorem dX8_passOn_6 : decode cX8_passOn 6 = .ok (.getfield 16, 3) := by decide +kernel
theorem dX8_passOn_9 : decode cX8_passOn 9 = .ok (.iload_n 3, 1) := by decide +kernel
theorem dX8_passOn_10 : decode cX8_passOn 10 = .ok (.bipush 53, 2) := by decide +kernel
theorem dX8_passOn_12 : decode cX8_passOn 12 = .ok (.iadd, 1) := by decide +kernel
theorem dX8_passOn_13 : decode cX8_passOn 13 = .ok (.iaload, 1) := by decide +kernel
theorem dX8_passOn_14 : decode cX8_passOn 14 = .ok (.istore 4, 2) := by decide +kernel
theorem dX8_passOn_16 : decode cX8_passOn 16 = .ok (.iconst 0, 1) := by decide +kernel
theorem dX8_passOn_17 : decode cX8_passOn 17 = .ok (.istore 5, 2) := by decide +kernel
theorem dX8_passOn_19 : decode cX8_passOn 19 = .ok (.iconst 0, 1) := by decide +kernel
theorem dX8_passOn_20 : decode cX8_passOn 20 = .ok (.istore 6, 2) := by decide +kernel
theorem dX8_passOn_22 : decode cX8_passOn 22 = .ok (.iload 6, 2) := by decide +kernel
theorem dX8_passOn_24 : decode cX8_passOn 24 = .ok (.iload_n 2, 1) := by decide +kernel
theorem dX8_passOn_25 : decode cX8_passOn 25 = .ok (.if_icmp .ge 255, 3) := by decide +kernel
theorem dX8_passOn_28 : decode cX8_passOn 28 = .ok (.aload_n 0, 1) := by decide +kernel
theorem dX8_passOn_29 : decode cX8_passOn 29 = .ok (.getfield 16, 3) := by decide +kernel
theorem dX8_passOn_32 : decode cX8_passOn 32 = .ok (.iload_n 3, 1) := by decide +kernel
theorem dX8_passOn_33 : decode cX8_passOn 33 = .ok (.iload 6, 2) := by decide +kernel
theorem dX8_passOn_35 : decode cX8_passOn 35 = .ok (.iadd, 1) := by decide +kernel
theorem dX8_passOn_36 : decode cX8_passOn 36 = .ok (.iaload, 1) := by decide +kernel
theorem dX8_passOn_37 : decode cX8_passOn 37 = .ok (.istore 7, 2) := by decide +kernel
theorem dX8_passOn_39 : decode cX8_passOn 39 = .ok (.aload_n 0, 1) := by decide +kernel
theorem dX8_passOn_40 : decode cX8_passOn 40 = .ok (.getfield 7, 3) := by decide +kernel
theorem dX8_passOn_43 : decode cX8_passOn 43 = .ok (.iload 7, 2) := by decide +kernel
theorem dX8_passOn_45 : decode cX8_passOn 45 = .ok (.iaload, 1) := by decide +kernel
theorem dX8_passOn_46 : decode cX8_passOn 46 = .ok (.iconst 1, 1) := by decide +kernel
theorem dX8_passOn_47 : decode cX8_passOn 47 = .ok (.if_icmp .ne 35, 3) := by decide +kernel
theorem dX8_passOn_50 : decode cX8_passOn 50 = .ok (.iload 6, 2) := by decide +kernel
theorem dX8_passOn_52 : decode cX8_passOn 52 = .ok (.iconst 1, 1) := by decide +kernel
theorem dX8_passOn_53 : decode cX8_passOn 53 = .ok (.iadd, 1) := by decide +kernel
theorem dX8_passOn_54 : decode cX8_passOn 54 = .ok (.iload_n 2, 1) := by decide +kernel
theorem dX8_passOn_55 : decode cX8_passOn 55 = .ok (.if_icmp .ge 27, 3) := by decide +kernel
theorem dX8_passOn_58 : decode cX8_passOn 58 = .ok (.aload_n 0, 1) := by decide +kernel
theorem dX8_passOn_59 : decode cX8_passOn 59 = .ok (.getfield 7, 3) := by decide +kernel
theorem dX8_passOn_62 : decode cX8_passOn 62 = .ok (.aload_n 0, 1) := by decide +kernel
theorem dX8_passOn_63 : decode cX8_passOn 63 = .ok (.getfield 16, 3) := by decide +kernel
theorem dX8_passOn_66 : decode cX8_passOn 66 = .ok (.iload_n 3, 1) := by decide +kernel
theorem dX8_passOn_67 : decode cX8_passOn 67 = .ok (.iload 6, 2) := by decide +kernel
theorem dX8_passOn_69 : decode cX8_passOn 69 = .ok (.iadd, 1) := by decide +kernel
theorem dX8_passOn_70 : decode cX8_passOn 70 = .ok (.iconst 1, 1) := by decide +kernel
theorem dX8_passOn_71 : decode cX8_passOn 71 = .ok (.iadd, 1) := by decide +kernel
theorem dX8_passOn_72 : decode cX8_passOn 72 = .ok (.iaload, 1) := by decide +kernel
theorem dX8_passOn_73 : decode cX8_passOn 73 = .ok (.iaload, 1) := by decide +kernel
theorem dX8_passOn_74 : decode cX8_passOn 74 = .ok (.iconst 1, 1) := by decide +kernel
theorem dX8_passOn_75 : decode cX8_passOn 75 = .ok (.if_icmp .ne 7, 3) := by decide +kernel
theorem dX8_passOn_78 : decode cX8_passOn 78 = .ok (.iconst 1, 1) := by decide +kernel
theorem dX8_passOn_79 : decode cX8_passOn 79 = .ok (.goto 4, 3) := by decide +kernel
theorem dX8_passOn_82 : decode cX8_passOn 82 = .ok (.iconst 0, 1) := by decide +kernel
theorem dX8_passOn_83 : decode cX8_passOn 83 = .ok (.istore 8, 2) := by decide +kernel
theorem dX8_passOn_85 : decode cX8_passOn 85 = .ok (.iload 8, 2) := by decide +kernel
theorem dX8_passOn_87 : decode cX8_passOn 87 = .ok (.ifCond .eq 17, 3) := by decide +kernel
theorem dX8_passOn_90 : decode cX8_passOn 90 = .ok (.aload_n 0, 1) := by decide +kernel
theorem dX8_passOn_91 : decode cX8_passOn 91 = .ok (.getfield 16, 3) := by decide +kernel
theorem dX8_passOn_94 : decode cX8_passOn 94 = .ok (.iload_n 3, 1) := by decide +kernel
theorem dX8_passOn_95 : decode cX8_passOn 95 = .ok (.iload 6, 2) := by decide +kernel
theorem dX8_passOn_97 : decode cX8_passOn 97 = .ok (.iadd, 1) := by decide +kernel
theorem dX8_passOn_98 : decode cX8_passOn 98 = .ok (.iconst 1, 1) := by decide +kernel
theorem dX8_passOn_99 : decode cX8_passOn 99 = .ok (.iadd, 1) := by decide +kernel
theorem dX8_passOn_100 : decode cX8_passOn 100 = .ok (.iaload, 1) := by decide +kernel
theorem dX8_passOn_101 : decode cX8_passOn 101 = .ok (.goto 5, 3) := by decide +kernel
theorem dX8_passOn_104 : decode cX8_passOn 104 = .ok (.iload 7, 2) := by decide +kernel
theorem dX8_passOn_106 : decode cX8_passOn 106 = .ok (.istore 9, 2) := by decide +kernel
theorem dX8_passOn_108 : decode cX8_passOn 108 = .ok (.iconst 1, 1) := by decide +kernel
theorem dX8_passOn_109 : decode cX8_passOn 109 = .ok (.iload 5, 2) := by decide +kernel
theorem dX8_passOn_111 : decode cX8_passOn 111 = .ok (.aload_n 0, 1) := by decide +kernel
theorem dX8_passOn_112 : decode cX8_passOn 112 = .ok (.getfield 16, 3) := by decide +kernel
theorem dX8_passOn_115 : decode cX8_passOn 115 = .ok (.iload_n 3, 1) := by decide +kernel
theorem dX8_passOn_116 : decode cX8_passOn 116 = .ok (.bipush 6, 2) := by decide +kernel
theorem dX8_passOn_118 : decode cX8_passOn 118 = .ok (.iadd, 1) := by decide +kernel
theorem dX8_passOn_119 : decode cX8_passOn 119 = .ok (.iload 7, 2) := by decide +kernel
theorem dX8_passOn_121 : decode cX8_passOn 121 = .ok (.iadd, 1) := by decide +kernel
theorem dX8_passOn_122 : decode cX8_passOn 122 = .ok (.iaload, 1) := by decide +kernel
theorem dX8_passOn_123 : decode cX8_passOn 123 = .ok (.aload_n 0, 1) := by decide +kernel
theorem dX8_passOn_124 : decode cX8_passOn 124 = .ok (.getfield 16, 3) := by decide +kernel
theorem dX8_passOn_127 : decode cX8_passOn 127 = .ok (.iload_n 3, 1) := by decide +kernel
theorem dX8_passOn_128 : decode cX8_passOn 128 = .ok (.bipush 6, 2) := by decide +kernel
theorem dX8_passOn_130 : decode cX8_passOn 130 = .ok (.iadd, 1) := by decide +kernel
theorem dX8_passOn_131 : decode cX8_passOn 131 = .ok (.iload 9, 2) := by decide +kernel
theorem dX8_passOn_133 : decode cX8_passOn 133 = .ok (.iadd, 1) := by decide +kernel
theorem dX8_passOn_134 : decode cX8_passOn 134 = .ok (.iaload, 1) := by decide +kernel
theorem dX8_passOn_135 : decode cX8_passOn 135 = .ok (.invokestatic 104, 3) := by decide +kernel
theorem dX8_passOn_138 : decode cX8_passOn 138 = .ok (.invokestatic 104, 3) := by decide +kernel
theorem dX8_passOn_141 : decode cX8_passOn 141 = .ok (.iadd, 1) := by decide +kernel
theorem dX8_passOn_142 : decode cX8_passOn 142 = .ok (.istore 5, 2) := by decide +kernel
theorem dX8_passOn_144 : decode cX8_passOn 144 = .ok (.aload_n 0, 1) := by decide +kernel
theorem dX8_passOn_145 : decode cX8_passOn 145 = .ok (.getfield 16, 3) := by decide +kernel
theorem dX8_passOn_148 : decode cX8_passOn 148 = .ok (.iload_n 3, 1) := by decide +kernel
theorem dX8_passOn_149 : decode cX8_passOn 149 = .ok (.bipush 6, 2) := by decide +kernel
theorem dX8_passOn_151 : decode cX8_passOn 151 = .ok (.iadd, 1) := by decide +kernel
theorem dX8_passOn_152 : decode cX8_passOn 152 = .ok (.iload 7, 2) := by decide +kernel
theorem dX8_passOn_154 : decode cX8_passOn 154 = .ok (.iadd, 1) := by decide +kernel
theorem dX8_passOn_155 : decode cX8_passOn 155 = .ok (.iload 5, 2) := by decide +kernel
theorem dX8_passOn_157 : decode cX8_passOn 157 = .ok (.iastore, 1) := by decide +kernel
theorem dX8_passOn_158 : decode cX8_passOn 158 = .ok (.aload_n 0, 1) := by decide +kernel
theorem dX8_passOn_159 : decode cX8_passOn 159 = .ok (.getfield 16, 3) := by decide +kernel
theorem dX8_passOn_162 : decode cX8_passOn 162 = .ok (.iload_n 3, 1) := by decide +kernel
theorem dX8_passOn_163 : decode cX8_passOn 163 = .ok (.bipush 6, 2) := by decide +kernel
theorem dX8_passOn_165 : decode cX8_passOn 165 = .ok (.iadd, 1) := by decide +kernel
theorem dX8_passOn_166 : decode cX8_passOn 166 = .ok (.iload 9, 2) := by decide +kernel
theorem dX8_passOn_168 : decode cX8_passOn 168 = .ok (.iadd, 1) := by decide +kernel
theorem dX8_passOn_169 : decode cX8_passOn 169 = .ok (.iload 5, 2) := by decide +kernel
theorem dX8_passOn_171 : decode cX8_passOn 171 = .ok (.iastore, 1) := by decide +kernel
theorem dX8_passOn_172 : decode cX8_passOn 172 = .ok (.iload 8, 2) := by decide +kernel
theorem dX8_passOn_174 : decode cX8_passOn 174 = .ok (.ifCond .eq 88, 3) := by decide +kernel
theorem dX8_passOn_177 : decode cX8_passOn 177 = .ok (.aload_n 0, 1) := by decide +kernel
theorem dX8_passOn_178 : decode cX8_passOn 178 = .ok (.getfield 28, 3) := by decide +kernel
theorem dX8_passOn_181 : decode cX8_passOn 181 = .ok (.iload 7, 2) := by decide +kernel
theorem dX8_passOn_183 : decode cX8_passOn 183 = .ok (.dup2, 1) := by decide +kernel
theorem dX8_passOn_184 : decode cX8_passOn 184 = .ok (.iaload, 1) := by decide +kernel
theorem dX8_passOn_185 : decode cX8_passOn 185 = .ok (.iconst 1, 1) := by decide +kernel
theorem dX8_passOn_186 : decode cX8_passOn 186 = .ok (.iload 9, 2) := by decide +kernel
theorem dX8_passOn_188 : decode cX8_passOn 188 = .ok (.ishl, 1) := by decide +kernel
theorem dX8_passOn_189 : decode cX8_passOn 189 = .ok (.ior, 1) := by decide +kernel
theorem dX8_passOn_190 : decode cX8_passOn 190 = .ok (.iastore, 1) := by decide +kernel
theorem dX8_passOn_191 : decode cX8_passOn 191 = .ok (.aload_n 0, 1) := by decide +kernel
theorem dX8_passOn_192 : decode cX8_passOn 192 = .ok (.getfield 28, 3) := by decide +kernel
theorem dX8_passOn_195 : decode cX8_passOn 195 = .ok (.iload 9, 2) := by decide +kernel
theorem dX8_passOn_197 : decode cX8_passOn 197 = .ok (.dup2, 1) := by decide +kernel
theorem dX8_passOn_198 : decode cX8_passOn 198 = .ok (.iaload, 1) := by decide +kernel
theorem dX8_passOn_199 : decode cX8_passOn 199 = .ok (.iconst 1, 1) := by decide +kernel
theorem dX8_passOn_200 : decode cX8_passOn 200 = .ok (.iload 7, 2) := by decide +kernel
theorem dX8_passOn_202 : decode cX8_passOn 202 = .ok (.ishl, 1) := by decide +kernel
theorem dX8_passOn_203 : decode cX8_passOn 203 = .ok (.ior, 1) := by decide +kernel
theorem dX8_passOn_204 : decode cX8_passOn 204 = .ok (.iastore, 1) := by decide +kernel
theorem dX8_passOn_205 : decode cX8_passOn 205 = .ok (.aload_n 0, 1) := by decide +kernel
theorem dX8_passOn_206 : decode cX8_passOn 206 = .ok (.iload_n 1, 1) := by decide +kernel
theorem dX8_passOn_207 : decode cX8_passOn 207 = .ok (.iload 4, 2) := by decide +kernel
theorem dX8_passOn_209 : decode cX8_passOn 209 = .ok (.iload 7, 2) := by decide +kernel
theorem dX8_passOn_211 : decode cX8_passOn 211 = .ok (.iload 9, 2) := by decide +kernel
theorem dX8_passOn_213 : decode cX8_passOn 213 = .ok (.invokevirtual 107, 3) := by decide +kernel
theorem dX8_passOn_216 : decode cX8_passOn 216 = .ok (.istore 10, 2) := by decide +kernel
theorem dX8_passOn_218 : decode cX8_passOn 218 = .ok (.aload_n 0, 1) := by decide +kernel
theorem dX8_passOn_219 : decode cX8_passOn 219 = .ok (.getfield 16, 3) := by decide +kernel
theorem dX8_passOn_222 : decode cX8_passOn 222 = .ok (.iload_n 3, 1) := by decide +kernel
theorem dX8_passOn_223 : decode cX8_passOn 223 = .ok (.iload 6, 2) := by decide +kernel
theorem dX8_passOn_225 : decode cX8_passOn 225 = .ok (.iadd, 1) := by decide +kernel
theorem dX8_passOn_226 : decode cX8_passOn 226 = .ok (.iload 10, 2) := by decide +kernel
theorem dX8_passOn_228 : decode cX8_passOn 228 = .ok (.ifCond .eq 8, 3) := by decide +kernel
theorem dX8_passOn_231 : decode cX8_passOn 231 = .ok (.iload 9, 2) := by decide +kernel
theorem dX8_passOn_233 : decode cX8_passOn 233 = .ok (.goto 5, 3) := by decide +kernel
theorem dX8_passOn_236 : decode cX8_passOn 236 = .ok (.iload 7, 2) := by decide +kernel
theorem dX8_passOn_238 : decode cX8_passOn 238 = .ok (.iastore, 1) := by decide +kernel
theorem dX8_passOn_239 : decode cX8_passOn 239 = .ok (.aload_n 0, 1) := by decide +kernel
theorem dX8_passOn_240 : decode cX8_passOn 240 = .ok (.getfield 16, 3) := by decide +kernel
theorem dX8_passOn_243 : decode cX8_passOn 243 = .ok (.iload_n 3, 1) := by decide +kernel
theorem dX8_passOn_244 : decode cX8_passOn 244 = .ok (.iload 6, 2) := by decide +kernel
theorem dX8_passOn_246 : decode cX8_passOn 246 = .ok (.iadd, 1) := by decide +kernel
theorem dX8_passOn_247 : decode cX8_passOn 247 = .ok (.iconst 1, 1) := by decide +kernel
theorem dX8_passOn_248 : decode cX8_passOn 248 = .ok (.iadd, 1) := by decide +kernel
theorem dX8_passOn_249 : decode cX8_passOn 249 = .ok (.iload 10, 2) := by decide +kernel
theorem dX8_passOn_251 : decode cX8_passOn 251 = .ok (.ifCond .eq 8, 3) := by decide +kernel
theorem dX8_passOn_254 : decode cX8_passOn 254 = .ok (.iload 7, 2) := by decide +kernel
theorem dX8_passOn_256 : decode cX8_passOn 256 = .ok (.goto 5, 3) := by decide +kernel
theorem dX8_passOn_259 : decode cX8_passOn 259 = .ok (.iload 9, 2) := by decide +kernel
theorem dX8_passOn_261 : decode cX8_passOn 261 = .ok (.iastore, 1) := by decide +kernel
theorem dX8_passOn_262 : decode cX8_passOn 262 = .ok (.iload 6, 2) := by decide +kernel
theorem dX8_passOn_264 : decode cX8_passOn 264 = .ok (.iload 8, 2) := by decide +kernel
theorem dX8_passOn_266 : decode cX8_passOn 266 = .ok (.ifCond .eq 7, 3) := by decide +kernel
theorem dX8_passOn_269 : decode cX8_passOn 269 = .ok (.iconst 2, 1) := by decide +kernel
theorem dX8_passOn_270 : decode cX8_passOn 270 = .ok (.goto 4, 3) := by decide +kernel
theorem dX8_passOn_273 : decode cX8_passOn 273 = .ok (.iconst 1, 1) := by decide +kernel
theorem dX8_passOn_274 : decode cX8_passOn 274 = .ok (.iadd, 1) := by decide +kernel
theorem dX8_passOn_275 : decode cX8_passOn 275 = .ok (.istore 6, 2) := by decide +kernel
theorem dX8_passOn_277 : decode cX8_passOn 277 = .ok (.goto (-255), 3) := by decide +kernel
theorem dX8_passOn_280 : decode cX8_passOn 280 = .ok (.aload_n 0, 1) := by decide +kernel
theorem dX8_passOn_281 : decode cX8_passOn 281 = .ok (.getfield 16, 3) := by decide +kernel
theorem dX8_passOn_284 : decode cX8_passOn 284 = .ok (.iload_n 3, 1) := by decide +kernel
theorem dX8_passOn_285 : decode cX8_passOn 285 = .ok (.bipush 53, 2) := by decide +kernel
theorem dX8_passOn_287 : decode cX8_passOn 287 = .ok (.iadd, 1) := by decide +kernel
theorem dX8_passOn_288 : decode cX8_passOn 288 = .ok (.dup2, 1) := by decide +kernel
theorem dX8_passOn_289 : decode cX8_passOn 289 = .ok (.iaload, 1) := by decide +kernel
theorem dX8_passOn_290 : decode cX8_passOn 290 = .ok (.iconst 1, 1) := by decide +kernel
theorem dX8_passOn_291 : decode cX8_passOn 291 = .ok (.iadd, 1) := by decide +kernel
theorem dX8_passOn_292 : decode cX8_passOn 292 = .ok (.iastore, 1) := by decide +kernel
theorem dX8_passOn_293 : decode cX8_passOn 293 = .ok (.return_, 1) := by decide +kernel
theorem dX8_figuresOf_0 : decode cX8_figuresOf 0 = .ok (.iconst 0, 1) := by decide +kernel
theorem dX8_figuresOf_1 : decode cX8_figuresOf 1 = .ok (.istore_n 3, 1) := by decide +kernel
theorem dX8_figuresOf_2 : decode cX8_figuresOf 2 = .ok (.iconst 0, 1) := by decide +kernel
theorem dX8_figuresOf_3 : decode cX8_figuresOf 3 = .ok (.istore 4, 2) := by decide +kernel
theorem dX8_figuresOf_5 : decode cX8_figuresOf 5 = .ok (.iload 4, 2) := by decide +kernel
theorem dX8_figuresOf_7 : decode cX8_figuresOf 7 = .ok (.iload_n 2, 1) := by decide +kernel
theorem dX8_figuresOf_8 : decode cX8_figuresOf 8 = .ok (.if_icmp .ge 29, 3) := by decide +kernel
theorem dX8_figuresOf_11 : decode cX8_figuresOf 11 = .ok (.bipush 10, 2) := by decide +kernel
theorem dX8_figuresOf_13 : decode cX8_figuresOf 13 = .ok (.iload_n 3, 1) := by decide +kernel
theorem dX8_figuresOf_14 : decode cX8_figuresOf 14 = .ok (.imul, 1) := by decide +kernel
theorem dX8_figuresOf_15 : decode cX8_figuresOf 15 = .ok (.aload_n 0, 1) := by decide +kernel
theorem dX8_figuresOf_16 : decode cX8_figuresOf 16 = .ok (.getfield 16, 3) := by decide +kernel
theorem dX8_figuresOf_19 : decode cX8_figuresOf 19 = .ok (.bipush 54, 2) := by decide +kernel
theorem dX8_figuresOf_21 : decode cX8_figuresOf 21 = .ok (.iload_n 1, 1) := by decide +kernel
theorem dX8_figuresOf_22 : decode cX8_figuresOf 22 = .ok (.imul, 1) := by decide +kernel
theorem dX8_figuresOf_23 : decode cX8_figuresOf 23 = .ok (.iload 4, 2) := by decide +kernel
theorem dX8_figuresOf_25 : decode cX8_figuresOf 25 = .ok (.iadd, 1) := by decide +kernel
theorem dX8_figuresOf_26 : decode cX8_figuresOf 26 = .ok (.iaload, 1) := by decide +kernel
theorem dX8_figuresOf_27 : decode cX8_figuresOf 27 = .ok (.iadd, 1) := by decide +kernel
theorem dX8_figuresOf_28 : decode cX8_figuresOf 28 = .ok (.iconst 1, 1) := by decide +kernel
theorem dX8_figuresOf_29 : decode cX8_figuresOf 29 = .ok (.iadd, 1) := by decide +kernel
theorem dX8_figuresOf_30 : decode cX8_figuresOf 30 = .ok (.istore_n 3, 1) := by decide +kernel
theorem dX8_figuresOf_31 : decode cX8_figuresOf 31 = .ok (.iinc 4 1, 3) := by decide +kernel
theorem dX8_figuresOf_34 : decode cX8_figuresOf 34 = .ok (.goto (-29), 3) := by decide +kernel
theorem dX8_figuresOf_37 : decode cX8_figuresOf 37 = .ok (.iload_n 3, 1) := by decide +kernel
theorem dX8_figuresOf_38 : decode cX8_figuresOf 38 = .ok (.ireturn, 1) := by decide +kernel
theorem dX8_keepAct_0 : decode cX8_keepAct 0 = .ok (.iconst 0, 1) := by decide +kernel
theorem dX8_keepAct_1 : decode cX8_keepAct 1 = .ok (.istore_n 1, 1) := by decide +kernel
theorem dX8_keepAct_2 : decode cX8_keepAct 2 = .ok (.iload_n 1, 1) := by decide +kernel
theorem dX8_keepAct_3 : decode cX8_keepAct 3 = .ok (.bipush 54, 2) := by decide +kernel
theorem dX8_keepAct_5 : decode cX8_keepAct 5 = .ok (.if_icmp .ge 29, 3) := by decide +kernel
theorem dX8_keepAct_8 : decode cX8_keepAct 8 = .ok (.aload_n 0, 1) := by decide +kernel
theorem dX8_keepAct_9 : decode cX8_keepAct 9 = .ok (.getfield 31, 3) := by decide +kernel
theorem dX8_keepAct_12 : decode cX8_keepAct 12 = .ok (.bipush 54, 2) := by decide +kernel
theorem dX8_keepAct_14 : decode cX8_keepAct 14 = .ok (.aload_n 0, 1) := by decide +kernel
theorem dX8_keepAct_15 : decode cX8_keepAct 15 = .ok (.getfield 111, 3) := by decide +kernel
theorem dX8_keepAct_18 : decode cX8_keepAct 18 = .ok (.imul, 1) := by decide +kernel
theorem dX8_keepAct_19 : decode cX8_keepAct 19 = .ok (.iload_n 1, 1) := by decide +kernel
theorem dX8_keepAct_20 : decode cX8_keepAct 20 = .ok (.iadd, 1) := by decide +kernel
theorem dX8_keepAct_21 : decode cX8_keepAct 21 = .ok (.aload_n 0, 1) := by decide +kernel
theorem dX8_keepAct_22 : decode cX8_keepAct 22 = .ok (.getfield 16, 3) := by decide +kernel
theorem dX8_keepAct_25 : decode cX8_keepAct 25 = .ok (.iload_n 1, 1) := by decide +kernel
theorem dX8_keepAct_26 : decode cX8_keepAct 26 = .ok (.iaload, 1) := by decide +kernel
theorem dX8_keepAct_27 : decode cX8_keepAct 27 = .ok (.iastore, 1) := by decide +kernel
theorem dX8_keepAct_28 : decode cX8_keepAct 28 = .ok (.iinc 1 1, 3) := by decide +kernel
theorem dX8_keepAct_31 : decode cX8_keepAct 31 = .ok (.goto (-29), 3) := by decide +kernel
theorem dX8_keepAct_34 : decode cX8_keepAct 34 = .ok (.aload_n 0, 1) := by decide +kernel
theorem dX8_keepAct_35 : decode cX8_keepAct 35 = .ok (.aload_n 0, 1) := by decide +kernel
theorem dX8_keepAct_36 : decode cX8_keepAct 36 = .ok (.getfield 111, 3) := by decide +kernel
theorem dX8_keepAct_39 : decode cX8_keepAct 39 = .ok (.iconst 1, 1) := by decide +kernel
theorem dX8_keepAct_40 : decode cX8_keepAct 40 = .ok (.iadd, 1) := by decide +kernel
theorem dX8_keepAct_41 : decode cX8_keepAct 41 = .ok (.bipush 14, 2) := by decide +kernel
theorem dX8_keepAct_43 : decode cX8_keepAct 43 = .ok (.irem, 1) := by decide +kernel
theorem dX8_keepAct_44 : decode cX8_keepAct 44 = .ok (.putfield 111, 3) := by decide +kernel
theorem dX8_keepAct_47 : decode cX8_keepAct 47 = .ok (.aload_n 0, 1) := by decide +kernel
theorem dX8_keepAct_48 : decode cX8_keepAct 48 = .ok (.aload_n 0, 1) := by decide +kernel
theorem dX8_keepAct_49 : decode cX8_keepAct 49 = .ok (.getfield 86, 3) := by decide +kernel
theorem dX8_keepAct_52 : decode cX8_keepAct 52 = .ok (.bipush 14, 2) := by decide +kernel
theorem dX8_keepAct_54 : decode cX8_keepAct 54 = .ok (.if_icmp .ge 12, 3) := by decide +kernel
theorem dX8_keepAct_57 : decode cX8_keepAct 57 = .ok (.aload_n 0, 1) := by decide +kernel
theorem dX8_keepAct_58 : decode cX8_keepAct 58 = .ok (.getfield 86, 3) := by decide +kernel
theorem dX8_keepAct_61 : decode cX8_keepAct 61 = .ok (.iconst 1, 1) := by decide +kernel
theorem dX8_keepAct_62 : decode cX8_keepAct 62 = .ok (.iadd, 1) := by decide +kernel
theorem dX8_keepAct_63 : decode cX8_keepAct 63 = .ok (.goto 5, 3) := by decide +kernel
theorem dX8_keepAct_66 : decode cX8_keepAct 66 = .ok (.bipush 14, 2) := by decide +kernel
theorem dX8_keepAct_68 : decode cX8_keepAct 68 = .ok (.putfield 86, 3) := by decide +kernel
theorem dX8_keepAct_71 : decode cX8_keepAct 71 = .ok (.return_, 1) := by decide +kernel
theorem dX8_pass_0 : decode cX8_pass 0 = .ok (.aload_n 0, 1) := by decide +kernel
theorem dX8_pass_1 : decode cX8_pass 1 = .ok (.getfield 16, 3) := by decide +kernel
theorem dX8_pass_4 : decode cX8_pass 4 = .ok (.bipush 53, 2) := by decide +kernel
theorem dX8_pass_6 : decode cX8_pass 6 = .ok (.iaload, 1) := by decide +kernel
theorem dX8_pass_7 : decode cX8_pass 7 = .ok (.aload_n 0, 1) := by decide +kernel
theorem dX8_pass_8 : decode cX8_pass 8 = .ok (.getfield 50, 3) := by decide +kernel
theorem dX8_pass_11 : decode cX8_pass 11 = .ok (.if_icmp .ne 6, 3) := by decide +kernel
theorem dX8_pass_14 : decode cX8_pass 14 = .ok (.bipush (-3), 2) := by decide +kernel
theorem dX8_pass_16 : decode cX8_pass 16 = .ok (.ireturn, 1) := by decide +kernel
theorem dX8_pass_17 : decode cX8_pass 17 = .ok (.aload_n 0, 1) := by decide +kernel
theorem dX8_pass_18 : decode cX8_pass 18 = .ok (.invokevirtual 114, 3) := by decide +kernel
theorem dX8_pass_21 : decode cX8_pass 21 = .ok (.aload_n 0, 1) := by decide +kernel
theorem dX8_pass_22 : decode cX8_pass 22 = .ok (.iconst 0, 1) := by decide +kernel
theorem dX8_pass_23 : decode cX8_pass 23 = .ok (.aload_n 0, 1) := by decide +kernel
theorem dX8_pass_24 : decode cX8_pass 24 = .ok (.getfield 83, 3) := by decide +kernel
theorem dX8_pass_27 : decode cX8_pass 27 = .ok (.invokevirtual 117, 3) := by decide +kernel
theorem dX8_pass_30 : decode cX8_pass 30 = .ok (.aload_n 0, 1) := by decide +kernel
theorem dX8_pass_31 : decode cX8_pass 31 = .ok (.iconst 0, 1) := by decide +kernel
theorem dX8_pass_32 : decode cX8_pass 32 = .ok (.aload_n 0, 1) := by decide +kernel
theorem dX8_pass_33 : decode cX8_pass 33 = .ok (.getfield 83, 3) := by decide +kernel
theorem dX8_pass_36 : decode cX8_pass 36 = .ok (.invokevirtual 121, 3) := by decide +kernel
theorem dX8_pass_39 : decode cX8_pass 39 = .ok (.ireturn, 1) := by decide +kernel
theorem dX8_give_0 : decode cX8_give 0 = .ok (.aload_n 0, 1) := by decide +kernel
theorem dX8_give_1 : decode cX8_give 1 = .ok (.iload_n 1, 1) := by decide +kernel
theorem dX8_give_2 : decode cX8_give 2 = .ok (.invokevirtual 89, 3) := by decide +kernel
theorem dX8_give_5 : decode cX8_give 5 = .ok (.ifCond .eq 11, 3) := by decide +kernel
theorem dX8_give_8 : decode cX8_give 8 = .ok (.aload_n 0, 1) := by decide +kernel
theorem dX8_give_9 : decode cX8_give 9 = .ok (.iload_n 2, 1) := by decide +kernel
theorem dX8_give_10 : decode cX8_give 10 = .ok (.invokevirtual 97, 3) := by decide +kernel
theorem dX8_give_13 : decode cX8_give 13 = .ok (.ifCond .ne 5, 3) := by decide +kernel
theorem dX8_give_16 : decode cX8_give 16 = .ok (.iconst (-1), 1) := by decide +kernel
theorem dX8_give_17 : decode cX8_give 17 = .ok (.ireturn, 1) := by decide +kernel
theorem dX8_give_18 : decode cX8_give 18 = .ok (.aload_n 0, 1) := by decide +kernel
theorem dX8_give_19 : decode cX8_give 19 = .ok (.getfield 16, 3) := by decide +kernel
theorem dX8_give_22 : decode cX8_give 22 = .ok (.bipush 17, 2) := by decide +kernel
theorem dX8_give_24 : decode cX8_give 24 = .ok (.iload_n 1, 1) := by decide +kernel
theorem dX8_give_25 : decode cX8_give 25 = .ok (.iadd, 1) := by decide +kernel
theorem dX8_give_26 : decode cX8_give 26 = .ok (.iaload, 1) := by decide +kernel
theorem dX8_give_27 : decode cX8_give 27 = .ok (.ifCond .eq 14, 3) := by decide +kernel
theorem dX8_give_30 : decode cX8_give 30 = .ok (.iload_n 2, 1) := by decide +kernel
theorem dX8_give_31 : decode cX8_give 31 = .ok (.aload_n 0, 1) := by decide +kernel
theorem dX8_give_32 : decode cX8_give 32 = .ok (.getfield 16, 3) := by decide +kernel
theorem dX8_give_35 : decode cX8_give 35 = .ok (.bipush 53, 2) := by decide +kernel
theorem dX8_give_37 : decode cX8_give 37 = .ok (.iaload, 1) := by decide +kernel
theorem dX8_give_38 : decode cX8_give 38 = .ok (.if_icmp .ge 6, 3) := by decide +kernel
theorem dX8_give_41 : decode cX8_give 41 = .ok (.bipush (-3), 2) := by decide +kernel
theorem dX8_give_43 : decode cX8_give 43 = .ok (.ireturn, 1) := by decide +kernel
theorem dX8_give_44 : decode cX8_give 44 = .ok (.aload_n 0, 1) := by decide +kernel
theorem dX8_give_45 : decode cX8_give 45 = .ok (.invokevirtual 114, 3) := by decide +kernel
theorem dX8_give_48 : decode cX8_give 48 = .ok (.aload_n 0, 1) := by decide +kernel
theorem dX8_give_49 : decode cX8_give 49 = .ok (.getfield 16, 3) := by decide +kernel
theorem dX8_give_52 : decode cX8_give 52 = .ok (.bipush 17, 2) := by decide +kernel
theorem dX8_give_54 : decode cX8_give 54 = .ok (.iload_n 1, 1) := by decide +kernel
theorem dX8_give_55 : decode cX8_give 55 = .ok (.iadd, 1) := by decide +kernel
theorem dX8_give_56 : decode cX8_give 56 = .ok (.dup2, 1) := by decide +kernel
theorem dX8_give_57 : decode cX8_give 57 = .ok (.iaload, 1) := by decide +kernel
theorem dX8_give_58 : decode cX8_give 58 = .ok (.iconst 1, 1) := by decide +kernel
theorem dX8_give_59 : decode cX8_give 59 = .ok (.isub, 1) := by decide +kernel
theorem dX8_give_60 : decode cX8_give 60 = .ok (.iastore, 1) := by decide +kernel
theorem dX8_give_61 : decode cX8_give 61 = .ok (.aload_n 0, 1) := by decide +kernel
theorem dX8_give_62 : decode cX8_give 62 = .ok (.getfield 16, 3) := by decide +kernel
theorem dX8_give_65 : decode cX8_give 65 = .ok (.bipush 23, 2) := by decide +kernel
theorem dX8_give_67 : decode cX8_give 67 = .ok (.bipush 6, 2) := by decide +kernel
theorem dX8_give_69 : decode cX8_give 69 = .ok (.iload_n 2, 1) := by decide +kernel
theorem dX8_give_70 : decode cX8_give 70 = .ok (.imul, 1) := by decide +kernel
theorem dX8_give_71 : decode cX8_give 71 = .ok (.iadd, 1) := by decide +kernel
theorem dX8_give_72 : decode cX8_give 72 = .ok (.iload_n 1, 1) := by decide +kernel
theorem dX8_give_73 : decode cX8_give 73 = .ok (.iadd, 1) := by decide +kernel
theorem dX8_give_74 : decode cX8_give 74 = .ok (.dup2, 1) := by decide +kernel
theorem dX8_give_75 : decode cX8_give 75 = .ok (.iaload, 1) := by decide +kernel
theorem dX8_give_76 : decode cX8_give 76 = .ok (.iconst 1, 1) := by decide +kernel
theorem dX8_give_77 : decode cX8_give 77 = .ok (.iadd, 1) := by decide +kernel
theorem dX8_give_78 : decode cX8_give 78 = .ok (.iastore, 1) := by decide +kernel
theorem dX8_give_79 : decode cX8_give 79 = .ok (.aload_n 0, 1) := by decide +kernel
theorem dX8_give_80 : decode cX8_give 80 = .ok (.getfield 16, 3) := by decide +kernel
theorem dX8_give_83 : decode cX8_give 83 = .ok (.bipush 23, 2) := by decide +kernel
theorem dX8_give_85 : decode cX8_give 85 = .ok (.bipush 6, 2) := by decide +kernel
theorem dX8_give_87 : decode cX8_give 87 = .ok (.iload_n 2, 1) := by decide +kernel
theorem dX8_give_88 : decode cX8_give 88 = .ok (.imul, 1) := by decide +kernel
theorem dX8_give_89 : decode cX8_give 89 = .ok (.iadd, 1) := by decide +kernel
theorem dX8_give_90 : decode cX8_give 90 = .ok (.iload_n 1, 1) := by decide +kernel
theorem dX8_give_91 : decode cX8_give 91 = .ok (.iadd, 1) := by decide +kernel
theorem dX8_give_92 : decode cX8_give 92 = .ok (.iaload, 1) := by decide +kernel
theorem dX8_give_93 : decode cX8_give 93 = .ok (.ireturn, 1) := by decide +kernel
theorem dX8_letBy_0 : decode cX8_letBy 0 = .ok (.aload_n 0, 1) := by decide +kernel
theorem dX8_letBy_1 : decode cX8_letBy 1 = .ok (.iload_n 1, 1) := by decide +kernel
theorem dX8_letBy_2 : decode cX8_letBy 2 = .ok (.invokevirtual 89, 3) := by decide +kernel
theorem dX8_letBy_5 : decode cX8_letBy 5 = .ok (.ifCond .ne 5, 3) := by decide +kernel
theorem dX8_letBy_8 : decode cX8_letBy 8 = .ok (.iconst (-1), 1) := by decide +kernel
theorem dX8_letBy_9 : decode cX8_letBy 9 = .ok (.ireturn, 1) := by decide +kernel
theorem dX8_letBy_10 : decode cX8_letBy 10 = .ok (.aload_n 0, 1) := by decide +kernel
theorem dX8_letBy_11 : decode cX8_letBy 11 = .ok (.iconst 0, 1) := by decide +kernel
theorem dX8_letBy_12 : decode cX8_letBy 12 = .ok (.iload_n 1, 1) := by decide +kernel
theorem dX8_letBy_13 : decode cX8_letBy 13 = .ok (.aload_n 0, 1) := by decide +kernel
theorem dX8_letBy_14 : decode cX8_letBy 14 = .ok (.getfield 83, 3) := by decide +kernel
theorem dX8_letBy_17 : decode cX8_letBy 17 = .ok (.invokevirtual 93, 3) := by decide +kernel
theorem dX8_letBy_20 : decode cX8_letBy 20 = .ok (.istore_n 2, 1) := by decide +kernel
theorem dX8_letBy_21 : decode cX8_letBy 21 = .ok (.iload_n 2, 1) := by decide +kernel
theorem dX8_letBy_22 : decode cX8_letBy 22 = .ok (.aload_n 0, 1) := by decide +kernel
theorem dX8_letBy_23 : decode cX8_letBy 23 = .ok (.getfield 83, 3) := by decide +kernel
theorem dX8_letBy_26 : decode cX8_letBy 26 = .ok (.iconst 1, 1) := by decide +kernel
theorem dX8_letBy_27 : decode cX8_letBy 27 = .ok (.isub, 1) := by decide +kernel
theorem dX8_letBy_28 : decode cX8_letBy 28 = .ok (.if_icmp .ne 6, 3) := by decide +kernel
theorem dX8_letBy_31 : decode cX8_letBy 31 = .ok (.bipush (-3), 2) := by decide +kernel
theorem dX8_letBy_33 : decode cX8_letBy 33 = .ok (.ireturn, 1) := by decide +kernel
theorem dX8_letBy_34 : decode cX8_letBy 34 = .ok (.aload_n 0, 1) := by decide +kernel
theorem dX8_letBy_35 : decode cX8_letBy 35 = .ok (.invokevirtual 114, 3) := by decide +kernel
theorem dX8_letBy_38 : decode cX8_letBy 38 = .ok (.aload_n 0, 1) := by decide +kernel
theorem dX8_letBy_39 : decode cX8_letBy 39 = .ok (.getfield 16, 3) := by decide +kernel
theorem dX8_letBy_42 : decode cX8_letBy 42 = .ok (.iload_n 2, 1) := by decide +kernel
theorem dX8_letBy_43 : decode cX8_letBy 43 = .ok (.aload_n 0, 1) := by decide +kernel
theorem dX8_letBy_44 : decode cX8_letBy 44 = .ok (.getfield 16, 3) := by decide +kernel
theorem dX8_letBy_47 : decode cX8_letBy 47 = .ok (.iload_n 2, 1) := by decide +kernel
theorem dX8_letBy_48 : decode cX8_letBy 48 = .ok (.iconst 1, 1) := by decide +kernel
theorem dX8_letBy_49 : decode cX8_letBy 49 = .ok (.iadd, 1) := by decide +kernel
theorem dX8_letBy_50 : decode cX8_letBy 50 = .ok (.iaload, 1) := by decide +kernel
theorem dX8_letBy_51 : decode cX8_letBy 51 = .ok (.iastore, 1) := by decide +kernel
theorem dX8_letBy_52 : decode cX8_letBy 52 = .ok (.aload_n 0, 1) := by decide +kernel
theorem dX8_letBy_53 : decode cX8_letBy 53 = .ok (.getfield 16, 3) := by decide +kernel
theorem dX8_letBy_56 : decode cX8_letBy 56 = .ok (.iload_n 2, 1) := by decide +kernel
theorem dX8_letBy_57 : decode cX8_letBy 57 = .ok (.iconst 1, 1) := by decide +kernel
theorem dX8_letBy_58 : decode cX8_letBy 58 = .ok (.iadd, 1) := by decide +kernel
theorem dX8_letBy_59 : decode cX8_letBy 59 = .ok (.iload_n 1, 1) := by decide +kernel
theorem dX8_letBy_60 : decode cX8_letBy 60 = .ok (.iastore, 1) := by decide +kernel
theorem dX8_letBy_61 : decode cX8_letBy 61 = .ok (.iload_n 2, 1) := by decide +kernel
theorem dX8_letBy_62 : decode cX8_letBy 62 = .ok (.iconst 1, 1) := by decide +kernel
theorem dX8_letBy_63 : decode cX8_letBy 63 = .ok (.iadd, 1) := by decide +kernel
theorem dX8_letBy_64 : decode cX8_letBy 64 = .ok (.ireturn, 1) := by decide +kernel
theorem dX8_learn_0 : decode cX8_learn 0 = .ok (.aload_n 0, 1) := by decide +kernel
theorem dX8_learn_1 : decode cX8_learn 1 = .ok (.iload_n 1, 1) := by decide +kernel
theorem dX8_learn_2 : decode cX8_learn 2 = .ok (.invokevirtual 97, 3) := by decide +kernel
theorem dX8_learn_5 : decode cX8_learn 5 = .ok (.ifCond .ne 5, 3) := by decide +kernel
theorem dX8_learn_8 : decode cX8_learn 8 = .ok (.iconst (-1), 1) := by decide +kernel
theorem dX8_learn_9 : decode cX8_learn 9 = .ok (.ireturn, 1) := by decide +kernel
theorem dX8_learn_10 : decode cX8_learn 10 = .ok (.iload_n 2, 1) := by decide +kernel
theorem dX8_learn_11 : decode cX8_learn 11 = .ok (.i2l, 1) := by decide +kernel
theorem dX8_learn_12 : decode cX8_learn 12 = .ok (.lconst 0, 1) := by decide +kernel
theorem dX8_learn_13 : decode cX8_learn 13 = .ok (.ldc2_w 124, 3) := by decide +kernel
theorem dX8_learn_16 : decode cX8_learn 16 = .ok (.invokestatic 56, 3) := by decide +kernel
theorem dX8_learn_19 : decode cX8_learn 19 = .ok (.ifCond .ne 6, 3) := by decide +kernel
theorem dX8_learn_22 : decode cX8_learn 22 = .ok (.bipush (-2), 2) := by decide +kernel
theorem dX8_learn_24 : decode cX8_learn 24 = .ok (.ireturn, 1) := by decide +kernel
theorem dX8_learn_25 : decode cX8_learn 25 = .ok (.iload_n 1, 1) := by decide +kernel
theorem dX8_learn_26 : decode cX8_learn 26 = .ok (.aload_n 0, 1) := by decide +kernel
theorem dX8_learn_27 : decode cX8_learn 27 = .ok (.getfield 16, 3) := by decide +kernel
theorem dX8_learn_30 : decode cX8_learn 30 = .ok (.bipush 53, 2) := by decide +kernel
theorem dX8_learn_32 : decode cX8_learn 32 = .ok (.iaload, 1) := by decide +kernel
theorem dX8_learn_33 : decode cX8_learn 33 = .ok (.if_icmp .lt 16, 3) := by decide +kernel
theorem dX8_learn_36 : decode cX8_learn 36 = .ok (.aload_n 0, 1) := by decide +kernel
theorem dX8_learn_37 : decode cX8_learn 37 = .ok (.getfield 16, 3) := by decide +kernel
theorem dX8_learn_40 : decode cX8_learn 40 = .ok (.bipush 12, 2) := by decide +kernel
theorem dX8_learn_42 : decode cX8_learn 42 = .ok (.iload_n 1, 1) := by decide +kernel
theorem dX8_learn_43 : decode cX8_learn 43 = .ok (.iadd, 1) := by decide +kernel
theorem dX8_learn_44 : decode cX8_learn 44 = .ok (.iaload, 1) := by decide +kernel
theorem dX8_learn_45 : decode cX8_learn 45 = .ok (.iload_n 2, 1) := by decide +kernel
theorem dX8_learn_46 : decode cX8_learn 46 = .ok (.if_icmp .ne 6, 3) := by decide +kernel
theorem dX8_learn_49 : decode cX8_learn 49 = .ok (.bipush (-3), 2) := by decide +kernel
theorem dX8_learn_51 : decode cX8_learn 51 = .ok (.ireturn, 1) := by decide +kernel
theorem dX8_learn_52 : decode cX8_learn 52 = .ok (.aload_n 0, 1) := by decide +kernel
theorem dX8_learn_53 : decode cX8_learn 53 = .ok (.invokevirtual 114, 3) := by decide +kernel
theorem dX8_learn_56 : decode cX8_learn 56 = .ok (.aload_n 0, 1) := by decide +kernel
theorem dX8_learn_57 : decode cX8_learn 57 = .ok (.getfield 16, 3) := by decide +kernel
theorem dX8_learn_60 : decode cX8_learn 60 = .ok (.bipush 12, 2) := by decide +kernel
theorem dX8_learn_62 : decode cX8_learn 62 = .ok (.iload_n 1, 1) := by decide +kernel
theorem dX8_learn_63 : decode cX8_learn 63 = .ok (.iadd, 1) := by decide +kernel
theorem dX8_learn_64 : decode cX8_learn 64 = .ok (.iaload, 1) := by decide +kernel
theorem dX8_learn_65 : decode cX8_learn 65 = .ok (.istore_n 3, 1) := by decide +kernel
theorem dX8_learn_66 : decode cX8_learn 66 = .ok (.aload_n 0, 1) := by decide +kernel
theorem dX8_learn_67 : decode cX8_learn 67 = .ok (.getfield 16, 3) := by decide +kernel
theorem dX8_learn_70 : decode cX8_learn 70 = .ok (.bipush 12, 2) := by decide +kernel
theorem dX8_learn_72 : decode cX8_learn 72 = .ok (.iload_n 1, 1) := by decide +kernel
theorem dX8_learn_73 : decode cX8_learn 73 = .ok (.iadd, 1) := by decide +kernel
theorem dX8_learn_74 : decode cX8_learn 74 = .ok (.iload_n 2, 1) := by decide +kernel
theorem dX8_learn_75 : decode cX8_learn 75 = .ok (.iastore, 1) := by decide +kernel
theorem dX8_learn_76 : decode cX8_learn 76 = .ok (.iload_n 3, 1) := by decide +kernel
theorem dX8_learn_77 : decode cX8_learn 77 = .ok (.ireturn, 1) := by decide +kernel
theorem dX8_undo_0 : decode cX8_undo 0 = .ok (.aload_n 0, 1) := by decide +kernel
theorem dX8_undo_1 : decode cX8_undo 1 = .ok (.getfield 86, 3) := by decide +kernel
theorem dX8_undo_4 : decode cX8_undo 4 = .ok (.ifCond .ne 6, 3) := by decide +kernel
theorem dX8_undo_7 : decode cX8_undo 7 = .ok (.bipush (-3), 2) := by decide +kernel
theorem dX8_undo_9 : decode cX8_undo 9 = .ok (.ireturn, 1) := by decide +kernel
theorem dX8_undo_10 : decode cX8_undo 10 = .ok (.aload_n 0, 1) := by decide +kernel
theorem dX8_undo_11 : decode cX8_undo 11 = .ok (.dup, 1) := by decide +kernel
theorem dX8_undo_12 : decode cX8_undo 12 = .ok (.getfield 86, 3) := by decide +kernel
theorem dX8_undo_15 : decode cX8_undo 15 = .ok (.iconst 1, 1) := by decide +kernel
theorem dX8_undo_16 : decode cX8_undo 16 = .ok (.isub, 1) := by decide +kernel
theorem dX8_undo_17 : decode cX8_undo 17 = .ok (.putfield 86, 3) := by decide +kernel
theorem dX8_undo_20 : decode cX8_undo 20 = .ok (.aload_n 0, 1) := by decide +kernel
theorem dX8_undo_21 : decode cX8_undo 21 = .ok (.aload_n 0, 1) := by decide +kernel
theorem dX8_undo_22 : decode cX8_undo 22 = .ok (.getfield 111, 3) := by decide +kernel
theorem dX8_undo_25 : decode cX8_undo 25 = .ok (.bipush 13, 2) := by decide +kernel
theorem dX8_undo_27 : decode cX8_undo 27 = .ok (.iadd, 1) := by decide +kernel
theorem dX8_undo_28 : decode cX8_undo 28 = .ok (.bipush 14, 2) := by decide +kernel
theorem dX8_undo_30 : decode cX8_undo 30 = .ok (.irem, 1) := by decide +kernel
theorem dX8_undo_31 : decode cX8_undo 31 = .ok (.putfield 111, 3) := by decide +kernel
theorem dX8_undo_34 : decode cX8_undo 34 = .ok (.iconst 0, 1) := by decide +kernel
theorem dX8_undo_35 : decode cX8_undo 35 = .ok (.istore_n 1, 1) := by decide +kernel
theorem dX8_undo_36 : decode cX8_undo 36 = .ok (.iload_n 1, 1) := by decide +kernel
theorem dX8_undo_37 : decode cX8_undo 37 = .ok (.bipush 54, 2) := by decide +kernel
theorem dX8_undo_39 : decode cX8_undo 39 = .ok (.if_icmp .ge 29, 3) := by decide +kernel
theorem dX8_undo_42 : decode cX8_undo 42 = .ok (.aload_n 0, 1) := by decide +kernel
theorem dX8_undo_43 : decode cX8_undo 43 = .ok (.getfield 16, 3) := by decide +kernel
theorem dX8_undo_46 : decode cX8_undo 46 = .ok (.iload_n 1, 1) := by decide +kernel
theorem dX8_undo_47 : decode cX8_undo 47 = .ok (.aload_n 0, 1) := by decide +kernel
theorem dX8_undo_48 : decode cX8_undo 48 = .ok (.getfield 31, 3) := by decide +kernel
theorem dX8_undo_51 : decode cX8_undo 51 = .ok (.bipush 54, 2) := by decide +kernel
theorem dX8_undo_53 : decode cX8_undo 53 = .ok (.aload_n 0, 1) := by decide +kernel
theorem dX8_undo_54 : decode cX8_undo 54 = .ok (.getfield 111, 3) := by decide +kernel
theorem dX8_undo_57 : decode cX8_undo 57 = .ok (.imul, 1) := by decide +kernel
theorem dX8_undo_58 : decode cX8_undo 58 = .ok (.iload_n 1, 1) := by decide +kernel
theorem dX8_undo_59 : decode cX8_undo 59 = .ok (.iadd, 1) := by decide +kernel
theorem dX8_undo_60 : decode cX8_undo 60 = .ok (.iaload, 1) := by decide +kernel
theorem dX8_undo_61 : decode cX8_undo 61 = .ok (.iastore, 1) := by decide +kernel
theorem dX8_undo_62 : decode cX8_undo 62 = .ok (.iinc 1 1, 3) := by decide +kernel
theorem dX8_undo_65 : decode cX8_undo 65 = .ok (.goto (-29), 3) := by decide +kernel
theorem dX8_undo_68 : decode cX8_undo 68 = .ok (.aload_n 0, 1) := by decide +kernel
theorem dX8_undo_69 : decode cX8_undo 69 = .ok (.getfield 86, 3) := by decide +kernel
theorem dX8_undo_72 : decode cX8_undo 72 = .ok (.ireturn, 1) := by decide +kernel
theorem dX8_layTrial_0 : decode cX8_layTrial 0 = .ok (.iconst 0, 1) := by decide +kernel
theorem dX8_layTrial_1 : decode cX8_layTrial 1 = .ok (.istore_n 1, 1) := by decide +kernel
theorem dX8_layTrial_2 : decode cX8_layTrial 2 = .ok (.iload_n 1, 1) := by decide +kernel
theorem dX8_layTrial_3 : decode cX8_layTrial 3 = .ok (.bipush 54, 2) := by decide +kernel
theorem dX8_layTrial_5 : decode cX8_layTrial 5 = .ok (.if_icmp .ge 24, 3) := by decide +kernel
theorem dX8_layTrial_8 : decode cX8_layTrial 8 = .ok (.aload_n 0, 1) := by decide +kernel
theorem dX8_layTrial_9 : decode cX8_layTrial 9 = .ok (.getfield 16, 3) := by decide +kernel
theorem dX8_layTrial_12 : decode cX8_layTrial 12 = .ok (.bipush 54, 2) := by decide +kernel
theorem dX8_layTrial_14 : decode cX8_layTrial 14 = .ok (.iload_n 1, 1) := by decide +kernel
theorem dX8_layTrial_15 : decode cX8_layTrial 15 = .ok (.iadd, 1) := by decide +kernel
theorem dX8_layTrial_16 : decode cX8_layTrial 16 = .ok (.aload_n 0, 1) := by decide +kernel
theorem dX8_layTrial_17 : decode cX8_layTrial 17 = .ok (.getfield 16, 3) := by decide +kernel
theorem dX8_layTrial_20 : decode cX8_layTrial 20 = .ok (.iload_n 1, 1) := by decide +kernel
theorem dX8_layTrial_21 : decode cX8_layTrial 21 = .ok (.iaload, 1) := by decide +kernel
theorem dX8_layTrial_22 : decode cX8_layTrial 22 = .ok (.iastore, 1) := by decide +kernel
theorem dX8_layTrial_23 : decode cX8_layTrial 23 = .ok (.iinc 1 1, 3) := by decide +kernel
theorem dX8_layTrial_26 : decode cX8_layTrial 26 = .ok (.goto (-24), 3) := by decide +kernel
theorem dX8_layTrial_29 : decode cX8_layTrial 29 = .ok (.iconst 0, 1) := by decide +kernel
theorem dX8_layTrial_30 : decode cX8_layTrial 30 = .ok (.istore_n 1, 1) := by decide +kernel
theorem dX8_layTrial_31 : decode cX8_layTrial 31 = .ok (.iload_n 1, 1) := by decide +kernel
theorem dX8_layTrial_32 : decode cX8_layTrial 32 = .ok (.bipush 6, 2) := by decide +kernel
theorem dX8_layTrial_34 : decode cX8_layTrial 34 = .ok (.if_icmp .ge 16, 3) := by decide +kernel
theorem dX8_layTrial_37 : decode cX8_layTrial 37 = .ok (.aload_n 0, 1) := by decide +kernel
theorem dX8_layTrial_38 : decode cX8_layTrial 38 = .ok (.getfield 28, 3) := by decide +kernel
theorem dX8_layTrial_41 : decode cX8_layTrial 41 = .ok (.iload_n 1, 1) := by decide +kernel
theorem dX8_layTrial_42 : decode cX8_layTrial 42 = .ok (.iconst 0, 1) := by decide +kernel
theorem dX8_layTrial_43 : decode cX8_layTrial 43 = .ok (.iastore, 1) := by decide +kernel
theorem dX8_layTrial_44 : decode cX8_layTrial 44 = .ok (.iinc 1 1, 3) := by decide +kernel
theorem dX8_layTrial_47 : decode cX8_layTrial 47 = .ok (.goto (-16), 3) := by decide +kernel
theorem dX8_layTrial_50 : decode cX8_layTrial 50 = .ok (.return_, 1) := by decide +kernel
theorem dX8_passAll_0 : decode cX8_passAll 0 = .ok (.aload_n 0, 1) := by decide +kernel
theorem dX8_passAll_1 : decode cX8_passAll 1 = .ok (.getfield 16, 3) := by decide +kernel
theorem dX8_passAll_4 : decode cX8_passAll 4 = .ok (.bipush 107, 2) := by decide +kernel
theorem dX8_passAll_6 : decode cX8_passAll 6 = .ok (.iaload, 1) := by decide +kernel
theorem dX8_passAll_7 : decode cX8_passAll 7 = .ok (.aload_n 0, 1) := by decide +kernel
theorem dX8_passAll_8 : decode cX8_passAll 8 = .ok (.getfield 50, 3) := by decide +kernel
theorem dX8_passAll_11 : decode cX8_passAll 11 = .ok (.if_icmp .ge 12, 3) := by decide +kernel
theorem dX8_passAll_14 : decode cX8_passAll 14 = .ok (.aload_n 0, 1) := by decide +kernel
theorem dX8_passAll_15 : decode cX8_passAll 15 = .ok (.iconst 1, 1) := by decide +kernel
theorem dX8_passAll_16 : decode cX8_passAll 16 = .ok (.iload_n 1, 1) := by decide +kernel
theorem dX8_passAll_17 : decode cX8_passAll 17 = .ok (.invokevirtual 117, 3) := by decide +kernel
theorem dX8_passAll_20 : decode cX8_passAll 20 = .ok (.goto (-20), 3) := by decide +kernel
theorem dX8_passAll_23 : decode cX8_passAll 23 = .ok (.return_, 1) := by decide +kernel
theorem dX8_layBasin_0 : decode cX8_layBasin 0 = .ok (.aload_n 0, 1) := by decide +kernel
theorem dX8_layBasin_1 : decode cX8_layBasin 1 = .ok (.invokevirtual 126, 3) := by decide +kernel
theorem dX8_layBasin_4 : decode cX8_layBasin 4 = .ok (.aload_n 0, 1) := by decide +kernel
theorem dX8_layBasin_5 : decode cX8_layBasin 5 = .ok (.aload_n 0, 1) := by decide +kernel
theorem dX8_layBasin_6 : decode cX8_layBasin 6 = .ok (.getfield 83, 3) := by decide +kernel
theorem dX8_layBasin_9 : decode cX8_layBasin 9 = .ok (.invokevirtual 129, 3) := by decide +kernel
theorem dX8_layBasin_12 : decode cX8_layBasin 12 = .ok (.return_, 1) := by decide +kernel
theorem dX8_basin_0 : decode cX8_basin 0 = .ok (.aload_n 0, 1) := by decide +kernel
theorem dX8_basin_1 : decode cX8_basin 1 = .ok (.invokevirtual 133, 3) := by decide +kernel
theorem dX8_basin_4 : decode cX8_basin 4 = .ok (.aload_n 0, 1) := by decide +kernel
theorem dX8_basin_5 : decode cX8_basin 5 = .ok (.iconst 1, 1) := by decide +kernel
theorem dX8_basin_6 : decode cX8_basin 6 = .ok (.aload_n 0, 1) := by decide +kernel
theorem dX8_basin_7 : decode cX8_basin 7 = .ok (.getfield 83, 3) := by decide +kernel
theorem dX8_basin_10 : decode cX8_basin 10 = .ok (.invokevirtual 121, 3) := by decide +kernel
theorem dX8_basin_13 : decode cX8_basin 13 = .ok (.ireturn, 1) := by decide +kernel
theorem dX8_hour_0 : decode cX8_hour 0 = .ok (.aload_n 0, 1) := by decide +kernel
theorem dX8_hour_1 : decode cX8_hour 1 = .ok (.iload_n 1, 1) := by decide +kernel
theorem dX8_hour_2 : decode cX8_hour 2 = .ok (.invokevirtual 89, 3) := by decide +kernel
theorem dX8_hour_5 : decode cX8_hour 5 = .ok (.ifCond .ne 5, 3) := by decide +kernel
theorem dX8_hour_8 : decode cX8_hour 8 = .ok (.iconst (-1), 1) := by decide +kernel
theorem dX8_hour_9 : decode cX8_hour 9 = .ok (.ireturn, 1) := by decide +kernel
theorem dX8_hour_10 : decode cX8_hour 10 = .ok (.aload_n 0, 1) := by decide +kernel
theorem dX8_hour_11 : decode cX8_hour 11 = .ok (.invokevirtual 133, 3) := by decide +kernel
theorem dX8_hour_14 : decode cX8_hour 14 = .ok (.aload_n 0, 1) := by decide +kernel
theorem dX8_hour_15 : decode cX8_hour 15 = .ok (.getfield 16, 3) := by decide +kernel
theorem dX8_hour_18 : decode cX8_hour 18 = .ok (.bipush 60, 2) := by decide +kernel
theorem dX8_hour_20 : decode cX8_hour 20 = .ok (.iload_n 1, 1) := by decide +kernel
theorem dX8_hour_21 : decode cX8_hour 21 = .ok (.iadd, 1) := by decide +kernel
theorem dX8_hour_22 : decode cX8_hour 22 = .ok (.iaload, 1) := by decide +kernel
theorem dX8_hour_23 : decode cX8_hour 23 = .ok (.ireturn, 1) := by decide +kernel
theorem dX8_gains_0 : decode cX8_gains 0 = .ok (.aload_n 0, 1) := by decide +kernel
theorem dX8_gains_1 : decode cX8_gains 1 = .ok (.iload_n 1, 1) := by decide +kernel
theorem dX8_gains_2 : decode cX8_gains 2 = .ok (.invokevirtual 89, 3) := by decide +kernel
theorem dX8_gains_5 : decode cX8_gains 5 = .ok (.ifCond .ne 5, 3) := by decide +kernel
theorem dX8_gains_8 : decode cX8_gains 8 = .ok (.iconst (-1), 1) := by decide +kernel
theorem dX8_gains_9 : decode cX8_gains 9 = .ok (.ireturn, 1) := by decide +kernel
theorem dX8_gains_10 : decode cX8_gains 10 = .ok (.aload_n 0, 1) := by decide +kernel
theorem dX8_gains_11 : decode cX8_gains 11 = .ok (.invokevirtual 126, 3) := by decide +kernel
theorem dX8_gains_14 : decode cX8_gains 14 = .ok (.iconst 0, 1) := by decide +kernel
theorem dX8_gains_15 : decode cX8_gains 15 = .ok (.istore_n 2, 1) := by decide +kernel
theorem dX8_gains_16 : decode cX8_gains 16 = .ok (.aload_n 0, 1) := by decide +kernel
theorem dX8_gains_17 : decode cX8_gains 17 = .ok (.getfield 16, 3) := by decide +kernel
theorem dX8_gains_20 : decode cX8_gains 20 = .ok (.bipush 107, 2) := by decide +kernel
theorem dX8_gains_22 : decode cX8_gains 22 = .ok (.iaload, 1) := by decide +kernel
theorem dX8_gains_23 : decode cX8_gains 23 = .ok (.aload_n 0, 1) := by decide +kernel
theorem dX8_gains_24 : decode cX8_gains 24 = .ok (.getfield 50, 3) := by decide +kernel
theorem dX8_gains_27 : decode cX8_gains 27 = .ok (.if_icmp .ge 60, 3) := by decide +kernel
theorem dX8_gains_30 : decode cX8_gains 30 = .ok (.aload_n 0, 1) := by decide +kernel
theorem dX8_gains_31 : decode cX8_gains 31 = .ok (.getfield 16, 3) := by decide +kernel
theorem dX8_gains_34 : decode cX8_gains 34 = .ok (.bipush 107, 2) := by decide +kernel
theorem dX8_gains_36 : decode cX8_gains 36 = .ok (.iaload, 1) := by decide +kernel
theorem dX8_gains_37 : decode cX8_gains 37 = .ok (.istore_n 3, 1) := by decide +kernel
theorem dX8_gains_38 : decode cX8_gains 38 = .ok (.aload_n 0, 1) := by decide +kernel
theorem dX8_gains_39 : decode cX8_gains 39 = .ok (.iconst 1, 1) := by decide +kernel
theorem dX8_gains_40 : decode cX8_gains 40 = .ok (.iload_n 1, 1) := by decide +kernel
theorem dX8_gains_41 : decode cX8_gains 41 = .ok (.aload_n 0, 1) := by decide +kernel
theorem dX8_gains_42 : decode cX8_gains 42 = .ok (.getfield 83, 3) := by decide +kernel
theorem dX8_gains_45 : decode cX8_gains 45 = .ok (.invokevirtual 93, 3) := by decide +kernel
theorem dX8_gains_48 : decode cX8_gains 48 = .ok (.istore 4, 2) := by decide +kernel
theorem dX8_gains_50 : decode cX8_gains 50 = .ok (.aload_n 0, 1) := by decide +kernel
theorem dX8_gains_51 : decode cX8_gains 51 = .ok (.iconst 1, 1) := by decide +kernel
theorem dX8_gains_52 : decode cX8_gains 52 = .ok (.aload_n 0, 1) := by decide +kernel
theorem dX8_gains_53 : decode cX8_gains 53 = .ok (.getfield 83, 3) := by decide +kernel
theorem dX8_gains_56 : decode cX8_gains 56 = .ok (.invokevirtual 117, 3) := by decide +kernel
theorem dX8_gains_59 : decode cX8_gains 59 = .ok (.iload_n 2, 1) := by decide +kernel
theorem dX8_gains_60 : decode cX8_gains 60 = .ok (.aload_n 0, 1) := by decide +kernel
theorem dX8_gains_61 : decode cX8_gains 61 = .ok (.iconst 1, 1) := by decide +kernel
theorem dX8_gains_62 : decode cX8_gains 62 = .ok (.iload_n 1, 1) := by decide +kernel
theorem dX8_gains_63 : decode cX8_gains 63 = .ok (.aload_n 0, 1) := by decide +kernel
theorem dX8_gains_64 : decode cX8_gains 64 = .ok (.getfield 83, 3) := by decide +kernel
theorem dX8_gains_67 : decode cX8_gains 67 = .ok (.invokevirtual 93, 3) := by decide +kernel
theorem dX8_gains_70 : decode cX8_gains 70 = .ok (.iload 4, 2) := by decide +kernel
theorem dX8_gains_72 : decode cX8_gains 72 = .ok (.if_icmp .ge 9, 3) := by decide +kernel
theorem dX8_gains_75 : decode cX8_gains 75 = .ok (.iconst 1, 1) := by decide +kernel
theorem dX8_gains_76 : decode cX8_gains 76 = .ok (.iload_n 3, 1) := by decide +kernel
theorem dX8_gains_77 : decode cX8_gains 77 = .ok (.ishl, 1) := by decide +kernel
theorem dX8_gains_78 : decode cX8_gains 78 = .ok (.goto 4, 3) := by decide +kernel
theorem dX8_gains_81 : decode cX8_gains 81 = .ok (.iconst 0, 1) := by decide +kernel
theorem dX8_gains_82 : decode cX8_gains 82 = .ok (.ior, 1) := by decide +kernel
theorem dX8_gains_83 : decode cX8_gains 83 = .ok (.istore_n 2, 1) := by decide +kernel
theorem dX8_gains_84 : decode cX8_gains 84 = .ok (.goto (-68), 3) := by decide +kernel
theorem dX8_gains_87 : decode cX8_gains 87 = .ok (.iload_n 2, 1) := by decide +kernel
theorem dX8_gains_88 : decode cX8_gains 88 = .ok (.ireturn, 1) := by decide +kernel
theorem dX8_mates_0 : decode cX8_mates 0 = .ok (.aload_n 0, 1) := by decide +kernel
theorem dX8_mates_1 : decode cX8_mates 1 = .ok (.iload_n 1, 1) := by decide +kernel
theorem dX8_mates_2 : decode cX8_mates 2 = .ok (.invokevirtual 89, 3) := by decide +kernel
theorem dX8_mates_5 : decode cX8_mates 5 = .ok (.ifCond .ne 5, 3) := by decide +kernel
theorem dX8_mates_8 : decode cX8_mates 8 = .ok (.iconst (-1), 1) := by decide +kernel
theorem dX8_mates_9 : decode cX8_mates 9 = .ok (.ireturn, 1) := by decide +kernel
theorem dX8_mates_10 : decode cX8_mates 10 = .ok (.aload_n 0, 1) := by decide +kernel
theorem dX8_mates_11 : decode cX8_mates 11 = .ok (.invokevirtual 133, 3) := by decide +kernel
theorem dX8_mates_14 : decode cX8_mates 14 = .ok (.aload_n 0, 1) := by decide +kernel
theorem dX8_mates_15 : decode cX8_mates 15 = .ok (.getfield 28, 3) := by decide +kernel
theorem dX8_mates_18 : decode cX8_mates 18 = .ok (.iload_n 1, 1) := by decide +kernel
theorem dX8_mates_19 : decode cX8_mates 19 = .ok (.iaload, 1) := by decide +kernel
theorem dX8_mates_20 : decode cX8_mates 20 = .ok (.ireturn, 1) := by decide +kernel
theorem dX8_isSo_0 : decode cX8_isSo 0 = .ok (.aload_n 0, 1) := by decide +kernel
theorem dX8_isSo_1 : decode cX8_isSo 1 = .ok (.aload_n 0, 1) := by decide +kernel
theorem dX8_isSo_2 : decode cX8_isSo 2 = .ok (.getfield 83, 3) := by decide +kernel
theorem dX8_isSo_5 : decode cX8_isSo 5 = .ok (.invokevirtual 129, 3) := by decide +kernel
theorem dX8_isSo_8 : decode cX8_isSo 8 = .ok (.aload_n 0, 1) := by decide +kernel
theorem dX8_isSo_9 : decode cX8_isSo 9 = .ok (.getfield 16, 3) := by decide +kernel
theorem dX8_isSo_12 : decode cX8_isSo 12 = .ok (.bipush 54, 2) := by decide +kernel
theorem dX8_isSo_14 : decode cX8_isSo 14 = .ok (.iaload, 1) := by decide +kernel
theorem dX8_isSo_15 : decode cX8_isSo 15 = .ok (.iload_n 1, 1) := by decide +kernel
theorem dX8_isSo_16 : decode cX8_isSo 16 = .ok (.if_icmp .ne 25, 3) := by decide +kernel
theorem dX8_isSo_19 : decode cX8_isSo 19 = .ok (.aload_n 0, 1) := by decide +kernel
theorem dX8_isSo_20 : decode cX8_isSo 20 = .ok (.getfield 16, 3) := by decide +kernel
theorem dX8_isSo_23 : decode cX8_isSo 23 = .ok (.bipush 54, 2) := by decide +kernel
theorem dX8_isSo_25 : decode cX8_isSo 25 = .ok (.aload_n 0, 1) := by decide +kernel
theorem dX8_isSo_26 : decode cX8_isSo 26 = .ok (.getfield 83, 3) := by decide +kernel
theorem dX8_isSo_29 : decode cX8_isSo 29 = .ok (.iadd, 1) := by decide +kernel
theorem dX8_isSo_30 : decode cX8_isSo 30 = .ok (.iconst 1, 1) := by decide +kernel
theorem dX8_isSo_31 : decode cX8_isSo 31 = .ok (.isub, 1) := by decide +kernel
theorem dX8_isSo_32 : decode cX8_isSo 32 = .ok (.iaload, 1) := by decide +kernel
theorem dX8_isSo_33 : decode cX8_isSo 33 = .ok (.iload_n 2, 1) := by decide +kernel
theorem dX8_isSo_34 : decode cX8_isSo 34 = .ok (.if_icmp .eq 7, 3) := by decide +kernel
theorem dX8_isSo_37 : decode cX8_isSo 37 = .ok (.iconst 1, 1) := by decide +kernel
theorem dX8_isSo_38 : decode cX8_isSo 38 = .ok (.goto 4, 3) := by decide +kernel
theorem dX8_isSo_41 : decode cX8_isSo 41 = .ok (.iconst 0, 1) := by decide +kernel
theorem dX8_isSo_42 : decode cX8_isSo 42 = .ok (.ireturn, 1) := by decide +kernel
theorem dX8_factorial_0 : decode cX8_factorial 0 = .ok (.iconst 1, 1) := by decide +kernel
theorem dX8_factorial_1 : decode cX8_factorial 1 = .ok (.istore_n 1, 1) := by decide +kernel
theorem dX8_factorial_2 : decode cX8_factorial 2 = .ok (.iconst 2, 1) := by decide +kernel
theorem dX8_factorial_3 : decode cX8_factorial 3 = .ok (.istore_n 2, 1) := by decide +kernel
theorem dX8_factorial_4 : decode cX8_factorial 4 = .ok (.iload_n 2, 1) := by decide +kernel
theorem dX8_factorial_5 : decode cX8_factorial 5 = .ok (.iload_n 0, 1) := by decide +kernel
theorem dX8_factorial_6 : decode cX8_factorial 6 = .ok (.if_icmp .gt 13, 3) := by decide +kernel
theorem dX8_factorial_9 : decode cX8_factorial 9 = .ok (.iload_n 1, 1) := by decide +kernel
theorem dX8_factorial_10 : decode cX8_factorial 10 = .ok (.iload_n 2, 1) := by decide +kernel
theorem dX8_factorial_11 : decode cX8_factorial 11 = .ok (.imul, 1) := by decide +kernel
theorem dX8_factorial_12 : decode cX8_factorial 12 = .ok (.istore_n 1, 1) := by decide +kernel
theorem dX8_factorial_13 : decode cX8_factorial 13 = .ok (.iinc 2 1, 3) := by decide +kernel
theorem dX8_factorial_16 : decode cX8_factorial 16 = .ok (.goto (-12), 3) := by decide +kernel
theorem dX8_factorial_19 : decode cX8_factorial 19 = .ok (.iload_n 1, 1) := by decide +kernel
theorem dX8_factorial_20 : decode cX8_factorial 20 = .ok (.ireturn, 1) := by decide +kernel
theorem dX8_layOrder_0 : decode cX8_layOrder 0 = .ok (.iconst 1, 1) := by decide +kernel
theorem dX8_layOrder_1 : decode cX8_layOrder 1 = .ok (.aload_n 0, 1) := by decide +kernel
theorem dX8_layOrder_2 : decode cX8_layOrder 2 = .ok (.getfield 83, 3) := by decide +kernel
theorem dX8_layOrder_5 : decode cX8_layOrder 5 = .ok (.ishl, 1) := by decide +kernel
theorem dX8_layOrder_6 : decode cX8_layOrder 6 = .ok (.iconst 1, 1) := by decide +kernel
theorem dX8_layOrder_7 : decode cX8_layOrder 7 = .ok (.isub, 1) := by decide +kernel
theorem dX8_layOrder_8 : decode cX8_layOrder 8 = .ok (.istore_n 2, 1) := by decide +kernel
theorem dX8_layOrder_9 : decode cX8_layOrder 9 = .ok (.iload_n 1, 1) := by decide +kernel
theorem dX8_layOrder_10 : decode cX8_layOrder 10 = .ok (.istore_n 3, 1) := by decide +kernel
theorem dX8_layOrder_11 : decode cX8_layOrder 11 = .ok (.iconst 0, 1) := by decide +kernel
theorem dX8_layOrder_12 : decode cX8_layOrder 12 = .ok (.istore 4, 2) := by decide +kernel
theorem dX8_layOrder_14 : decode cX8_layOrder 14 = .ok (.iload 4, 2) := by decide +kernel
theorem dX8_layOrder_16 : decode cX8_layOrder 16 = .ok (.aload_n 0, 1) := by decide +kernel
theorem dX8_layOrder_17 : decode cX8_layOrder 17 = .ok (.getfield 83, 3) := by decide +kernel
theorem dX8_layOrder_20 : decode cX8_layOrder 20 = .ok (.if_icmp .ge 119, 3) := by decide +kernel
theorem dX8_layOrder_23 : decode cX8_layOrder 23 = .ok (.aload_n 0, 1) := by decide +kernel
theorem dX8_layOrder_24 : decode cX8_layOrder 24 = .ok (.getfield 83, 3) := by decide +kernel
theorem dX8_layOrder_27 : decode cX8_layOrder 27 = .ok (.iconst 1, 1) := by decide +kernel
theorem dX8_layOrder_28 : decode cX8_layOrder 28 = .ok (.isub, 1) := by decide +kernel
theorem dX8_layOrder_29 : decode cX8_layOrder 29 = .ok (.iload 4, 2) := by decide +kernel
theorem dX8_layOrder_31 : decode cX8_layOrder 31 = .ok (.isub, 1) := by decide +kernel
theorem dX8_layOrder_32 : decode cX8_layOrder 32 = .ok (.invokestatic 136, 3) := by decide +kernel
theorem dX8_layOrder_35 : decode cX8_layOrder 35 = .ok (.istore 5, 2) := by decide +kernel
theorem dX8_layOrder_37 : decode cX8_layOrder 37 = .ok (.iload_n 3, 1) := by decide +kernel
theorem dX8_layOrder_38 : decode cX8_layOrder 38 = .ok (.iload 5, 2) := by decide +kernel
theorem dX8_layOrder_40 : decode cX8_layOrder 40 = .ok (.idiv, 1) := by decide +kernel
theorem dX8_layOrder_41 : decode cX8_layOrder 41 = .ok (.istore 6, 2) := by decide +kernel
theorem dX8_layOrder_43 : decode cX8_layOrder 43 = .ok (.iload_n 3, 1) := by decide +kernel
theorem dX8_layOrder_44 : decode cX8_layOrder 44 = .ok (.iload 5, 2) := by decide +kernel
theorem dX8_layOrder_46 : decode cX8_layOrder 46 = .ok (.irem, 1) := by decide +kernel
theorem dX8_layOrder_47 : decode cX8_layOrder 47 = .ok (.istore_n 3, 1) := by decide +kernel
theorem dX8_layOrder_48 : decode cX8_layOrder 48 = .ok (.bipush (-9), 2) := by decide +kernel
theorem dX8_layOrder_50 : decode cX8_layOrder 50 = .ok (.istore 7, 2) := by decide +kernel
theorem dX8_layOrder_52 : decode cX8_layOrder 52 = .ok (.iconst 0, 1) := by decide +kernel
theorem dX8_layOrder_53 : decode cX8_layOrder 53 = .ok (.istore 8, 2) := by decide +kernel
theorem dX8_layOrder_55 : decode cX8_layOrder 55 = .ok (.iload 8, 2) := by decide +kernel
theorem dX8_layOrder_57 : decode cX8_layOrder 57 = .ok (.aload_n 0, 1) := by decide +kernel
theorem dX8_layOrder_58 : decode cX8_layOrder 58 = .ok (.getfield 83, 3) := by decide +kernel
theorem dX8_layOrder_61 : decode cX8_layOrder 61 = .ok (.if_icmp .ge 51, 3) := by decide +kernel
theorem dX8_layOrder_64 : decode cX8_layOrder 64 = .ok (.iload_n 2, 1) := by decide +kernel
theorem dX8_layOrder_65 : decode cX8_layOrder 65 = .ok (.iload 8, 2) := by decide +kernel
theorem dX8_layOrder_67 : decode cX8_layOrder 67 = .ok (.invokestatic 139, 3) := by decide +kernel
theorem dX8_layOrder_70 : decode cX8_layOrder 70 = .ok (.ifCond .eq 13, 3) := by decide +kernel
theorem dX8_layOrder_73 : decode cX8_layOrder 73 = .ok (.iload 6, 2) := by decide +kernel
theorem dX8_layOrder_75 : decode cX8_layOrder 75 = .ok (.ifCond .ne 8, 3) := by decide +kernel
theorem dX8_layOrder_78 : decode cX8_layOrder 78 = .ok (.iload 8, 2) := by decide +kernel
theorem dX8_layOrder_80 : decode cX8_layOrder 80 = .ok (.goto 5, 3) := by decide +kernel
theorem dX8_layOrder_83 : decode cX8_layOrder 83 = .ok (.iload 7, 2) := by decide +kernel
theorem dX8_layOrder_85 : decode cX8_layOrder 85 = .ok (.istore 7, 2) := by decide +kernel
theorem dX8_layOrder_87 : decode cX8_layOrder 87 = .ok (.iload 6, 2) := by decide +kernel
theorem dX8_layOrder_89 : decode cX8_layOrder 89 = .ok (.iload_n 2, 1) := by decide +kernel
theorem dX8_layOrder_90 : decode cX8_layOrder 90 = .ok (.iload 8, 2) := by decide +kernel
theorem dX8_layOrder_92 : decode cX8_layOrder 92 = .ok (.invokestatic 139, 3) := by decide +kernel
theorem dX8_layOrder_95 : decode cX8_layOrder 95 = .ok (.ifCond .eq 7, 3) := by decide +kernel
theorem dX8_layOrder_98 : decode cX8_layOrder 98 = .ok (.iconst 1, 1) := by decide +kernel
theorem dX8_layOrder_99 : decode cX8_layOrder 99 = .ok (.goto 4, 3) := by decide +kernel
theorem dX8_layOrder_102 : decode cX8_layOrder 102 = .ok (.iconst 0, 1) := by decide +kernel
theorem dX8_layOrder_103 : decode cX8_layOrder 103 = .ok (.isub, 1) := by decide +kernel
theorem dX8_layOrder_104 : decode cX8_layOrder 104 = .ok (.istore 6, 2) := by decide +kernel
theorem dX8_layOrder_106 : decode cX8_layOrder 106 = .ok (.iinc 8 1, 3) := by decide +kernel
theorem dX8_layOrder_109 : decode cX8_layOrder 109 = .ok (.goto (-54), 3) := by decide +kernel
theorem dX8_layOrder_112 : decode cX8_layOrder 112 = .ok (.iload_n 2, 1) := by decide +kernel
theorem dX8_layOrder_113 : decode cX8_layOrder 113 = .ok (.iconst 1, 1) := by decide +kernel
theorem dX8_layOrder_114 : decode cX8_layOrder 114 = .ok (.iload 7, 2) := by decide +kernel
theorem dX8_layOrder_116 : decode cX8_layOrder 116 = .ok (.ishl, 1) := by decide +kernel
theorem dX8_layOrder_117 : decode cX8_layOrder 117 = .ok (.iconst (-1), 1) := by decide +kernel
theorem dX8_layOrder_118 : decode cX8_layOrder 118 = .ok (.ixor, 1) := by decide +kernel
theorem dX8_layOrder_119 : decode cX8_layOrder 119 = .ok (.iand, 1) := by decide +kernel
theorem dX8_layOrder_120 : decode cX8_layOrder 120 = .ok (.istore_n 2, 1) := by decide +kernel
theorem dX8_layOrder_121 : decode cX8_layOrder 121 = .ok (.aload_n 0, 1) := by decide +kernel
theorem dX8_layOrder_122 : decode cX8_layOrder 122 = .ok (.getfield 16, 3) := by decide +kernel
theorem dX8_layOrder_125 : decode cX8_layOrder 125 = .ok (.bipush 54, 2) := by decide +kernel
theorem dX8_layOrder_127 : decode cX8_layOrder 127 = .ok (.iload 4, 2) := by decide +kernel
theorem dX8_layOrder_129 : decode cX8_layOrder 129 = .ok (.iadd, 1) := by decide +kernel
theorem dX8_layOrder_130 : decode cX8_layOrder 130 = .ok (.iload 7, 2) := by decide +kernel
theorem dX8_layOrder_132 : decode cX8_layOrder 132 = .ok (.iastore, 1) := by decide +kernel
theorem dX8_layOrder_133 : decode cX8_layOrder 133 = .ok (.iinc 4 1, 3) := by decide +kernel
theorem dX8_layOrder_136 : decode cX8_layOrder 136 = .ok (.goto (-122), 3) := by decide +kernel
theorem dX8_layOrder_139 : decode cX8_layOrder 139 = .ok (.return_, 1) := by decide +kernel
theorem dX8_first_0 : decode cX8_first 0 = .ok (.aload_n 0, 1) := by decide +kernel
theorem dX8_first_1 : decode cX8_first 1 = .ok (.iload_n 1, 1) := by decide +kernel
theorem dX8_first_2 : decode cX8_first 2 = .ok (.invokevirtual 89, 3) := by decide +kernel
theorem dX8_first_5 : decode cX8_first 5 = .ok (.ifCond .eq 11, 3) := by decide +kernel
theorem dX8_first_8 : decode cX8_first 8 = .ok (.aload_n 0, 1) := by decide +kernel
theorem dX8_first_9 : decode cX8_first 9 = .ok (.iload_n 2, 1) := by decide +kernel
theorem dX8_first_10 : decode cX8_first 10 = .ok (.invokevirtual 89, 3) := by decide +kernel
theorem dX8_first_13 : decode cX8_first 13 = .ok (.ifCond .ne 5, 3) := by decide +kernel
theorem dX8_first_16 : decode cX8_first 16 = .ok (.iconst (-1), 1) := by decide +kernel
theorem dX8_first_17 : decode cX8_first 17 = .ok (.ireturn, 1) := by decide +kernel
theorem dX8_first_18 : decode cX8_first 18 = .ok (.iload_n 1, 1) := by decide +kernel
theorem dX8_first_19 : decode cX8_first 19 = .ok (.iload_n 2, 1) := by decide +kernel
theorem dX8_first_20 : decode cX8_first 20 = .ok (.if_icmp .ne 6, 3) := by decide +kernel
theorem dX8_first_23 : decode cX8_first 23 = .ok (.bipush (-2), 2) := by decide +kernel
theorem dX8_first_25 : decode cX8_first 25 = .ok (.ireturn, 1) := by decide +kernel
theorem dX8_first_26 : decode cX8_first 26 = .ok (.iconst 0, 1) := by decide +kernel
theorem dX8_first_27 : decode cX8_first 27 = .ok (.istore_n 3, 1) := by decide +kernel
theorem dX8_first_28 : decode cX8_first 28 = .ok (.iload_n 3, 1) := by decide +kernel
theorem dX8_first_29 : decode cX8_first 29 = .ok (.aload_n 0, 1) := by decide +kernel
theorem dX8_first_30 : decode cX8_first 30 = .ok (.getfield 83, 3) := by decide +kernel
theorem dX8_first_33 : decode cX8_first 33 = .ok (.invokestatic 136, 3) := by decide +kernel
theorem dX8_first_36 : decode cX8_first 36 = .ok (.if_icmp .ge 41, 3) := by decide +kernel
theorem dX8_first_39 : decode cX8_first 39 = .ok (.aload_n 0, 1) := by decide +kernel
theorem dX8_first_40 : decode cX8_first 40 = .ok (.invokevirtual 126, 3) := by decide +kernel
theorem dX8_first_43 : decode cX8_first 43 = .ok (.aload_n 0, 1) := by decide +kernel
theorem dX8_first_44 : decode cX8_first 44 = .ok (.iload_n 3, 1) := by decide +kernel
theorem dX8_first_45 : decode cX8_first 45 = .ok (.invokevirtual 143, 3) := by decide +kernel
theorem dX8_first_48 : decode cX8_first 48 = .ok (.aload_n 0, 1) := by decide +kernel
theorem dX8_first_49 : decode cX8_first 49 = .ok (.iconst 1, 1) := by decide +kernel
theorem dX8_first_50 : decode cX8_first 50 = .ok (.aload_n 0, 1) := by decide +kernel
theorem dX8_first_51 : decode cX8_first 51 = .ok (.getfield 83, 3) := by decide +kernel
theorem dX8_first_54 : decode cX8_first 54 = .ok (.invokevirtual 121, 3) := by decide +kernel
theorem dX8_first_57 : decode cX8_first 57 = .ok (.istore 4, 2) := by decide +kernel
theorem dX8_first_59 : decode cX8_first 59 = .ok (.aload_n 0, 1) := by decide +kernel
theorem dX8_first_60 : decode cX8_first 60 = .ok (.iload_n 1, 1) := by decide +kernel
theorem dX8_first_61 : decode cX8_first 61 = .ok (.iload_n 2, 1) := by decide +kernel
theorem dX8_first_62 : decode cX8_first 62 = .ok (.invokevirtual 146, 3) := by decide +kernel
theorem dX8_first_65 : decode cX8_first 65 = .ok (.ifCond .eq 6, 3) := by decide +kernel
theorem dX8_first_68 : decode cX8_first 68 = .ok (.iload 4, 2) := by decide +kernel
theorem dX8_first_70 : decode cX8_first 70 = .ok (.ireturn, 1) := by decide +kernel
theorem dX8_first_71 : decode cX8_first 71 = .ok (.iinc 3 1, 3) := by decide +kernel
theorem dX8_first_74 : decode cX8_first 74 = .ok (.goto (-46), 3) := by decide +kernel
theorem dX8_first_77 : decode cX8_first 77 = .ok (.bipush (-9), 2) := by decide +kernel
theorem dX8_first_79 : decode cX8_first 79 = .ok (.ireturn, 1) := by decide +kernel
theorem dX8_giveTrial_0 : decode cX8_giveTrial 0 = .ok (.aload_n 0, 1) := by decide +kernel
theorem dX8_giveTrial_1 : decode cX8_giveTrial 1 = .ok (.iload_n 1, 1) := by decide +kernel
theorem dX8_giveTrial_2 : decode cX8_giveTrial 2 = .ok (.invokevirtual 89, 3) := by decide +kernel
theorem dX8_giveTrial_5 : decode cX8_giveTrial 5 = .ok (.ifCond .eq 38, 3) := by decide +kernel
theorem dX8_giveTrial_8 : decode cX8_giveTrial 8 = .ok (.aload_n 0, 1) := by decide +kernel
theorem dX8_giveTrial_9 : decode cX8_giveTrial 9 = .ok (.iload_n 2, 1) := by decide +kernel
theorem dX8_giveTrial_10 : decode cX8_giveTrial 10 = .ok (.invokevirtual 97, 3) := by decide +kernel
theorem dX8_giveTrial_13 : decode cX8_giveTrial 13 = .ok (.ifCond .eq 30, 3) := by decide +kernel
theorem dX8_giveTrial_16 : decode cX8_giveTrial 16 = .ok (.aload_n 0, 1) := by decide +kernel
theorem dX8_giveTrial_17 : decode cX8_giveTrial 17 = .ok (.getfield 16, 3) := by decide +kernel
theorem dX8_giveTrial_20 : decode cX8_giveTrial 20 = .ok (.bipush 71, 2) := by decide +kernel
theorem dX8_giveTrial_22 : decode cX8_giveTrial 22 = .ok (.iload_n 1, 1) := by decide +kernel
theorem dX8_giveTrial_23 : decode cX8_giveTrial 23 = .ok (.iadd, 1) := by decide +kernel
theorem dX8_giveTrial_24 : decode cX8_giveTrial 24 = .ok (.iaload, 1) := by decide +kernel
theorem dX8_giveTrial_25 : decode cX8_giveTrial 25 = .ok (.ifCond .le 18, 3) := by decide +kernel
theorem dX8_giveTrial_28 : decode cX8_giveTrial 28 = .ok (.iload_n 2, 1) := by decide +kernel
theorem dX8_giveTrial_29 : decode cX8_giveTrial 29 = .ok (.aload_n 0, 1) := by decide +kernel
theorem dX8_giveTrial_30 : decode cX8_giveTrial 30 = .ok (.getfield 16, 3) := by decide +kernel
theorem dX8_giveTrial_33 : decode cX8_giveTrial 33 = .ok (.bipush 53, 2) := by decide +kernel
theorem dX8_giveTrial_35 : decode cX8_giveTrial 35 = .ok (.iaload, 1) := by decide +kernel
theorem dX8_giveTrial_36 : decode cX8_giveTrial 36 = .ok (.if_icmp .lt 7, 3) := by decide +kernel
theorem dX8_giveTrial_39 : decode cX8_giveTrial 39 = .ok (.iconst 1, 1) := by decide +kernel
theorem dX8_giveTrial_40 : decode cX8_giveTrial 40 = .ok (.goto 4, 3) := by decide +kernel
theorem dX8_giveTrial_43 : decode cX8_giveTrial 43 = .ok (.iconst 0, 1) := by decide +kernel
theorem dX8_giveTrial_44 : decode cX8_giveTrial 44 = .ok (.istore_n 3, 1) := by decide +kernel
theorem dX8_giveTrial_45 : decode cX8_giveTrial 45 = .ok (.iload_n 3, 1) := by decide +kernel
theorem dX8_giveTrial_46 : decode cX8_giveTrial 46 = .ok (.ifCond .eq 34, 3) := by decide +kernel
theorem dX8_giveTrial_49 : decode cX8_giveTrial 49 = .ok (.aload_n 0, 1) := by decide +kernel
theorem dX8_giveTrial_50 : decode cX8_giveTrial 50 = .ok (.getfield 16, 3) := by decide +kernel
theorem dX8_giveTrial_53 : decode cX8_giveTrial 53 = .ok (.bipush 71, 2) := by decide +kernel
theorem dX8_giveTrial_55 : decode cX8_giveTrial 55 = .ok (.iload_n 1, 1) := by decide +kernel
theorem dX8_giveTrial_56 : decode cX8_giveTrial 56 = .ok (.iadd, 1) := by decide +kernel
theorem dX8_giveTrial_57 : decode cX8_giveTrial 57 = .ok (.dup2, 1) := by decide +kernel
theorem dX8_giveTrial_58 : decode cX8_giveTrial 58 = .ok (.iaload, 1) := by decide +kernel
theorem dX8_giveTrial_59 : decode cX8_giveTrial 59 = .ok (.iconst 1, 1) := by decide +kernel
theorem dX8_giveTrial_60 : decode cX8_giveTrial 60 = .ok (.isub, 1) := by decide +kernel
theorem dX8_giveTrial_61 : decode cX8_giveTrial 61 = .ok (.iastore, 1) := by decide +kernel
theorem dX8_giveTrial_62 : decode cX8_giveTrial 62 = .ok (.aload_n 0, 1) := by decide +kernel
theorem dX8_giveTrial_63 : decode cX8_giveTrial 63 = .ok (.getfield 16, 3) := by decide +kernel
theorem dX8_giveTrial_66 : decode cX8_giveTrial 66 = .ok (.bipush 77, 2) := by decide +kernel
theorem dX8_giveTrial_68 : decode cX8_giveTrial 68 = .ok (.bipush 6, 2) := by decide +kernel
theorem dX8_giveTrial_70 : decode cX8_giveTrial 70 = .ok (.iload_n 2, 1) := by decide +kernel
theorem dX8_giveTrial_71 : decode cX8_giveTrial 71 = .ok (.imul, 1) := by decide +kernel
theorem dX8_giveTrial_72 : decode cX8_giveTrial 72 = .ok (.iadd, 1) := by decide +kernel
theorem dX8_giveTrial_73 : decode cX8_giveTrial 73 = .ok (.iload_n 1, 1) := by decide +kernel
theorem dX8_giveTrial_74 : decode cX8_giveTrial 74 = .ok (.iadd, 1) := by decide +kernel
theorem dX8_giveTrial_75 : decode cX8_giveTrial 75 = .ok (.dup2, 1) := by decide +kernel
theorem dX8_giveTrial_76 : decode cX8_giveTrial 76 = .ok (.iaload, 1) := by decide +kernel
theorem dX8_giveTrial_77 : decode cX8_giveTrial 77 = .ok (.iconst 1, 1) := by decide +kernel
theorem dX8_giveTrial_78 : decode cX8_giveTrial 78 = .ok (.iadd, 1) := by decide +kernel
theorem dX8_giveTrial_79 : decode cX8_giveTrial 79 = .ok (.iastore, 1) := by decide +kernel
theorem dX8_giveTrial_80 : decode cX8_giveTrial 80 = .ok (.iload_n 3, 1) := by decide +kernel
theorem dX8_giveTrial_81 : decode cX8_giveTrial 81 = .ok (.ireturn, 1) := by decide +kernel
theorem dX8_tea_0 : decode cX8_tea 0 = .ok (.aload_n 0, 1) := by decide +kernel
theorem dX8_tea_1 : decode cX8_tea 1 = .ok (.iload_n 1, 1) := by decide +kernel
theorem dX8_tea_2 : decode cX8_tea 2 = .ok (.invokevirtual 89, 3) := by decide +kernel
theorem dX8_tea_5 : decode cX8_tea 5 = .ok (.ifCond .eq 11, 3) := by decide +kernel
theorem dX8_tea_8 : decode cX8_tea 8 = .ok (.aload_n 0, 1) := by decide +kernel
theorem dX8_tea_9 : decode cX8_tea 9 = .ok (.iload_n 2, 1) := by decide +kernel
theorem dX8_tea_10 : decode cX8_tea 10 = .ok (.invokevirtual 89, 3) := by decide +kernel
theorem dX8_tea_13 : decode cX8_tea 13 = .ok (.ifCond .ne 5, 3) := by decide +kernel
theorem dX8_tea_16 : decode cX8_tea 16 = .ok (.iconst (-1), 1) := by decide +kernel
theorem dX8_tea_17 : decode cX8_tea 17 = .ok (.ireturn, 1) := by decide +kernel
theorem dX8_tea_18 : decode cX8_tea 18 = .ok (.iload_n 1, 1) := by decide +kernel
theorem dX8_tea_19 : decode cX8_tea 19 = .ok (.iload_n 2, 1) := by decide +kernel
theorem dX8_tea_20 : decode cX8_tea 20 = .ok (.if_icmp .ne 6, 3) := by decide +kernel
theorem dX8_tea_23 : decode cX8_tea 23 = .ok (.bipush (-2), 2) := by decide +kernel
theorem dX8_tea_25 : decode cX8_tea 25 = .ok (.ireturn, 1) := by decide +kernel
theorem dX8_tea_26 : decode cX8_tea 26 = .ok (.aload_n 0, 1) := by decide +kernel
theorem dX8_tea_27 : decode cX8_tea 27 = .ok (.invokevirtual 126, 3) := by decide +kernel
theorem dX8_tea_30 : decode cX8_tea 30 = .ok (.aload_n 0, 1) := by decide +kernel
theorem dX8_tea_31 : decode cX8_tea 31 = .ok (.iload_n 1, 1) := by decide +kernel
theorem dX8_tea_32 : decode cX8_tea 32 = .ok (.iload_n 2, 1) := by decide +kernel
theorem dX8_tea_33 : decode cX8_tea 33 = .ok (.invokevirtual 146, 3) := by decide +kernel
theorem dX8_tea_36 : decode cX8_tea 36 = .ok (.ifCond .eq 13, 3) := by decide +kernel
theorem dX8_tea_39 : decode cX8_tea 39 = .ok (.iload_n 3, 1) := by decide +kernel
theorem dX8_tea_40 : decode cX8_tea 40 = .ok (.ifCond .eq 7, 3) := by decide +kernel
theorem dX8_tea_43 : decode cX8_tea 43 = .ok (.iconst 1, 1) := by decide +kernel
theorem dX8_tea_44 : decode cX8_tea 44 = .ok (.goto 4, 3) := by decide +kernel
theorem dX8_tea_47 : decode cX8_tea 47 = .ok (.iconst 0, 1) := by decide +kernel
theorem dX8_tea_48 : decode cX8_tea 48 = .ok (.ireturn, 1) := by decide +kernel
theorem dX8_tea_49 : decode cX8_tea 49 = .ok (.iconst 0, 1) := by decide +kernel
theorem dX8_tea_50 : decode cX8_tea 50 = .ok (.istore 4, 2) := by decide +kernel
theorem dX8_tea_52 : decode cX8_tea 52 = .ok (.iload 4, 2) := by decide +kernel
theorem dX8_tea_54 : decode cX8_tea 54 = .ok (.bipush 100, 2) := by decide +kernel
theorem dX8_tea_56 : decode cX8_tea 56 = .ok (.if_icmp .ge 53, 3) := by decide +kernel
theorem dX8_tea_59 : decode cX8_tea 59 = .ok (.aload_n 0, 1) := by decide +kernel
theorem dX8_tea_60 : decode cX8_tea 60 = .ok (.invokevirtual 126, 3) := by decide +kernel
theorem dX8_tea_63 : decode cX8_tea 63 = .ok (.aload_n 0, 1) := by decide +kernel
theorem dX8_tea_64 : decode cX8_tea 64 = .ok (.iload 4, 2) := by decide +kernel
theorem dX8_tea_66 : decode cX8_tea 66 = .ok (.bipush 10, 2) := by decide +kernel
theorem dX8_tea_68 : decode cX8_tea 68 = .ok (.idiv, 1) := by decide +kernel
theorem dX8_tea_69 : decode cX8_tea 69 = .ok (.iload 4, 2) := by decide +kernel
theorem dX8_tea_71 : decode cX8_tea 71 = .ok (.bipush 10, 2) := by decide +kernel
theorem dX8_tea_73 : decode cX8_tea 73 = .ok (.irem, 1) := by decide +kernel
theorem dX8_tea_74 : decode cX8_tea 74 = .ok (.invokevirtual 149, 3) := by decide +kernel
theorem dX8_tea_77 : decode cX8_tea 77 = .ok (.ifCond .eq 26, 3) := by decide +kernel
theorem dX8_tea_80 : decode cX8_tea 80 = .ok (.aload_n 0, 1) := by decide +kernel
theorem dX8_tea_81 : decode cX8_tea 81 = .ok (.iload_n 1, 1) := by decide +kernel
theorem dX8_tea_82 : decode cX8_tea 82 = .ok (.iload_n 2, 1) := by decide +kernel
theorem dX8_tea_83 : decode cX8_tea 83 = .ok (.invokevirtual 146, 3) := by decide +kernel
theorem dX8_tea_86 : decode cX8_tea 86 = .ok (.ifCond .eq 17, 3) := by decide +kernel
theorem dX8_tea_89 : decode cX8_tea 89 = .ok (.iload_n 3, 1) := by decide +kernel
theorem dX8_tea_90 : decode cX8_tea 90 = .ok (.ifCond .eq 11, 3) := by decide +kernel
theorem dX8_tea_93 : decode cX8_tea 93 = .ok (.bipush 100, 2) := by decide +kernel
theorem dX8_tea_95 : decode cX8_tea 95 = .ok (.iload 4, 2) := by decide +kernel
theorem dX8_tea_97 : decode cX8_tea 97 = .ok (.iadd, 1) := by decide +kernel
theorem dX8_tea_98 : decode cX8_tea 98 = .ok (.goto 4, 3) := by decide +kernel
theorem dX8_tea_101 : decode cX8_tea 101 = .ok (.iconst 1, 1) := by decide +kernel
theorem dX8_tea_102 : decode cX8_tea 102 = .ok (.ireturn, 1) := by decide +kernel
theorem dX8_tea_103 : decode cX8_tea 103 = .ok (.iinc 4 1, 3) := by decide +kernel
theorem dX8_tea_106 : decode cX8_tea 106 = .ok (.goto (-54), 3) := by decide +kernel
theorem dX8_tea_109 : decode cX8_tea 109 = .ok (.iconst 0, 1) := by decide +kernel
theorem dX8_tea_110 : decode cX8_tea 110 = .ok (.istore 4, 2) := by decide +kernel
theorem dX8_tea_112 : decode cX8_tea 112 = .ok (.iload 4, 2) := by decide +kernel
theorem dX8_tea_114 : decode cX8_tea 114 = .ok (.sipush 10000, 3) := by decide +kernel
theorem dX8_tea_117 : decode cX8_tea 117 = .ok (.if_icmp .ge 78, 3) := by decide +kernel
theorem dX8_tea_120 : decode cX8_tea 120 = .ok (.aload_n 0, 1) := by decide +kernel
theorem dX8_tea_121 : decode cX8_tea 121 = .ok (.invokevirtual 126, 3) := by decide +kernel
theorem dX8_tea_124 : decode cX8_tea 124 = .ok (.aload_n 0, 1) := by decide +kernel
theorem dX8_tea_125 : decode cX8_tea 125 = .ok (.iload 4, 2) := by decide +kernel
theorem dX8_tea_127 : decode cX8_tea 127 = .ok (.sipush 1000, 3) := by decide +kernel
theorem dX8_tea_130 : decode cX8_tea 130 = .ok (.idiv, 1) := by decide +kernel
theorem dX8_tea_131 : decode cX8_tea 131 = .ok (.iload 4, 2) := by decide +kernel
theorem dX8_tea_133 : decode cX8_tea 133 = .ok (.bipush 100, 2) := by decide +kernel
theorem dX8_tea_135 : decode cX8_tea 135 = .ok (.idiv, 1) := by decide +kernel
theorem dX8_tea_136 : decode cX8_tea 136 = .ok (.bipush 10, 2) := by decide +kernel
theorem dX8_tea_138 : decode cX8_tea 138 = .ok (.irem, 1) := by decide +kernel
theorem dX8_tea_139 : decode cX8_tea 139 = .ok (.invokevirtual 149, 3) := by decide +kernel
theorem dX8_tea_142 : decode cX8_tea 142 = .ok (.ifCond .eq 47, 3) := by decide +kernel
theorem dX8_tea_145 : decode cX8_tea 145 = .ok (.aload_n 0, 1) := by decide +kernel
theorem dX8_tea_146 : decode cX8_tea 146 = .ok (.iload 4, 2) := by decide +kernel
theorem dX8_tea_148 : decode cX8_tea 148 = .ok (.bipush 10, 2) := by decide +kernel
theorem dX8_tea_150 : decode cX8_tea 150 = .ok (.idiv, 1) := by decide +kernel
theorem dX8_tea_151 : decode cX8_tea 151 = .ok (.bipush 10, 2) := by decide +kernel
theorem dX8_tea_153 : decode cX8_tea 153 = .ok (.irem, 1) := by decide +kernel
theorem dX8_tea_154 : decode cX8_tea 154 = .ok (.iload 4, 2) := by decide +kernel
theorem dX8_tea_156 : decode cX8_tea 156 = .ok (.bipush 10, 2) := by decide +kernel
theorem dX8_tea_158 : decode cX8_tea 158 = .ok (.irem, 1) := by decide +kernel
theorem dX8_tea_159 : decode cX8_tea 159 = .ok (.invokevirtual 149, 3) := by decide +kernel
theorem dX8_tea_162 : decode cX8_tea 162 = .ok (.ifCond .eq 27, 3) := by decide +kernel
theorem dX8_tea_165 : decode cX8_tea 165 = .ok (.aload_n 0, 1) := by decide +kernel
theorem dX8_tea_166 : decode cX8_tea 166 = .ok (.iload_n 1, 1) := by decide +kernel
theorem dX8_tea_167 : decode cX8_tea 167 = .ok (.iload_n 2, 1) := by decide +kernel
theorem dX8_tea_168 : decode cX8_tea 168 = .ok (.invokevirtual 146, 3) := by decide +kernel
theorem dX8_tea_171 : decode cX8_tea 171 = .ok (.ifCond .eq 18, 3) := by decide +kernel
theorem dX8_tea_174 : decode cX8_tea 174 = .ok (.iload_n 3, 1) := by decide +kernel
theorem dX8_tea_175 : decode cX8_tea 175 = .ok (.ifCond .eq 12, 3) := by decide +kernel
theorem dX8_tea_178 : decode cX8_tea 178 = .ok (.sipush 10000, 3) := by decide +kernel
theorem dX8_tea_181 : decode cX8_tea 181 = .ok (.iload 4, 2) := by decide +kernel
theorem dX8_tea_183 : decode cX8_tea 183 = .ok (.iadd, 1) := by decide +kernel
theorem dX8_tea_184 : decode cX8_tea 184 = .ok (.goto 4, 3) := by decide +kernel
theorem dX8_tea_187 : decode cX8_tea 187 = .ok (.iconst 2, 1) := by decide +kernel
theorem dX8_tea_188 : decode cX8_tea 188 = .ok (.ireturn, 1) := by decide +kernel
theorem dX8_tea_189 : decode cX8_tea 189 = .ok (.iinc 4 1, 3) := by decide +kernel
theorem dX8_tea_192 : decode cX8_tea 192 = .ok (.goto (-80), 3) := by decide +kernel
theorem dX8_tea_195 : decode cX8_tea 195 = .ok (.bipush (-9), 2) := by decide +kernel
theorem dX8_tea_197 : decode cX8_tea 197 = .ok (.ireturn, 1) := by decide +kernel
theorem dX8_tenTo_0 : decode cX8_tenTo 0 = .ok (.iconst 1, 1) := by decide +kernel
theorem dX8_tenTo_1 : decode cX8_tenTo 1 = .ok (.istore_n 1, 1) := by decide +kernel
theorem dX8_tenTo_2 : decode cX8_tenTo 2 = .ok (.iconst 0, 1) := by decide +kernel
theorem dX8_tenTo_3 : decode cX8_tenTo 3 = .ok (.istore_n 2, 1) := by decide +kernel
theorem dX8_tenTo_4 : decode cX8_tenTo 4 = .ok (.iload_n 2, 1) := by decide +kernel
theorem dX8_tenTo_5 : decode cX8_tenTo 5 = .ok (.iload_n 0, 1) := by decide +kernel
theorem dX8_tenTo_6 : decode cX8_tenTo 6 = .ok (.if_icmp .ge 14, 3) := by decide +kernel
theorem dX8_tenTo_9 : decode cX8_tenTo 9 = .ok (.iload_n 1, 1) := by decide +kernel
theorem dX8_tenTo_10 : decode cX8_tenTo 10 = .ok (.bipush 10, 2) := by decide +kernel
theorem dX8_tenTo_12 : decode cX8_tenTo 12 = .ok (.imul, 1) := by decide +kernel
theorem dX8_tenTo_13 : decode cX8_tenTo 13 = .ok (.istore_n 1, 1) := by decide +kernel
theorem dX8_tenTo_14 : decode cX8_tenTo 14 = .ok (.iinc 2 1, 3) := by decide +kernel
theorem dX8_tenTo_17 : decode cX8_tenTo 17 = .ok (.goto (-13), 3) := by decide +kernel
theorem dX8_tenTo_20 : decode cX8_tenTo 20 = .ok (.iload_n 1, 1) := by decide +kernel
theorem dX8_tenTo_21 : decode cX8_tenTo 21 = .ok (.ireturn, 1) := by decide +kernel
theorem dX8_judge_0 : decode cX8_judge 0 = .ok (.iload_n 1, 1) := by decide +kernel
theorem dX8_judge_1 : decode cX8_judge 1 = .ok (.i2l, 1) := by decide +kernel
theorem dX8_judge_2 : decode cX8_judge 2 = .ok (.lconst 1, 1) := by decide +kernel
theorem dX8_judge_3 : decode cX8_judge 3 = .ok (.ldc2_w 152, 3) := by decide +kernel
theorem dX8_judge_6 : decode cX8_judge 6 = .ok (.invokestatic 56, 3) := by decide +kernel
theorem dX8_judge_9 : decode cX8_judge 9 = .ok (.ifCond .eq 19, 3) := by decide +kernel
theorem dX8_judge_12 : decode cX8_judge 12 = .ok (.iload_n 2, 1) := by decide +kernel
theorem dX8_judge_13 : decode cX8_judge 13 = .ok (.i2l, 1) := by decide +kernel
theorem dX8_judge_14 : decode cX8_judge 14 = .ok (.lconst 0, 1) := by decide +kernel
theorem dX8_judge_15 : decode cX8_judge 15 = .ok (.iload_n 1, 1) := by decide +kernel
theorem dX8_judge_16 : decode cX8_judge 16 = .ok (.invokestatic 154, 3) := by decide +kernel
theorem dX8_judge_19 : decode cX8_judge 19 = .ok (.iconst 1, 1) := by decide +kernel
theorem dX8_judge_20 : decode cX8_judge 20 = .ok (.isub, 1) := by decide +kernel
theorem dX8_judge_21 : decode cX8_judge 21 = .ok (.i2l, 1) := by decide +kernel
theorem dX8_judge_22 : decode cX8_judge 22 = .ok (.invokestatic 56, 3) := by decide +kernel
theorem dX8_judge_25 : decode cX8_judge 25 = .ok (.ifCond .ne 6, 3) := by decide +kernel
theorem dX8_judge_28 : decode cX8_judge 28 = .ok (.bipush (-2), 2) := by decide +kernel
theorem dX8_judge_30 : decode cX8_judge 30 = .ok (.ireturn, 1) := by decide +kernel
theorem dX8_judge_31 : decode cX8_judge 31 = .ok (.aload_n 0, 1) := by decide +kernel
theorem dX8_judge_32 : decode cX8_judge 32 = .ok (.invokevirtual 133, 3) := by decide +kernel
theorem dX8_judge_35 : decode cX8_judge 35 = .ok (.iconst 0, 1) := by decide +kernel
theorem dX8_judge_36 : decode cX8_judge 36 = .ok (.istore_n 3, 1) := by decide +kernel
theorem dX8_judge_37 : decode cX8_judge 37 = .ok (.iload_n 3, 1) := by decide +kernel
theorem dX8_judge_38 : decode cX8_judge 38 = .ok (.iload_n 1, 1) := by decide +kernel
theorem dX8_judge_39 : decode cX8_judge 39 = .ok (.if_icmp .ge 59, 3) := by decide +kernel
theorem dX8_judge_42 : decode cX8_judge 42 = .ok (.iload_n 2, 1) := by decide +kernel
theorem dX8_judge_43 : decode cX8_judge 43 = .ok (.iload_n 1, 1) := by decide +kernel
theorem dX8_judge_44 : decode cX8_judge 44 = .ok (.iconst 1, 1) := by decide +kernel
theorem dX8_judge_45 : decode cX8_judge 45 = .ok (.isub, 1) := by decide +kernel
theorem dX8_judge_46 : decode cX8_judge 46 = .ok (.iload_n 3, 1) := by decide +kernel
theorem dX8_judge_47 : decode cX8_judge 47 = .ok (.isub, 1) := by decide +kernel
theorem dX8_judge_48 : decode cX8_judge 48 = .ok (.invokestatic 154, 3) := by decide +kernel
theorem dX8_judge_51 : decode cX8_judge 51 = .ok (.idiv, 1) := by decide +kernel
theorem dX8_judge_52 : decode cX8_judge 52 = .ok (.bipush 10, 2) := by decide +kernel
theorem dX8_judge_54 : decode cX8_judge 54 = .ok (.irem, 1) := by decide +kernel
theorem dX8_judge_55 : decode cX8_judge 55 = .ok (.iconst 1, 1) := by decide +kernel
theorem dX8_judge_56 : decode cX8_judge 56 = .ok (.isub, 1) := by decide +kernel
theorem dX8_judge_57 : decode cX8_judge 57 = .ok (.istore 4, 2) := by decide +kernel
theorem dX8_judge_59 : decode cX8_judge 59 = .ok (.aload_n 0, 1) := by decide +kernel
theorem dX8_judge_60 : decode cX8_judge 60 = .ok (.iload 4, 2) := by decide +kernel
theorem dX8_judge_62 : decode cX8_judge 62 = .ok (.invokevirtual 89, 3) := by decide +kernel
theorem dX8_judge_65 : decode cX8_judge 65 = .ok (.ifCond .eq 25, 3) := by decide +kernel
theorem dX8_judge_68 : decode cX8_judge 68 = .ok (.iload_n 3, 1) := by decide +kernel
theorem dX8_judge_69 : decode cX8_judge 69 = .ok (.aload_n 0, 1) := by decide +kernel
theorem dX8_judge_70 : decode cX8_judge 70 = .ok (.getfield 83, 3) := by decide +kernel
theorem dX8_judge_73 : decode cX8_judge 73 = .ok (.if_icmp .ge 17, 3) := by decide +kernel
theorem dX8_judge_76 : decode cX8_judge 76 = .ok (.aload_n 0, 1) := by decide +kernel
theorem dX8_judge_77 : decode cX8_judge 77 = .ok (.getfield 16, 3) := by decide +kernel
theorem dX8_judge_80 : decode cX8_judge 80 = .ok (.bipush 54, 2) := by decide +kernel
theorem dX8_judge_82 : decode cX8_judge 82 = .ok (.iload_n 3, 1) := by decide +kernel
theorem dX8_judge_83 : decode cX8_judge 83 = .ok (.iadd, 1) := by decide +kernel
theorem dX8_judge_84 : decode cX8_judge 84 = .ok (.iaload, 1) := by decide +kernel
theorem dX8_judge_85 : decode cX8_judge 85 = .ok (.iload 4, 2) := by decide +kernel
theorem dX8_judge_87 : decode cX8_judge 87 = .ok (.if_icmp .eq 5, 3) := by decide +kernel
theorem dX8_judge_90 : decode cX8_judge 90 = .ok (.iload_n 3, 1) := by decide +kernel
theorem dX8_judge_91 : decode cX8_judge 91 = .ok (.ireturn, 1) := by decide +kernel
theorem dX8_judge_92 : decode cX8_judge 92 = .ok (.iinc 3 1, 3) := by decide +kernel
theorem dX8_judge_95 : decode cX8_judge 95 = .ok (.goto (-58), 3) := by decide +kernel
theorem dX8_judge_98 : decode cX8_judge 98 = .ok (.bipush (-9), 2) := by decide +kernel
theorem dX8_judge_100 : decode cX8_judge 100 = .ok (.ireturn, 1) := by decide +kernel
theorem dX8_greatest_0 : decode cX8_greatest 0 = .ok (.iconst 0, 1) := by decide +kernel
theorem dX8_greatest_1 : decode cX8_greatest 1 = .ok (.istore_n 3, 1) := by decide +kernel
theorem dX8_greatest_2 : decode cX8_greatest 2 = .ok (.iconst 0, 1) := by decide +kernel
theorem dX8_greatest_3 : decode cX8_greatest 3 = .ok (.istore 4, 2) := by decide +kernel
theorem dX8_greatest_5 : decode cX8_greatest 5 = .ok (.iload 4, 2) := by decide +kernel
theorem dX8_greatest_7 : decode cX8_greatest 7 = .ok (.iload_n 2, 1) := by decide +kernel
theorem dX8_greatest_8 : decode cX8_greatest 8 = .ok (.if_icmp .ge 39, 3) := by decide +kernel
theorem dX8_greatest_11 : decode cX8_greatest 11 = .ok (.iload_n 3, 1) := by decide +kernel
theorem dX8_greatest_12 : decode cX8_greatest 12 = .ok (.aload_n 0, 1) := by decide +kernel
theorem dX8_greatest_13 : decode cX8_greatest 13 = .ok (.getfield 16, 3) := by decide +kernel
theorem dX8_greatest_16 : decode cX8_greatest 16 = .ok (.bipush 54, 2) := by decide +kernel
theorem dX8_greatest_18 : decode cX8_greatest 18 = .ok (.iload_n 1, 1) := by decide +kernel
theorem dX8_greatest_19 : decode cX8_greatest 19 = .ok (.imul, 1) := by decide +kernel
theorem dX8_greatest_20 : decode cX8_greatest 20 = .ok (.bipush 6, 2) := by decide +kernel
theorem dX8_greatest_22 : decode cX8_greatest 22 = .ok (.iadd, 1) := by decide +kernel
theorem dX8_greatest_23 : decode cX8_greatest 23 = .ok (.aload_n 0, 1) := by decide +kernel
theorem dX8_greatest_24 : decode cX8_greatest 24 = .ok (.getfield 16, 3) := by decide +kernel
theorem dX8_greatest_27 : decode cX8_greatest 27 = .ok (.bipush 54, 2) := by decide +kernel
theorem dX8_greatest_29 : decode cX8_greatest 29 = .ok (.iload_n 1, 1) := by decide +kernel
theorem dX8_greatest_30 : decode cX8_greatest 30 = .ok (.imul, 1) := by decide +kernel
theorem dX8_greatest_31 : decode cX8_greatest 31 = .ok (.iload 4, 2) := by decide +kernel
theorem dX8_greatest_33 : decode cX8_greatest 33 = .ok (.iadd, 1) := by decide +kernel
theorem dX8_greatest_34 : decode cX8_greatest 34 = .ok (.iaload, 1) := by decide +kernel
theorem dX8_greatest_35 : decode cX8_greatest 35 = .ok (.iadd, 1) := by decide +kernel
theorem dX8_greatest_36 : decode cX8_greatest 36 = .ok (.iaload, 1) := by decide +kernel
theorem dX8_greatest_37 : decode cX8_greatest 37 = .ok (.invokestatic 104, 3) := by decide +kernel
theorem dX8_greatest_40 : decode cX8_greatest 40 = .ok (.istore_n 3, 1) := by decide +kernel
theorem dX8_greatest_41 : decode cX8_greatest 41 = .ok (.iinc 4 1, 3) := by decide +kernel
theorem dX8_greatest_44 : decode cX8_greatest 44 = .ok (.goto (-39), 3) := by decide +kernel
theorem dX8_greatest_47 : decode cX8_greatest 47 = .ok (.iload_n 3, 1) := by decide +kernel
theorem dX8_greatest_48 : decode cX8_greatest 48 = .ok (.ireturn, 1) := by decide +kernel
theorem dX8_hoursBy_0 : decode cX8_hoursBy 0 = .ok (.aload_n 0, 1) := by decide +kernel
theorem dX8_hoursBy_1 : decode cX8_hoursBy 1 = .ok (.invokevirtual 126, 3) := by decide +kernel
theorem dX8_hoursBy_4 : decode cX8_hoursBy 4 = .ok (.iconst 0, 1) := by decide +kernel
theorem dX8_hoursBy_5 : decode cX8_hoursBy 5 = .ok (.istore_n 2, 1) := by decide +kernel
theorem dX8_hoursBy_6 : decode cX8_hoursBy 6 = .ok (.iconst 0, 1) := by decide +kernel
theorem dX8_hoursBy_7 : decode cX8_hoursBy 7 = .ok (.istore_n 3, 1) := by decide +kernel
theorem dX8_hoursBy_8 : decode cX8_hoursBy 8 = .ok (.iload_n 3, 1) := by decide +kernel
theorem dX8_hoursBy_9 : decode cX8_hoursBy 9 = .ok (.aload_n 0, 1) := by decide +kernel
theorem dX8_hoursBy_10 : decode cX8_hoursBy 10 = .ok (.getfield 83, 3) := by decide +kernel
theorem dX8_hoursBy_13 : decode cX8_hoursBy 13 = .ok (.if_icmp .ge 50, 3) := by decide +kernel
theorem dX8_hoursBy_16 : decode cX8_hoursBy 16 = .ok (.iload_n 1, 1) := by decide +kernel
theorem dX8_hoursBy_17 : decode cX8_hoursBy 17 = .ok (.aload_n 0, 1) := by decide +kernel
theorem dX8_hoursBy_18 : decode cX8_hoursBy 18 = .ok (.getfield 16, 3) := by decide +kernel
theorem dX8_hoursBy_21 : decode cX8_hoursBy 21 = .ok (.iload_n 3, 1) := by decide +kernel
theorem dX8_hoursBy_22 : decode cX8_hoursBy 22 = .ok (.iaload, 1) := by decide +kernel
theorem dX8_hoursBy_23 : decode cX8_hoursBy 23 = .ok (.invokestatic 139, 3) := by decide +kernel
theorem dX8_hoursBy_26 : decode cX8_hoursBy 26 = .ok (.ifCond .eq 21, 3) := by decide +kernel
theorem dX8_hoursBy_29 : decode cX8_hoursBy 29 = .ok (.aload_n 0, 1) := by decide +kernel
theorem dX8_hoursBy_30 : decode cX8_hoursBy 30 = .ok (.getfield 16, 3) := by decide +kernel
theorem dX8_hoursBy_33 : decode cX8_hoursBy 33 = .ok (.bipush 54, 2) := by decide +kernel
theorem dX8_hoursBy_35 : decode cX8_hoursBy 35 = .ok (.iload_n 2, 1) := by decide +kernel
theorem dX8_hoursBy_36 : decode cX8_hoursBy 36 = .ok (.iadd, 1) := by decide +kernel
theorem dX8_hoursBy_37 : decode cX8_hoursBy 37 = .ok (.aload_n 0, 1) := by decide +kernel
theorem dX8_hoursBy_38 : decode cX8_hoursBy 38 = .ok (.getfield 16, 3) := by decide +kernel
theorem dX8_hoursBy_41 : decode cX8_hoursBy 41 = .ok (.iload_n 3, 1) := by decide +kernel
theorem dX8_hoursBy_42 : decode cX8_hoursBy 42 = .ok (.iaload, 1) := by decide +kernel
theorem dX8_hoursBy_43 : decode cX8_hoursBy 43 = .ok (.iastore, 1) := by decide +kernel
theorem dX8_hoursBy_44 : decode cX8_hoursBy 44 = .ok (.iinc 2 1, 3) := by decide +kernel
theorem dX8_hoursBy_47 : decode cX8_hoursBy 47 = .ok (.aload_n 0, 1) := by decide +kernel
theorem dX8_hoursBy_48 : decode cX8_hoursBy 48 = .ok (.getfield 16, 3) := by decide +kernel
theorem dX8_hoursBy_51 : decode cX8_hoursBy 51 = .ok (.bipush 60, 2) := by decide +kernel
theorem dX8_hoursBy_53 : decode cX8_hoursBy 53 = .ok (.iload_n 3, 1) := by decide +kernel
theorem dX8_hoursBy_54 : decode cX8_hoursBy 54 = .ok (.iadd, 1) := by decide +kernel
theorem dX8_hoursBy_55 : decode cX8_hoursBy 55 = .ok (.iconst 0, 1) := by decide +kernel
theorem dX8_hoursBy_56 : decode cX8_hoursBy 56 = .ok (.iastore, 1) := by decide +kernel
theorem dX8_hoursBy_57 : decode cX8_hoursBy 57 = .ok (.iinc 3 1, 3) := by decide +kernel
theorem dX8_hoursBy_60 : decode cX8_hoursBy 60 = .ok (.goto (-52), 3) := by decide +kernel
theorem dX8_hoursBy_63 : decode cX8_hoursBy 63 = .ok (.aload_n 0, 1) := by decide +kernel
theorem dX8_hoursBy_64 : decode cX8_hoursBy 64 = .ok (.iload_n 2, 1) := by decide +kernel
theorem dX8_hoursBy_65 : decode cX8_hoursBy 65 = .ok (.invokevirtual 129, 3) := by decide +kernel
theorem dX8_hoursBy_68 : decode cX8_hoursBy 68 = .ok (.aload_n 0, 1) := by decide +kernel
theorem dX8_hoursBy_69 : decode cX8_hoursBy 69 = .ok (.iconst 1, 1) := by decide +kernel
theorem dX8_hoursBy_70 : decode cX8_hoursBy 70 = .ok (.iload_n 2, 1) := by decide +kernel
theorem dX8_hoursBy_71 : decode cX8_hoursBy 71 = .ok (.invokevirtual 157, 3) := by decide +kernel
theorem dX8_hoursBy_74 : decode cX8_hoursBy 74 = .ok (.ireturn, 1) := by decide +kernel
theorem dX8_common_0 : decode cX8_common 0 = .ok (.iload_n 0, 1) := by decide +kernel
theorem dX8_common_1 : decode cX8_common 1 = .ok (.ifCond .ge 8, 3) := by decide +kernel
theorem dX8_common_4 : decode cX8_common 4 = .ok (.iload_n 0, 1) := by decide +kernel
theorem dX8_common_5 : decode cX8_common 5 = .ok (.ineg, 1) := by decide +kernel
theorem dX8_common_6 : decode cX8_common 6 = .ok (.goto 4, 3) := by decide +kernel
theorem dX8_common_9 : decode cX8_common 9 = .ok (.iload_n 0, 1) := by decide +kernel
theorem dX8_common_10 : decode cX8_common 10 = .ok (.istore_n 2, 1) := by decide +kernel
theorem dX8_common_11 : decode cX8_common 11 = .ok (.iload_n 1, 1) := by decide +kernel
theorem dX8_common_12 : decode cX8_common 12 = .ok (.istore_n 3, 1) := by decide +kernel
theorem dX8_common_13 : decode cX8_common 13 = .ok (.iload_n 3, 1) := by decide +kernel
theorem dX8_common_14 : decode cX8_common 14 = .ok (.ifCond .eq 16, 3) := by decide +kernel
theorem dX8_common_17 : decode cX8_common 17 = .ok (.iload_n 2, 1) := by decide +kernel
theorem dX8_common_18 : decode cX8_common 18 = .ok (.iload_n 3, 1) := by decide +kernel
theorem dX8_common_19 : decode cX8_common 19 = .ok (.irem, 1) := by decide +kernel
theorem dX8_common_20 : decode cX8_common 20 = .ok (.istore 4, 2) := by decide +kernel
theorem dX8_common_22 : decode cX8_common 22 = .ok (.iload_n 3, 1) := by decide +kernel
theorem dX8_common_23 : decode cX8_common 23 = .ok (.istore_n 2, 1) := by decide +kernel
theorem dX8_common_24 : decode cX8_common 24 = .ok (.iload 4, 2) := by decide +kernel
theorem dX8_common_26 : decode cX8_common 26 = .ok (.istore_n 3, 1) := by decide +kernel
theorem dX8_common_27 : decode cX8_common 27 = .ok (.goto (-14), 3) := by decide +kernel
theorem dX8_common_30 : decode cX8_common 30 = .ok (.iload_n 2, 1) := by decide +kernel
theorem dX8_common_31 : decode cX8_common 31 = .ok (.ireturn, 1) := by decide +kernel
theorem dX8_share_0 : decode cX8_share 0 = .ok (.aload_n 0, 1) := by decide +kernel
theorem dX8_share_1 : decode cX8_share 1 = .ok (.iload_n 1, 1) := by decide +kernel
theorem dX8_share_2 : decode cX8_share 2 = .ok (.invokevirtual 89, 3) := by decide +kernel
theorem dX8_share_5 : decode cX8_share 5 = .ok (.ifCond .ne 5, 3) := by decide +kernel
theorem dX8_share_8 : decode cX8_share 8 = .ok (.iconst (-1), 1) := by decide +kernel
theorem dX8_share_9 : decode cX8_share 9 = .ok (.ireturn, 1) := by decide +kernel
theorem dX8_share_10 : decode cX8_share 10 = .ok (.iconst 0, 1) := by decide +kernel
theorem dX8_share_11 : decode cX8_share 11 = .ok (.istore_n 3, 1) := by decide +kernel
theorem dX8_share_12 : decode cX8_share 12 = .ok (.iload_n 3, 1) := by decide +kernel
theorem dX8_share_13 : decode cX8_share 13 = .ok (.iconst 1, 1) := by decide +kernel
theorem dX8_share_14 : decode cX8_share 14 = .ok (.aload_n 0, 1) := by decide +kernel
theorem dX8_share_15 : decode cX8_share 15 = .ok (.getfield 83, 3) := by decide +kernel
theorem dX8_share_18 : decode cX8_share 18 = .ok (.ishl, 1) := by decide +kernel
theorem dX8_share_19 : decode cX8_share 19 = .ok (.if_icmp .ge 20, 3) := by decide +kernel
theorem dX8_share_22 : decode cX8_share 22 = .ok (.aload_n 0, 1) := by decide +kernel
theorem dX8_share_23 : decode cX8_share 23 = .ok (.getfield 34, 3) := by decide +kernel
theorem dX8_share_26 : decode cX8_share 26 = .ok (.iload_n 3, 1) := by decide +kernel
theorem dX8_share_27 : decode cX8_share 27 = .ok (.aload_n 0, 1) := by decide +kernel
theorem dX8_share_28 : decode cX8_share 28 = .ok (.iload_n 3, 1) := by decide +kernel
theorem dX8_share_29 : decode cX8_share 29 = .ok (.invokevirtual 160, 3) := by decide +kernel
theorem dX8_share_32 : decode cX8_share 32 = .ok (.iastore, 1) := by decide +kernel
theorem dX8_share_33 : decode cX8_share 33 = .ok (.iinc 3 1, 3) := by decide +kernel
theorem dX8_share_36 : decode cX8_share 36 = .ok (.goto (-24), 3) := by decide +kernel
theorem dX8_share_39 : decode cX8_share 39 = .ok (.iconst 0, 1) := by decide +kernel
theorem dX8_share_40 : decode cX8_share 40 = .ok (.istore_n 3, 1) := by decide +kernel
theorem dX8_share_41 : decode cX8_share 41 = .ok (.iconst 0, 1) := by decide +kernel
theorem dX8_share_42 : decode cX8_share 42 = .ok (.istore 4, 2) := by decide +kernel
theorem dX8_share_44 : decode cX8_share 44 = .ok (.iload 4, 2) := by decide +kernel
theorem dX8_share_46 : decode cX8_share 46 = .ok (.iconst 1, 1) := by decide +kernel
theorem dX8_share_47 : decode cX8_share 47 = .ok (.aload_n 0, 1) := by decide +kernel
theorem dX8_share_48 : decode cX8_share 48 = .ok (.getfield 83, 3) := by decide +kernel
theorem dX8_share_51 : decode cX8_share 51 = .ok (.ishl, 1) := by decide +kernel
theorem dX8_share_52 : decode cX8_share 52 = .ok (.if_icmp .ge 69, 3) := by decide +kernel
theorem dX8_share_55 : decode cX8_share 55 = .ok (.iload 4, 2) := by decide +kernel
theorem dX8_share_57 : decode cX8_share 57 = .ok (.iload_n 1, 1) := by decide +kernel
theorem dX8_share_58 : decode cX8_share 58 = .ok (.invokestatic 139, 3) := by decide +kernel
theorem dX8_share_61 : decode cX8_share 61 = .ok (.ifCond .ne 54, 3) := by decide +kernel
theorem dX8_share_64 : decode cX8_share 64 = .ok (.iload 4, 2) := by decide +kernel
theorem dX8_share_66 : decode cX8_share 66 = .ok (.invokestatic 163, 3) := by decide +kernel
theorem dX8_share_69 : decode cX8_share 69 = .ok (.invokestatic 136, 3) := by decide +kernel
theorem dX8_share_72 : decode cX8_share 72 = .ok (.aload_n 0, 1) := by decide +kernel
theorem dX8_share_73 : decode cX8_share 73 = .ok (.getfield 83, 3) := by decide +kernel
theorem dX8_share_76 : decode cX8_share 76 = .ok (.iconst 1, 1) := by decide +kernel
theorem dX8_share_77 : decode cX8_share 77 = .ok (.isub, 1) := by decide +kernel
theorem dX8_share_78 : decode cX8_share 78 = .ok (.iload 4, 2) := by decide +kernel
theorem dX8_share_80 : decode cX8_share 80 = .ok (.invokestatic 163, 3) := by decide +kernel
theorem dX8_share_83 : decode cX8_share 83 = .ok (.isub, 1) := by decide +kernel
theorem dX8_share_84 : decode cX8_share 84 = .ok (.invokestatic 136, 3) := by decide +kernel
theorem dX8_share_87 : decode cX8_share 87 = .ok (.imul, 1) := by decide +kernel
theorem dX8_share_88 : decode cX8_share 88 = .ok (.istore 5, 2) := by decide +kernel
theorem dX8_share_90 : decode cX8_share 90 = .ok (.iload_n 3, 1) := by decide +kernel
theorem dX8_share_91 : decode cX8_share 91 = .ok (.iload 5, 2) := by decide +kernel
theorem dX8_share_93 : decode cX8_share 93 = .ok (.aload_n 0, 1) := by decide +kernel
theorem dX8_share_94 : decode cX8_share 94 = .ok (.getfield 34, 3) := by decide +kernel
theorem dX8_share_97 : decode cX8_share 97 = .ok (.iload 4, 2) := by decide +kernel
theorem dX8_share_99 : decode cX8_share 99 = .ok (.iconst 1, 1) := by decide +kernel
theorem dX8_share_100 : decode cX8_share 100 = .ok (.iload_n 1, 1) := by decide +kernel
theorem dX8_share_101 : decode cX8_share 101 = .ok (.ishl, 1) := by decide +kernel
theorem dX8_share_102 : decode cX8_share 102 = .ok (.ior, 1) := by decide +kernel
theorem dX8_share_103 : decode cX8_share 103 = .ok (.iaload, 1) := by decide +kernel
theorem dX8_share_104 : decode cX8_share 104 = .ok (.aload_n 0, 1) := by decide +kernel
theorem dX8_share_105 : decode cX8_share 105 = .ok (.getfield 34, 3) := by decide +kernel
theorem dX8_share_108 : decode cX8_share 108 = .ok (.iload 4, 2) := by decide +kernel
theorem dX8_share_110 : decode cX8_share 110 = .ok (.iaload, 1) := by decide +kernel
theorem dX8_share_111 : decode cX8_share 111 = .ok (.isub, 1) := by decide +kernel
theorem dX8_share_112 : decode cX8_share 112 = .ok (.imul, 1) := by decide +kernel
theorem dX8_share_113 : decode cX8_share 113 = .ok (.iadd, 1) := by decide +kernel
theorem dX8_share_114 : decode cX8_share 114 = .ok (.istore_n 3, 1) := by decide +kernel
theorem dX8_share_115 : decode cX8_share 115 = .ok (.iinc 4 1, 3) := by decide +kernel
theorem dX8_share_118 : decode cX8_share 118 = .ok (.goto (-74), 3) := by decide +kernel
theorem dX8_share_121 : decode cX8_share 121 = .ok (.iload_n 3, 1) := by decide +kernel
theorem dX8_share_122 : decode cX8_share 122 = .ok (.aload_n 0, 1) := by decide +kernel
theorem dX8_share_123 : decode cX8_share 123 = .ok (.getfield 83, 3) := by decide +kernel
theorem dX8_share_126 : decode cX8_share 126 = .ok (.invokestatic 136, 3) := by decide +kernel
theorem dX8_share_129 : decode cX8_share 129 = .ok (.invokestatic 166, 3) := by decide +kernel
theorem dX8_share_132 : decode cX8_share 132 = .ok (.istore 4, 2) := by decide +kernel
theorem dX8_share_134 : decode cX8_share 134 = .ok (.iload_n 2, 1) := by decide +kernel
theorem dX8_share_135 : decode cX8_share 135 = .ok (.ifCond .eq 10, 3) := by decide +kernel
theorem dX8_share_138 : decode cX8_share 138 = .ok (.iload_n 3, 1) := by decide +kernel
theorem dX8_share_139 : decode cX8_share 139 = .ok (.iload 4, 2) := by decide +kernel
theorem dX8_share_141 : decode cX8_share 141 = .ok (.idiv, 1) := by decide +kernel
theorem dX8_share_142 : decode cX8_share 142 = .ok (.goto 13, 3) := by decide +kernel
theorem dX8_share_145 : decode cX8_share 145 = .ok (.aload_n 0, 1) := by decide +kernel
theorem dX8_share_146 : decode cX8_share 146 = .ok (.getfield 83, 3) := by decide +kernel
theorem dX8_share_149 : decode cX8_share 149 = .ok (.invokestatic 136, 3) := by decide +kernel
theorem dX8_share_152 : decode cX8_share 152 = .ok (.iload 4, 2) := by decide +kernel
theorem dX8_share_154 : decode cX8_share 154 = .ok (.idiv, 1) := by decide +kernel
theorem dX8_share_155 : decode cX8_share 155 = .ok (.ireturn, 1) := by decide +kernel
theorem dX8_isOrder_0 : decode cX8_isOrder 0 = .ok (.iconst 0, 1) := by decide +kernel
theorem dX8_isOrder_1 : decode cX8_isOrder 1 = .ok (.istore_n 2, 1) := by decide +kernel
theorem dX8_isOrder_2 : decode cX8_isOrder 2 = .ok (.iload_n 1, 1) := by decide +kernel
theorem dX8_isOrder_3 : decode cX8_isOrder 3 = .ok (.istore_n 3, 1) := by decide +kernel
theorem dX8_isOrder_4 : decode cX8_isOrder 4 = .ok (.iconst 0, 1) := by decide +kernel
theorem dX8_isOrder_5 : decode cX8_isOrder 5 = .ok (.istore 4, 2) := by decide +kernel
theorem dX8_isOrder_7 : decode cX8_isOrder 7 = .ok (.iload 4, 2) := by decide +kernel
theorem dX8_isOrder_9 : decode cX8_isOrder 9 = .ok (.aload_n 0, 1) := by decide +kernel
theorem dX8_isOrder_10 : decode cX8_isOrder 10 = .ok (.getfield 83, 3) := by decide +kernel
theorem dX8_isOrder_13 : decode cX8_isOrder 13 = .ok (.if_icmp .ge 53, 3) := by decide +kernel
theorem dX8_isOrder_16 : decode cX8_isOrder 16 = .ok (.iload_n 3, 1) := by decide +kernel
theorem dX8_isOrder_17 : decode cX8_isOrder 17 = .ok (.bipush 10, 2) := by decide +kernel
theorem dX8_isOrder_19 : decode cX8_isOrder 19 = .ok (.irem, 1) := by decide +kernel
theorem dX8_isOrder_20 : decode cX8_isOrder 20 = .ok (.iconst 1, 1) := by decide +kernel
theorem dX8_isOrder_21 : decode cX8_isOrder 21 = .ok (.isub, 1) := by decide +kernel
theorem dX8_isOrder_22 : decode cX8_isOrder 22 = .ok (.istore 5, 2) := by decide +kernel
theorem dX8_isOrder_24 : decode cX8_isOrder 24 = .ok (.iload_n 3, 1) := by decide +kernel
theorem dX8_isOrder_25 : decode cX8_isOrder 25 = .ok (.ifCond .lt 21, 3) := by decide +kernel
theorem dX8_isOrder_28 : decode cX8_isOrder 28 = .ok (.aload_n 0, 1) := by decide +kernel
theorem dX8_isOrder_29 : decode cX8_isOrder 29 = .ok (.iload 5, 2) := by decide +kernel
theorem dX8_isOrder_31 : decode cX8_isOrder 31 = .ok (.invokevirtual 89, 3) := by decide +kernel
theorem dX8_isOrder_34 : decode cX8_isOrder 34 = .ok (.ifCond .eq 12, 3) := by decide +kernel
theorem dX8_isOrder_37 : decode cX8_isOrder 37 = .ok (.iload_n 2, 1) := by decide +kernel
theorem dX8_isOrder_38 : decode cX8_isOrder 38 = .ok (.iload 5, 2) := by decide +kernel
theorem dX8_isOrder_40 : decode cX8_isOrder 40 = .ok (.invokestatic 139, 3) := by decide +kernel
theorem dX8_isOrder_43 : decode cX8_isOrder 43 = .ok (.ifCond .eq 5, 3) := by decide +kernel
theorem dX8_isOrder_46 : decode cX8_isOrder 46 = .ok (.iconst 0, 1) := by decide +kernel
theorem dX8_isOrder_47 : decode cX8_isOrder 47 = .ok (.ireturn, 1) := by decide +kernel
theorem dX8_isOrder_48 : decode cX8_isOrder 48 = .ok (.iload_n 2, 1) := by decide +kernel
theorem dX8_isOrder_49 : decode cX8_isOrder 49 = .ok (.iconst 1, 1) := by decide +kernel
theorem dX8_isOrder_50 : decode cX8_isOrder 50 = .ok (.iload 5, 2) := by decide +kernel
theorem dX8_isOrder_52 : decode cX8_isOrder 52 = .ok (.ishl, 1) := by decide +kernel
theorem dX8_isOrder_53 : decode cX8_isOrder 53 = .ok (.ior, 1) := by decide +kernel
theorem dX8_isOrder_54 : decode cX8_isOrder 54 = .ok (.istore_n 2, 1) := by decide +kernel
theorem dX8_isOrder_55 : decode cX8_isOrder 55 = .ok (.iload_n 3, 1) := by decide +kernel
theorem dX8_isOrder_56 : decode cX8_isOrder 56 = .ok (.bipush 10, 2) := by decide +kernel
theorem dX8_isOrder_58 : decode cX8_isOrder 58 = .ok (.idiv, 1) := by decide +kernel
theorem dX8_isOrder_59 : decode cX8_isOrder 59 = .ok (.istore_n 3, 1) := by decide +kernel
theorem dX8_isOrder_60 : decode cX8_isOrder 60 = .ok (.iinc 4 1, 3) := by decide +kernel
theorem dX8_isOrder_63 : decode cX8_isOrder 63 = .ok (.goto (-56), 3) := by decide +kernel
theorem dX8_isOrder_66 : decode cX8_isOrder 66 = .ok (.iload_n 3, 1) := by decide +kernel
theorem dX8_isOrder_67 : decode cX8_isOrder 67 = .ok (.ifCond .ne 7, 3) := by decide +kernel
theorem dX8_isOrder_70 : decode cX8_isOrder 70 = .ok (.iconst 1, 1) := by decide +kernel
theorem dX8_isOrder_71 : decode cX8_isOrder 71 = .ok (.goto 4, 3) := by decide +kernel
theorem dX8_isOrder_74 : decode cX8_isOrder 74 = .ok (.iconst 0, 1) := by decide +kernel
theorem dX8_isOrder_75 : decode cX8_isOrder 75 = .ok (.ireturn, 1) := by decide +kernel
theorem dX8_comesSo_0 : decode cX8_comesSo 0 = .ok (.aload_n 0, 1) := by decide +kernel
theorem dX8_comesSo_1 : decode cX8_comesSo 1 = .ok (.invokevirtual 126, 3) := by decide +kernel
theorem dX8_comesSo_4 : decode cX8_comesSo 4 = .ok (.aload_n 0, 1) := by decide +kernel
theorem dX8_comesSo_5 : decode cX8_comesSo 5 = .ok (.getfield 16, 3) := by decide +kernel
theorem dX8_comesSo_8 : decode cX8_comesSo 8 = .ok (.bipush 66, 2) := by decide +kernel
theorem dX8_comesSo_10 : decode cX8_comesSo 10 = .ok (.iload_n 1, 1) := by decide +kernel
theorem dX8_comesSo_11 : decode cX8_comesSo 11 = .ok (.iadd, 1) := by decide +kernel
theorem dX8_comesSo_12 : decode cX8_comesSo 12 = .ok (.iconst 3, 1) := by decide +kernel
theorem dX8_comesSo_13 : decode cX8_comesSo 13 = .ok (.iastore, 1) := by decide +kernel
theorem dX8_comesSo_14 : decode cX8_comesSo 14 = .ok (.iconst 0, 1) := by decide +kernel
theorem dX8_comesSo_15 : decode cX8_comesSo 15 = .ok (.istore 4, 2) := by decide +kernel
theorem dX8_comesSo_17 : decode cX8_comesSo 17 = .ok (.iload 4, 2) := by decide +kernel
theorem dX8_comesSo_19 : decode cX8_comesSo 19 = .ok (.aload_n 0, 1) := by decide +kernel
theorem dX8_comesSo_20 : decode cX8_comesSo 20 = .ok (.getfield 83, 3) := by decide +kernel
theorem dX8_comesSo_23 : decode cX8_comesSo 23 = .ok (.if_icmp .ge 33, 3) := by decide +kernel
theorem dX8_comesSo_26 : decode cX8_comesSo 26 = .ok (.aload_n 0, 1) := by decide +kernel
theorem dX8_comesSo_27 : decode cX8_comesSo 27 = .ok (.getfield 16, 3) := by decide +kernel
theorem dX8_comesSo_30 : decode cX8_comesSo 30 = .ok (.bipush 77, 2) := by decide +kernel
theorem dX8_comesSo_32 : decode cX8_comesSo 32 = .ok (.bipush 6, 2) := by decide +kernel
theorem dX8_comesSo_34 : decode cX8_comesSo 34 = .ok (.iload_n 1, 1) := by decide +kernel
theorem dX8_comesSo_35 : decode cX8_comesSo 35 = .ok (.imul, 1) := by decide +kernel
theorem dX8_comesSo_36 : decode cX8_comesSo 36 = .ok (.iadd, 1) := by decide +kernel
theorem dX8_comesSo_37 : decode cX8_comesSo 37 = .ok (.iload 4, 2) := by decide +kernel
theorem dX8_comesSo_39 : decode cX8_comesSo 39 = .ok (.iadd, 1) := by decide +kernel
theorem dX8_comesSo_40 : decode cX8_comesSo 40 = .ok (.dup2, 1) := by decide +kernel
theorem dX8_comesSo_41 : decode cX8_comesSo 41 = .ok (.iaload, 1) := by decide +kernel
theorem dX8_comesSo_42 : decode cX8_comesSo 42 = .ok (.iload_n 3, 1) := by decide +kernel
theorem dX8_comesSo_43 : decode cX8_comesSo 43 = .ok (.iload 4, 2) := by decide +kernel
theorem dX8_comesSo_45 : decode cX8_comesSo 45 = .ok (.ishr, 1) := by decide +kernel
theorem dX8_comesSo_46 : decode cX8_comesSo 46 = .ok (.iconst 1, 1) := by decide +kernel
theorem dX8_comesSo_47 : decode cX8_comesSo 47 = .ok (.iand, 1) := by decide +kernel
theorem dX8_comesSo_48 : decode cX8_comesSo 48 = .ok (.iadd, 1) := by decide +kernel
theorem dX8_comesSo_49 : decode cX8_comesSo 49 = .ok (.iastore, 1) := by decide +kernel
theorem dX8_comesSo_50 : decode cX8_comesSo 50 = .ok (.iinc 4 1, 3) := by decide +kernel
theorem dX8_comesSo_53 : decode cX8_comesSo 53 = .ok (.goto (-36), 3) := by decide +kernel
theorem dX8_comesSo_56 : decode cX8_comesSo 56 = .ok (.aload_n 0, 1) := by decide +kernel
theorem dX8_comesSo_57 : decode cX8_comesSo 57 = .ok (.getfield 16, 3) := by decide +kernel
theorem dX8_comesSo_60 : decode cX8_comesSo 60 = .ok (.bipush 107, 2) := by decide +kernel
theorem dX8_comesSo_62 : decode cX8_comesSo 62 = .ok (.iaload, 1) := by decide +kernel
theorem dX8_comesSo_63 : decode cX8_comesSo 63 = .ok (.iload_n 1, 1) := by decide +kernel
theorem dX8_comesSo_64 : decode cX8_comesSo 64 = .ok (.if_icmp .gt 15, 3) := by decide +kernel
theorem dX8_comesSo_67 : decode cX8_comesSo 67 = .ok (.aload_n 0, 1) := by decide +kernel
theorem dX8_comesSo_68 : decode cX8_comesSo 68 = .ok (.iconst 1, 1) := by decide +kernel
theorem dX8_comesSo_69 : decode cX8_comesSo 69 = .ok (.aload_n 0, 1) := by decide +kernel
theorem dX8_comesSo_70 : decode cX8_comesSo 70 = .ok (.getfield 83, 3) := by decide +kernel
theorem dX8_comesSo_73 : decode cX8_comesSo 73 = .ok (.invokevirtual 117, 3) := by decide +kernel
theorem dX8_comesSo_76 : decode cX8_comesSo 76 = .ok (.goto (-20), 3) := by decide +kernel
theorem dX8_comesSo_79 : decode cX8_comesSo 79 = .ok (.aload_n 0, 1) := by decide +kernel
theorem dX8_comesSo_80 : decode cX8_comesSo 80 = .ok (.iconst 1, 1) := by decide +kernel
theorem dX8_comesSo_81 : decode cX8_comesSo 81 = .ok (.aload_n 0, 1) := by decide +kernel
theorem dX8_comesSo_82 : decode cX8_comesSo 82 = .ok (.getfield 83, 3) := by decide +kernel
theorem dX8_comesSo_85 : decode cX8_comesSo 85 = .ok (.invokevirtual 121, 3) := by decide +kernel
theorem dX8_comesSo_88 : decode cX8_comesSo 88 = .ok (.iload_n 2, 1) := by decide +kernel
theorem dX8_comesSo_89 : decode cX8_comesSo 89 = .ok (.if_icmp .ne 7, 3) := by decide +kernel
theorem dX8_comesSo_92 : decode cX8_comesSo 92 = .ok (.iconst 1, 1) := by decide +kernel
theorem dX8_comesSo_93 : decode cX8_comesSo 93 = .ok (.goto 4, 3) := by decide +kernel
theorem dX8_comesSo_96 : decode cX8_comesSo 96 = .ok (.iconst 0, 1) := by decide +kernel
theorem dX8_comesSo_97 : decode cX8_comesSo 97 = .ok (.ireturn, 1) := by decide +kernel
theorem dX8_gave_0 : decode cX8_gave 0 = .ok (.aload_n 0, 1) := by decide +kernel
theorem dX8_gave_1 : decode cX8_gave 1 = .ok (.iload_n 1, 1) := by decide +kernel
theorem dX8_gave_2 : decode cX8_gave 2 = .ok (.invokevirtual 97, 3) := by decide +kernel
theorem dX8_gave_5 : decode cX8_gave 5 = .ok (.ifCond .ne 5, 3) := by decide +kernel
theorem dX8_gave_8 : decode cX8_gave 8 = .ok (.iconst (-1), 1) := by decide +kernel
theorem dX8_gave_9 : decode cX8_gave 9 = .ok (.ireturn, 1) := by decide +kernel
theorem dX8_gave_10 : decode cX8_gave 10 = .ok (.aload_n 0, 1) := by decide +kernel
theorem dX8_gave_11 : decode cX8_gave 11 = .ok (.iload_n 2, 1) := by decide +kernel
theorem dX8_gave_12 : decode cX8_gave 12 = .ok (.invokevirtual 169, 3) := by decide +kernel
theorem dX8_gave_15 : decode cX8_gave 15 = .ok (.ifCond .eq 15, 3) := by decide +kernel
theorem dX8_gave_18 : decode cX8_gave 18 = .ok (.iload_n 3, 1) := by decide +kernel
theorem dX8_gave_19 : decode cX8_gave 19 = .ok (.i2l, 1) := by decide +kernel
theorem dX8_gave_20 : decode cX8_gave 20 = .ok (.lconst 0, 1) := by decide +kernel
theorem dX8_gave_21 : decode cX8_gave 21 = .ok (.ldc2_w 172, 3) := by decide +kernel
theorem dX8_gave_24 : decode cX8_gave 24 = .ok (.invokestatic 56, 3) := by decide +kernel
theorem dX8_gave_27 : decode cX8_gave 27 = .ok (.ifCond .ne 6, 3) := by decide +kernel
theorem dX8_gave_30 : decode cX8_gave 30 = .ok (.bipush (-2), 2) := by decide +kernel
theorem dX8_gave_32 : decode cX8_gave 32 = .ok (.ireturn, 1) := by decide +kernel
theorem dX8_gave_33 : decode cX8_gave 33 = .ok (.iload_n 1, 1) := by decide +kernel
theorem dX8_gave_34 : decode cX8_gave 34 = .ok (.aload_n 0, 1) := by decide +kernel
theorem dX8_gave_35 : decode cX8_gave 35 = .ok (.getfield 16, 3) := by decide +kernel
theorem dX8_gave_38 : decode cX8_gave 38 = .ok (.bipush 53, 2) := by decide +kernel
theorem dX8_gave_40 : decode cX8_gave 40 = .ok (.iaload, 1) := by decide +kernel
theorem dX8_gave_41 : decode cX8_gave 41 = .ok (.if_icmp .ge 6, 3) := by decide +kernel
theorem dX8_gave_44 : decode cX8_gave 44 = .ok (.bipush (-3), 2) := by decide +kernel
theorem dX8_gave_46 : decode cX8_gave 46 = .ok (.ireturn, 1) := by decide +kernel
theorem dX8_gave_47 : decode cX8_gave 47 = .ok (.iconst 0, 1) := by decide +kernel
theorem dX8_gave_48 : decode cX8_gave 48 = .ok (.istore 4, 2) := by decide +kernel
theorem dX8_gave_50 : decode cX8_gave 50 = .ok (.iconst 1, 1) := by decide +kernel
theorem dX8_gave_51 : decode cX8_gave 51 = .ok (.aload_n 0, 1) := by decide +kernel
theorem dX8_gave_52 : decode cX8_gave 52 = .ok (.getfield 83, 3) := by decide +kernel
theorem dX8_gave_55 : decode cX8_gave 55 = .ok (.ishl, 1) := by decide +kernel
theorem dX8_gave_56 : decode cX8_gave 56 = .ok (.iconst 1, 1) := by decide +kernel
theorem dX8_gave_57 : decode cX8_gave 57 = .ok (.isub, 1) := by decide +kernel
theorem dX8_gave_58 : decode cX8_gave 58 = .ok (.istore 5, 2) := by decide +kernel
theorem dX8_gave_60 : decode cX8_gave 60 = .ok (.iconst 0, 1) := by decide +kernel
theorem dX8_gave_61 : decode cX8_gave 61 = .ok (.istore 6, 2) := by decide +kernel
theorem dX8_gave_63 : decode cX8_gave 63 = .ok (.iconst 0, 1) := by decide +kernel
theorem dX8_gave_64 : decode cX8_gave 64 = .ok (.istore 7, 2) := by decide +kernel
theorem dX8_gave_66 : decode cX8_gave 66 = .ok (.iload 7, 2) := by decide +kernel
theorem dX8_gave_68 : decode cX8_gave 68 = .ok (.iconst 1, 1) := by decide +kernel
theorem dX8_gave_69 : decode cX8_gave 69 = .ok (.aload_n 0, 1) := by decide +kernel
theorem dX8_gave_70 : decode cX8_gave 70 = .ok (.getfield 83, 3) := by decide +kernel
theorem dX8_gave_73 : decode cX8_gave 73 = .ok (.ishl, 1) := by decide +kernel
theorem dX8_gave_74 : decode cX8_gave 74 = .ok (.if_icmp .ge 37, 3) := by decide +kernel
theorem dX8_gave_77 : decode cX8_gave 77 = .ok (.aload_n 0, 1) := by decide +kernel
theorem dX8_gave_78 : decode cX8_gave 78 = .ok (.iload_n 1, 1) := by decide +kernel
theorem dX8_gave_79 : decode cX8_gave 79 = .ok (.iload_n 2, 1) := by decide +kernel
theorem dX8_gave_80 : decode cX8_gave 80 = .ok (.iload 7, 2) := by decide +kernel
theorem dX8_gave_82 : decode cX8_gave 82 = .ok (.invokevirtual 174, 3) := by decide +kernel
theorem dX8_gave_85 : decode cX8_gave 85 = .ok (.ifCond .eq 20, 3) := by decide +kernel
theorem dX8_gave_88 : decode cX8_gave 88 = .ok (.iinc 4 1, 3) := by decide +kernel
theorem dX8_gave_91 : decode cX8_gave 91 = .ok (.iload 5, 2) := by decide +kernel
theorem dX8_gave_93 : decode cX8_gave 93 = .ok (.iload 7, 2) := by decide +kernel
theorem dX8_gave_95 : decode cX8_gave 95 = .ok (.iand, 1) := by decide +kernel
theorem dX8_gave_96 : decode cX8_gave 96 = .ok (.istore 5, 2) := by decide +kernel
theorem dX8_gave_98 : decode cX8_gave 98 = .ok (.iload 6, 2) := by decide +kernel
theorem dX8_gave_100 : decode cX8_gave 100 = .ok (.iload 7, 2) := by decide +kernel
theorem dX8_gave_102 : decode cX8_gave 102 = .ok (.ior, 1) := by decide +kernel
theorem dX8_gave_103 : decode cX8_gave 103 = .ok (.istore 6, 2) := by decide +kernel
theorem dX8_gave_105 : decode cX8_gave 105 = .ok (.iinc 7 1, 3) := by decide +kernel
theorem dX8_gave_108 : decode cX8_gave 108 = .ok (.goto (-42), 3) := by decide +kernel
theorem dX8_gave_111 : decode cX8_gave 111 = .ok (.iload_n 3, 1) := by decide +kernel
theorem dX8_gave_112 : decode cX8_gave 112 = .ok (.ifCond .ne 8, 3) := by decide +kernel
theorem dX8_gave_115 : decode cX8_gave 115 = .ok (.iload 4, 2) := by decide +kernel
theorem dX8_gave_117 : decode cX8_gave 117 = .ok (.goto 36, 3) := by decide +kernel
theorem dX8_gave_120 : decode cX8_gave 120 = .ok (.iload 4, 2) := by decide +kernel
theorem dX8_gave_122 : decode cX8_gave 122 = .ok (.ifCond .ne 8, 3) := by decide +kernel
theorem dX8_gave_125 : decode cX8_gave 125 = .ok (.bipush (-9), 2) := by decide +kernel
theorem dX8_gave_127 : decode cX8_gave 127 = .ok (.goto 26, 3) := by decide +kernel
theorem dX8_gave_130 : decode cX8_gave 130 = .ok (.iload_n 3, 1) := by decide +kernel
theorem dX8_gave_131 : decode cX8_gave 131 = .ok (.iconst 1, 1) := by decide +kernel
theorem dX8_gave_132 : decode cX8_gave 132 = .ok (.if_icmp .ne 8, 3) := by decide +kernel
theorem dX8_gave_135 : decode cX8_gave 135 = .ok (.iload 5, 2) := by decide +kernel
theorem dX8_gave_137 : decode cX8_gave 137 = .ok (.goto 16, 3) := by decide +kernel
theorem dX8_gave_140 : decode cX8_gave 140 = .ok (.iconst 1, 1) := by decide +kernel
theorem dX8_gave_141 : decode cX8_gave 141 = .ok (.aload_n 0, 1) := by decide +kernel
theorem dX8_gave_142 : decode cX8_gave 142 = .ok (.getfield 83, 3) := by decide +kernel
theorem dX8_gave_145 : decode cX8_gave 145 = .ok (.ishl, 1) := by decide +kernel
theorem dX8_gave_146 : decode cX8_gave 146 = .ok (.iconst 1, 1) := by decide +kernel
theorem dX8_gave_147 : decode cX8_gave 147 = .ok (.isub, 1) := by decide +kernel
theorem dX8_gave_148 : decode cX8_gave 148 = .ok (.iload 6, 2) := by decide +kernel
theorem dX8_gave_150 : decode cX8_gave 150 = .ok (.iconst (-1), 1) := by decide +kernel
theorem dX8_gave_151 : decode cX8_gave 151 = .ok (.ixor, 1) := by decide +kernel
theorem dX8_gave_152 : decode cX8_gave 152 = .ok (.iand, 1) := by decide +kernel
theorem dX8_gave_153 : decode cX8_gave 153 = .ok (.ireturn, 1) := by decide +kernel
theorem dX8_layLosses_0 : decode cX8_layLosses 0 = .ok (.iconst 0, 1) := by decide +kernel
theorem dX8_layLosses_1 : decode cX8_layLosses 1 = .ok (.istore 4, 2) := by decide +kernel
theorem dX8_layLosses_3 : decode cX8_layLosses 3 = .ok (.iload 4, 2) := by decide +kernel
theorem dX8_layLosses_5 : decode cX8_layLosses 5 = .ok (.bipush 16, 2) := by decide +kernel
theorem dX8_layLosses_7 : decode cX8_layLosses 7 = .ok (.if_icmp .ge 111, 3) := by decide +kernel
theorem dX8_layLosses_10 : decode cX8_layLosses 10 = .ok (.aload_n 0, 1) := by decide +kernel
theorem dX8_layLosses_11 : decode cX8_layLosses 11 = .ok (.invokevirtual 126, 3) := by decide +kernel
theorem dX8_layLosses_14 : decode cX8_layLosses 14 = .ok (.aload_n 0, 1) := by decide +kernel
theorem dX8_layLosses_15 : decode cX8_layLosses 15 = .ok (.getfield 16, 3) := by decide +kernel
theorem dX8_layLosses_18 : decode cX8_layLosses 18 = .ok (.bipush 77, 2) := by decide +kernel
theorem dX8_layLosses_20 : decode cX8_layLosses 20 = .ok (.bipush 6, 2) := by decide +kernel
theorem dX8_layLosses_22 : decode cX8_layLosses 22 = .ok (.iload_n 3, 1) := by decide +kernel
theorem dX8_layLosses_23 : decode cX8_layLosses 23 = .ok (.imul, 1) := by decide +kernel
theorem dX8_layLosses_24 : decode cX8_layLosses 24 = .ok (.iadd, 1) := by decide +kernel
theorem dX8_layLosses_25 : decode cX8_layLosses 25 = .ok (.iload_n 1, 1) := by decide +kernel
theorem dX8_layLosses_26 : decode cX8_layLosses 26 = .ok (.iadd, 1) := by decide +kernel
theorem dX8_layLosses_27 : decode cX8_layLosses 27 = .ok (.dup2, 1) := by decide +kernel
theorem dX8_layLosses_28 : decode cX8_layLosses 28 = .ok (.iaload, 1) := by decide +kernel
theorem dX8_layLosses_29 : decode cX8_layLosses 29 = .ok (.iload 4, 2) := by decide +kernel
theorem dX8_layLosses_31 : decode cX8_layLosses 31 = .ok (.iconst 4, 1) := by decide +kernel
theorem dX8_layLosses_32 : decode cX8_layLosses 32 = .ok (.idiv, 1) := by decide +kernel
theorem dX8_layLosses_33 : decode cX8_layLosses 33 = .ok (.iadd, 1) := by decide +kernel
theorem dX8_layLosses_34 : decode cX8_layLosses 34 = .ok (.iastore, 1) := by decide +kernel
theorem dX8_layLosses_35 : decode cX8_layLosses 35 = .ok (.aload_n 0, 1) := by decide +kernel
theorem dX8_layLosses_36 : decode cX8_layLosses 36 = .ok (.getfield 16, 3) := by decide +kernel
theorem dX8_layLosses_39 : decode cX8_layLosses 39 = .ok (.bipush 77, 2) := by decide +kernel
theorem dX8_layLosses_41 : decode cX8_layLosses 41 = .ok (.bipush 6, 2) := by decide +kernel
theorem dX8_layLosses_43 : decode cX8_layLosses 43 = .ok (.iload_n 3, 1) := by decide +kernel
theorem dX8_layLosses_44 : decode cX8_layLosses 44 = .ok (.imul, 1) := by decide +kernel
theorem dX8_layLosses_45 : decode cX8_layLosses 45 = .ok (.iadd, 1) := by decide +kernel
theorem dX8_layLosses_46 : decode cX8_layLosses 46 = .ok (.iload_n 2, 1) := by decide +kernel
theorem dX8_layLosses_47 : decode cX8_layLosses 47 = .ok (.iadd, 1) := by decide +kernel
theorem dX8_layLosses_48 : decode cX8_layLosses 48 = .ok (.dup2, 1) := by decide +kernel
theorem dX8_layLosses_49 : decode cX8_layLosses 49 = .ok (.iaload, 1) := by decide +kernel
theorem dX8_layLosses_50 : decode cX8_layLosses 50 = .ok (.iload 4, 2) := by decide +kernel
theorem dX8_layLosses_52 : decode cX8_layLosses 52 = .ok (.iconst 4, 1) := by decide +kernel
theorem dX8_layLosses_53 : decode cX8_layLosses 53 = .ok (.irem, 1) := by decide +kernel
theorem dX8_layLosses_54 : decode cX8_layLosses 54 = .ok (.iadd, 1) := by decide +kernel
theorem dX8_layLosses_55 : decode cX8_layLosses 55 = .ok (.iastore, 1) := by decide +kernel
theorem dX8_layLosses_56 : decode cX8_layLosses 56 = .ok (.aload_n 0, 1) := by decide +kernel
theorem dX8_layLosses_57 : decode cX8_layLosses 57 = .ok (.aload_n 0, 1) := by decide +kernel
theorem dX8_layLosses_58 : decode cX8_layLosses 58 = .ok (.getfield 83, 3) := by decide +kernel
theorem dX8_layLosses_61 : decode cX8_layLosses 61 = .ok (.invokevirtual 129, 3) := by decide +kernel
theorem dX8_layLosses_64 : decode cX8_layLosses 64 = .ok (.aload_n 0, 1) := by decide +kernel
theorem dX8_layLosses_65 : decode cX8_layLosses 65 = .ok (.getfield 37, 3) := by decide +kernel
theorem dX8_layLosses_68 : decode cX8_layLosses 68 = .ok (.iload 4, 2) := by decide +kernel
theorem dX8_layLosses_70 : decode cX8_layLosses 70 = .ok (.iconst 4, 1) := by decide +kernel
theorem dX8_layLosses_71 : decode cX8_layLosses 71 = .ok (.aload_n 0, 1) := by decide +kernel
theorem dX8_layLosses_72 : decode cX8_layLosses 72 = .ok (.iconst 1, 1) := by decide +kernel
theorem dX8_layLosses_73 : decode cX8_layLosses 73 = .ok (.iload_n 1, 1) := by decide +kernel
theorem dX8_layLosses_74 : decode cX8_layLosses 74 = .ok (.aload_n 0, 1) := by decide +kernel
theorem dX8_layLosses_75 : decode cX8_layLosses 75 = .ok (.getfield 83, 3) := by decide +kernel
theorem dX8_layLosses_78 : decode cX8_layLosses 78 = .ok (.invokevirtual 93, 3) := by decide +kernel
theorem dX8_layLosses_81 : decode cX8_layLosses 81 = .ok (.imul, 1) := by decide +kernel
theorem dX8_layLosses_82 : decode cX8_layLosses 82 = .ok (.iload 4, 2) := by decide +kernel
theorem dX8_layLosses_84 : decode cX8_layLosses 84 = .ok (.iconst 4, 1) := by decide +kernel
theorem dX8_layLosses_85 : decode cX8_layLosses 85 = .ok (.idiv, 1) := by decide +kernel
theorem dX8_layLosses_86 : decode cX8_layLosses 86 = .ok (.iadd, 1) := by decide +kernel
theorem dX8_layLosses_87 : decode cX8_layLosses 87 = .ok (.iastore, 1) := by decide +kernel
theorem dX8_layLosses_88 : decode cX8_layLosses 88 = .ok (.aload_n 0, 1) := by decide +kernel
theorem dX8_layLosses_89 : decode cX8_layLosses 89 = .ok (.getfield 40, 3) := by decide +kernel
theorem dX8_layLosses_92 : decode cX8_layLosses 92 = .ok (.iload 4, 2) := by decide +kernel
theorem dX8_layLosses_94 : decode cX8_layLosses 94 = .ok (.iconst 4, 1) := by decide +kernel
theorem dX8_layLosses_95 : decode cX8_layLosses 95 = .ok (.aload_n 0, 1) := by decide +kernel
theorem dX8_layLosses_96 : decode cX8_layLosses 96 = .ok (.iconst 1, 1) := by decide +kernel
theorem dX8_layLosses_97 : decode cX8_layLosses 97 = .ok (.iload_n 2, 1) := by decide +kernel
theorem dX8_layLosses_98 : decode cX8_layLosses 98 = .ok (.aload_n 0, 1) := by decide +kernel
theorem dX8_layLosses_99 : decode cX8_layLosses 99 = .ok (.getfield 83, 3) := by decide +kernel
theorem dX8_layLosses_102 : decode cX8_layLosses 102 = .ok (.invokevirtual 93, 3) := by decide +kernel
theorem dX8_layLosses_105 : decode cX8_layLosses 105 = .ok (.imul, 1) := by decide +kernel
theorem dX8_layLosses_106 : decode cX8_layLosses 106 = .ok (.iload 4, 2) := by decide +kernel
theorem dX8_layLosses_108 : decode cX8_layLosses 108 = .ok (.iconst 4, 1) := by decide +kernel
theorem dX8_layLosses_109 : decode cX8_layLosses 109 = .ok (.irem, 1) := by decide +kernel
theorem dX8_layLosses_110 : decode cX8_layLosses 110 = .ok (.iadd, 1) := by decide +kernel
theorem dX8_layLosses_111 : decode cX8_layLosses 111 = .ok (.iastore, 1) := by decide +kernel
theorem dX8_layLosses_112 : decode cX8_layLosses 112 = .ok (.iinc 4 1, 3) := by decide +kernel
theorem dX8_layLosses_115 : decode cX8_layLosses 115 = .ok (.goto (-112), 3) := by decide +kernel
theorem dX8_layLosses_118 : decode cX8_layLosses 118 = .ok (.return_, 1) := by decide +kernel
theorem dX8_isRest_0 : decode cX8_isRest 0 = .ok (.iconst 1, 1) := by decide +kernel
theorem dX8_isRest_1 : decode cX8_isRest 1 = .ok (.istore_n 2, 1) := by decide +kernel
theorem dX8_isRest_2 : decode cX8_isRest 2 = .ok (.iconst 0, 1) := by decide +kernel
theorem dX8_isRest_3 : decode cX8_isRest 3 = .ok (.istore_n 3, 1) := by decide +kernel
theorem dX8_isRest_4 : decode cX8_isRest 4 = .ok (.iload_n 3, 1) := by decide +kernel
theorem dX8_isRest_5 : decode cX8_isRest 5 = .ok (.iconst 4, 1) := by decide +kernel
theorem dX8_isRest_6 : decode cX8_isRest 6 = .ok (.if_icmp .ge 61, 3) := by decide +kernel
theorem dX8_isRest_9 : decode cX8_isRest 9 = .ok (.iload_n 2, 1) := by decide +kernel
theorem dX8_isRest_10 : decode cX8_isRest 10 = .ok (.ifCond .eq 49, 3) := by decide +kernel
theorem dX8_isRest_13 : decode cX8_isRest 13 = .ok (.aload_n 0, 1) := by decide +kernel
theorem dX8_isRest_14 : decode cX8_isRest 14 = .ok (.getfield 37, 3) := by decide +kernel
theorem dX8_isRest_17 : decode cX8_isRest 17 = .ok (.iconst 4, 1) := by decide +kernel
theorem dX8_isRest_18 : decode cX8_isRest 18 = .ok (.iload_n 3, 1) := by decide +kernel
theorem dX8_isRest_19 : decode cX8_isRest 19 = .ok (.imul, 1) := by decide +kernel
theorem dX8_isRest_20 : decode cX8_isRest 20 = .ok (.iload_n 1, 1) := by decide +kernel
theorem dX8_isRest_21 : decode cX8_isRest 21 = .ok (.iconst 4, 1) := by decide +kernel
theorem dX8_isRest_22 : decode cX8_isRest 22 = .ok (.irem, 1) := by decide +kernel
theorem dX8_isRest_23 : decode cX8_isRest 23 = .ok (.iadd, 1) := by decide +kernel
theorem dX8_isRest_24 : decode cX8_isRest 24 = .ok (.iaload, 1) := by decide +kernel
theorem dX8_isRest_25 : decode cX8_isRest 25 = .ok (.aload_n 0, 1) := by decide +kernel
theorem dX8_isRest_26 : decode cX8_isRest 26 = .ok (.getfield 37, 3) := by decide +kernel
theorem dX8_isRest_29 : decode cX8_isRest 29 = .ok (.iload_n 1, 1) := by decide +kernel
theorem dX8_isRest_30 : decode cX8_isRest 30 = .ok (.iaload, 1) := by decide +kernel
theorem dX8_isRest_31 : decode cX8_isRest 31 = .ok (.if_icmp .lt 28, 3) := by decide +kernel
theorem dX8_isRest_34 : decode cX8_isRest 34 = .ok (.aload_n 0, 1) := by decide +kernel
theorem dX8_isRest_35 : decode cX8_isRest 35 = .ok (.getfield 40, 3) := by decide +kernel
theorem dX8_isRest_38 : decode cX8_isRest 38 = .ok (.iload_n 1, 1) := by decide +kernel
theorem dX8_isRest_39 : decode cX8_isRest 39 = .ok (.iload_n 1, 1) := by decide +kernel
theorem dX8_isRest_40 : decode cX8_isRest 40 = .ok (.iconst 4, 1) := by decide +kernel
theorem dX8_isRest_41 : decode cX8_isRest 41 = .ok (.irem, 1) := by decide +kernel
theorem dX8_isRest_42 : decode cX8_isRest 42 = .ok (.isub, 1) := by decide +kernel
theorem dX8_isRest_43 : decode cX8_isRest 43 = .ok (.iload_n 3, 1) := by decide +kernel
theorem dX8_isRest_44 : decode cX8_isRest 44 = .ok (.iadd, 1) := by decide +kernel
theorem dX8_isRest_45 : decode cX8_isRest 45 = .ok (.iaload, 1) := by decide +kernel
theorem dX8_isRest_46 : decode cX8_isRest 46 = .ok (.aload_n 0, 1) := by decide +kernel
theorem dX8_isRest_47 : decode cX8_isRest 47 = .ok (.getfield 40, 3) := by decide +kernel
theorem dX8_isRest_50 : decode cX8_isRest 50 = .ok (.iload_n 1, 1) := by decide +kernel
theorem dX8_isRest_51 : decode cX8_isRest 51 = .ok (.iaload, 1) := by decide +kernel
theorem dX8_isRest_52 : decode cX8_isRest 52 = .ok (.if_icmp .lt 7, 3) := by decide +kernel
theorem dX8_isRest_55 : decode cX8_isRest 55 = .ok (.iconst 1, 1) := by decide +kernel
theorem dX8_isRest_56 : decode cX8_isRest 56 = .ok (.goto 4, 3) := by decide +kernel
theorem dX8_isRest_59 : decode cX8_isRest 59 = .ok (.iconst 0, 1) := by decide +kernel
theorem dX8_isRest_60 : decode cX8_isRest 60 = .ok (.istore_n 2, 1) := by decide +kernel
theorem dX8_isRest_61 : decode cX8_isRest 61 = .ok (.iinc 3 1, 3) := by decide +kernel
theorem dX8_isRest_64 : decode cX8_isRest 64 = .ok (.goto (-60), 3) := by decide +kernel
theorem dX8_isRest_67 : decode cX8_isRest 67 = .ok (.iload_n 2, 1) := by decide +kernel
theorem dX8_isRest_68 : decode cX8_isRest 68 = .ok (.ireturn, 1) := by decide +kernel
theorem dX8_rests_0 : decode cX8_rests 0 = .ok (.aload_n 0, 1) := by decide +kernel
theorem dX8_rests_1 : decode cX8_rests 1 = .ok (.iload_n 1, 1) := by decide +kernel
theorem dX8_rests_2 : decode cX8_rests 2 = .ok (.invokevirtual 89, 3) := by decide +kernel
theorem dX8_rests_5 : decode cX8_rests 5 = .ok (.ifCond .eq 19, 3) := by decide +kernel
theorem dX8_rests_8 : decode cX8_rests 8 = .ok (.aload_n 0, 1) := by decide +kernel
theorem dX8_rests_9 : decode cX8_rests 9 = .ok (.iload_n 2, 1) := by decide +kernel
theorem dX8_rests_10 : decode cX8_rests 10 = .ok (.invokevirtual 89, 3) := by decide +kernel
theorem dX8_rests_13 : decode cX8_rests 13 = .ok (.ifCond .eq 11, 3) := by decide +kernel
theorem dX8_rests_16 : decode cX8_rests 16 = .ok (.aload_n 0, 1) := by decide +kernel
theorem dX8_rests_17 : decode cX8_rests 17 = .ok (.iload_n 3, 1) := by decide +kernel
theorem dX8_rests_18 : decode cX8_rests 18 = .ok (.invokevirtual 97, 3) := by decide +kernel
theorem dX8_rests_21 : decode cX8_rests 21 = .ok (.ifCond .ne 5, 3) := by decide +kernel
theorem dX8_rests_24 : decode cX8_rests 24 = .ok (.iconst (-1), 1) := by decide +kernel
theorem dX8_rests_25 : decode cX8_rests 25 = .ok (.ireturn, 1) := by decide +kernel
theorem dX8_rests_26 : decode cX8_rests 26 = .ok (.iload_n 1, 1) := by decide +kernel
theorem dX8_rests_27 : decode cX8_rests 27 = .ok (.iload_n 2, 1) := by decide +kernel
theorem dX8_rests_28 : decode cX8_rests 28 = .ok (.if_icmp .eq 14, 3) := by decide +kernel
theorem dX8_rests_31 : decode cX8_rests 31 = .ok (.iload 4, 2) := by decide +kernel
theorem dX8_rests_33 : decode cX8_rests 33 = .ok (.i2l, 1) := by decide +kernel
theorem dX8_rests_34 : decode cX8_rests 34 = .ok (.lconst 0, 1) := by decide +kernel
theorem dX8_rests_35 : decode cX8_rests 35 = .ok (.lconst 1, 1) := by decide +kernel
theorem dX8_rests_36 : decode cX8_rests 36 = .ok (.invokestatic 56, 3) := by decide +kernel
theorem dX8_rests_39 : decode cX8_rests 39 = .ok (.ifCond .ne 6, 3) := by decide +kernel
theorem dX8_rests_42 : decode cX8_rests 42 = .ok (.bipush (-2), 2) := by decide +kernel
theorem dX8_rests_44 : decode cX8_rests 44 = .ok (.ireturn, 1) := by decide +kernel
theorem dX8_rests_45 : decode cX8_rests 45 = .ok (.iload_n 3, 1) := by decide +kernel
theorem dX8_rests_46 : decode cX8_rests 46 = .ok (.aload_n 0, 1) := by decide +kernel
theorem dX8_rests_47 : decode cX8_rests 47 = .ok (.getfield 16, 3) := by decide +kernel
theorem dX8_rests_50 : decode cX8_rests 50 = .ok (.bipush 53, 2) := by decide +kernel
theorem dX8_rests_52 : decode cX8_rests 52 = .ok (.iaload, 1) := by decide +kernel
theorem dX8_rests_53 : decode cX8_rests 53 = .ok (.if_icmp .ge 6, 3) := by decide +kernel
theorem dX8_rests_56 : decode cX8_rests 56 = .ok (.bipush (-3), 2) := by decide +kernel
theorem dX8_rests_58 : decode cX8_rests 58 = .ok (.ireturn, 1) := by decide +kernel
theorem dX8_rests_59 : decode cX8_rests 59 = .ok (.aload_n 0, 1) := by decide +kernel
theorem dX8_rests_60 : decode cX8_rests 60 = .ok (.iload_n 1, 1) := by decide +kernel
theorem dX8_rests_61 : decode cX8_rests 61 = .ok (.iload_n 2, 1) := by decide +kernel
theorem dX8_rests_62 : decode cX8_rests 62 = .ok (.iload_n 3, 1) := by decide +kernel
theorem dX8_rests_63 : decode cX8_rests 63 = .ok (.invokevirtual 178, 3) := by decide +kernel
theorem dX8_rests_66 : decode cX8_rests 66 = .ok (.iconst 0, 1) := by decide +kernel
theorem dX8_rests_67 : decode cX8_rests 67 = .ok (.istore 5, 2) := by decide +kernel
theorem dX8_rests_69 : decode cX8_rests 69 = .ok (.bipush (-9), 2) := by decide +kernel
theorem dX8_rests_71 : decode cX8_rests 71 = .ok (.istore 6, 2) := by decide +kernel
theorem dX8_rests_73 : decode cX8_rests 73 = .ok (.iconst 0, 1) := by decide +kernel
theorem dX8_rests_74 : decode cX8_rests 74 = .ok (.istore 7, 2) := by decide +kernel
theorem dX8_rests_76 : decode cX8_rests 76 = .ok (.iload 7, 2) := by decide +kernel
theorem dX8_rests_78 : decode cX8_rests 78 = .ok (.bipush 16, 2) := by decide +kernel
theorem dX8_rests_80 : decode cX8_rests 80 = .ok (.if_icmp .ge 45, 3) := by decide +kernel
theorem dX8_rests_83 : decode cX8_rests 83 = .ok (.aload_n 0, 1) := by decide +kernel
theorem dX8_rests_84 : decode cX8_rests 84 = .ok (.iload 7, 2) := by decide +kernel
theorem dX8_rests_86 : decode cX8_rests 86 = .ok (.invokevirtual 182, 3) := by decide +kernel
theorem dX8_rests_89 : decode cX8_rests 89 = .ok (.ifCond .eq 30, 3) := by decide +kernel
theorem dX8_rests_92 : decode cX8_rests 92 = .ok (.iload 5, 2) := by decide +kernel
theorem dX8_rests_94 : decode cX8_rests 94 = .ok (.ifCond .ne 18, 3) := by decide +kernel
theorem dX8_rests_97 : decode cX8_rests 97 = .ok (.bipush 10, 2) := by decide +kernel
theorem dX8_rests_99 : decode cX8_rests 99 = .ok (.iload 7, 2) := by decide +kernel
theorem dX8_rests_101 : decode cX8_rests 101 = .ok (.iconst 4, 1) := by decide +kernel
theorem dX8_rests_102 : decode cX8_rests 102 = .ok (.idiv, 1) := by decide +kernel
theorem dX8_rests_103 : decode cX8_rests 103 = .ok (.imul, 1) := by decide +kernel
theorem dX8_rests_104 : decode cX8_rests 104 = .ok (.iload 7, 2) := by decide +kernel
theorem dX8_rests_106 : decode cX8_rests 106 = .ok (.iconst 4, 1) := by decide +kernel
theorem dX8_rests_107 : decode cX8_rests 107 = .ok (.irem, 1) := by decide +kernel
theorem dX8_rests_108 : decode cX8_rests 108 = .ok (.iadd, 1) := by decide +kernel
theorem dX8_rests_109 : decode cX8_rests 109 = .ok (.goto 5, 3) := by decide +kernel
theorem dX8_rests_112 : decode cX8_rests 112 = .ok (.iload 6, 2) := by decide +kernel
theorem dX8_rests_114 : decode cX8_rests 114 = .ok (.istore 6, 2) := by decide +kernel
theorem dX8_rests_116 : decode cX8_rests 116 = .ok (.iinc 5 1, 3) := by decide +kernel
theorem dX8_rests_119 : decode cX8_rests 119 = .ok (.iinc 7 1, 3) := by decide +kernel
theorem dX8_rests_122 : decode cX8_rests 122 = .ok (.goto (-46), 3) := by decide +kernel
theorem dX8_rests_125 : decode cX8_rests 125 = .ok (.iload 4, 2) := by decide +kernel
theorem dX8_rests_127 : decode cX8_rests 127 = .ok (.ifCond .ne 8, 3) := by decide +kernel
theorem dX8_rests_130 : decode cX8_rests 130 = .ok (.iload 5, 2) := by decide +kernel
theorem dX8_rests_132 : decode cX8_rests 132 = .ok (.goto 5, 3) := by decide +kernel
theorem dX8_rests_135 : decode cX8_rests 135 = .ok (.iload 6, 2) := by decide +kernel
theorem dX8_rests_137 : decode cX8_rests 137 = .ok (.ireturn, 1) := by decide +kernel
theorem dX8_asleep_0 : decode cX8_asleep 0 = .ok (.aload_n 0, 1) := by decide +kernel
theorem dX8_asleep_1 : decode cX8_asleep 1 = .ok (.iload_n 1, 1) := by decide +kernel
theorem dX8_asleep_2 : decode cX8_asleep 2 = .ok (.invokevirtual 89, 3) := by decide +kernel
theorem dX8_asleep_5 : decode cX8_asleep 5 = .ok (.ifCond .ne 5, 3) := by decide +kernel
theorem dX8_asleep_8 : decode cX8_asleep 8 = .ok (.iconst (-1), 1) := by decide +kernel
theorem dX8_asleep_9 : decode cX8_asleep 9 = .ok (.ireturn, 1) := by decide +kernel
theorem dX8_asleep_10 : decode cX8_asleep 10 = .ok (.iload_n 2, 1) := by decide +kernel
theorem dX8_asleep_11 : decode cX8_asleep 11 = .ok (.i2l, 1) := by decide +kernel
theorem dX8_asleep_12 : decode cX8_asleep 12 = .ok (.lconst 0, 1) := by decide +kernel
theorem dX8_asleep_13 : decode cX8_asleep 13 = .ok (.aload_n 0, 1) := by decide +kernel
theorem dX8_asleep_14 : decode cX8_asleep 14 = .ok (.getfield 83, 3) := by decide +kernel
theorem dX8_asleep_17 : decode cX8_asleep 17 = .ok (.iconst 1, 1) := by decide +kernel
theorem dX8_asleep_18 : decode cX8_asleep 18 = .ok (.isub, 1) := by decide +kernel
theorem dX8_asleep_19 : decode cX8_asleep 19 = .ok (.i2l, 1) := by decide +kernel
theorem dX8_asleep_20 : decode cX8_asleep 20 = .ok (.invokestatic 56, 3) := by decide +kernel
theorem dX8_asleep_23 : decode cX8_asleep 23 = .ok (.ifCond .eq 15, 3) := by decide +kernel
theorem dX8_asleep_26 : decode cX8_asleep 26 = .ok (.iload_n 3, 1) := by decide +kernel
theorem dX8_asleep_27 : decode cX8_asleep 27 = .ok (.i2l, 1) := by decide +kernel
theorem dX8_asleep_28 : decode cX8_asleep 28 = .ok (.lconst 0, 1) := by decide +kernel
theorem dX8_asleep_29 : decode cX8_asleep 29 = .ok (.ldc2_w 185, 3) := by decide +kernel
theorem dX8_asleep_32 : decode cX8_asleep 32 = .ok (.invokestatic 56, 3) := by decide +kernel
theorem dX8_asleep_35 : decode cX8_asleep 35 = .ok (.ifCond .ne 6, 3) := by decide +kernel
theorem dX8_asleep_38 : decode cX8_asleep 38 = .ok (.bipush (-2), 2) := by decide +kernel
theorem dX8_asleep_40 : decode cX8_asleep 40 = .ok (.ireturn, 1) := by decide +kernel
theorem dX8_asleep_41 : decode cX8_asleep 41 = .ok (.iconst 0, 1) := by decide +kernel
theorem dX8_asleep_42 : decode cX8_asleep 42 = .ok (.istore 5, 2) := by decide +kernel
theorem dX8_asleep_44 : decode cX8_asleep 44 = .ok (.iconst 0, 1) := by decide +kernel
theorem dX8_asleep_45 : decode cX8_asleep 45 = .ok (.istore 6, 2) := by decide +kernel
theorem dX8_asleep_47 : decode cX8_asleep 47 = .ok (.aload_n 0, 1) := by decide +kernel
theorem dX8_asleep_48 : decode cX8_asleep 48 = .ok (.getfield 50, 3) := by decide +kernel
theorem dX8_asleep_51 : decode cX8_asleep 51 = .ok (.aload_n 0, 1) := by decide +kernel
theorem dX8_asleep_52 : decode cX8_asleep 52 = .ok (.getfield 16, 3) := by decide +kernel
theorem dX8_asleep_55 : decode cX8_asleep 55 = .ok (.bipush 53, 2) := by decide +kernel
theorem dX8_asleep_57 : decode cX8_asleep 57 = .ok (.iaload, 1) := by decide +kernel
theorem dX8_asleep_58 : decode cX8_asleep 58 = .ok (.isub, 1) := by decide +kernel
theorem dX8_asleep_59 : decode cX8_asleep 59 = .ok (.istore 7, 2) := by decide +kernel
theorem dX8_asleep_61 : decode cX8_asleep 61 = .ok (.iconst 0, 1) := by decide +kernel
theorem dX8_asleep_62 : decode cX8_asleep 62 = .ok (.istore 8, 2) := by decide +kernel
theorem dX8_asleep_64 : decode cX8_asleep 64 = .ok (.iload 8, 2) := by decide +kernel
theorem dX8_asleep_66 : decode cX8_asleep 66 = .ok (.iconst 1, 1) := by decide +kernel
theorem dX8_asleep_67 : decode cX8_asleep 67 = .ok (.iload 7, 2) := by decide +kernel
theorem dX8_asleep_69 : decode cX8_asleep 69 = .ok (.ishl, 1) := by decide +kernel
theorem dX8_asleep_70 : decode cX8_asleep 70 = .ok (.if_icmp .ge 137, 3) := by decide +kernel
theorem dX8_asleep_73 : decode cX8_asleep 73 = .ok (.iconst 1, 1) := by decide +kernel
theorem dX8_asleep_74 : decode cX8_asleep 74 = .ok (.istore 9, 2) := by decide +kernel
theorem dX8_asleep_76 : decode cX8_asleep 76 = .ok (.aload_n 0, 1) := by decide +kernel
theorem dX8_asleep_77 : decode cX8_asleep 77 = .ok (.invokevirtual 126, 3) := by decide +kernel
theorem dX8_asleep_80 : decode cX8_asleep 80 = .ok (.iconst 0, 1) := by decide +kernel
theorem dX8_asleep_81 : decode cX8_asleep 81 = .ok (.istore 10, 2) := by decide +kernel
theorem dX8_asleep_83 : decode cX8_asleep 83 = .ok (.iload 10, 2) := by decide +kernel
theorem dX8_asleep_85 : decode cX8_asleep 85 = .ok (.iload 7, 2) := by decide +kernel
theorem dX8_asleep_87 : decode cX8_asleep 87 = .ok (.if_icmp .ge 75, 3) := by decide +kernel
theorem dX8_asleep_90 : decode cX8_asleep 90 = .ok (.iload 9, 2) := by decide +kernel
theorem dX8_asleep_92 : decode cX8_asleep 92 = .ok (.iload 8, 2) := by decide +kernel
theorem dX8_asleep_94 : decode cX8_asleep 94 = .ok (.iload 10, 2) := by decide +kernel
theorem dX8_asleep_96 : decode cX8_asleep 96 = .ok (.invokestatic 139, 3) := by decide +kernel
theorem dX8_asleep_99 : decode cX8_asleep 99 = .ok (.ifCond .eq 7, 3) := by decide +kernel
theorem dX8_asleep_102 : decode cX8_asleep 102 = .ok (.iload_n 3, 1) := by decide +kernel
theorem dX8_asleep_103 : decode cX8_asleep 103 = .ok (.goto 7, 3) := by decide +kernel
theorem dX8_asleep_106 : decode cX8_asleep 106 = .ok (.bipush 10, 2) := by decide +kernel
theorem dX8_asleep_108 : decode cX8_asleep 108 = .ok (.iload_n 3, 1) := by decide +kernel
theorem dX8_asleep_109 : decode cX8_asleep 109 = .ok (.isub, 1) := by decide +kernel
theorem dX8_asleep_110 : decode cX8_asleep 110 = .ok (.imul, 1) := by decide +kernel
theorem dX8_asleep_111 : decode cX8_asleep 111 = .ok (.istore 9, 2) := by decide +kernel
theorem dX8_asleep_113 : decode cX8_asleep 113 = .ok (.bipush 66, 2) := by decide +kernel
theorem dX8_asleep_115 : decode cX8_asleep 115 = .ok (.aload_n 0, 1) := by decide +kernel
theorem dX8_asleep_116 : decode cX8_asleep 116 = .ok (.getfield 16, 3) := by decide +kernel
theorem dX8_asleep_119 : decode cX8_asleep 119 = .ok (.bipush 53, 2) := by decide +kernel
theorem dX8_asleep_121 : decode cX8_asleep 121 = .ok (.iaload, 1) := by decide +kernel
theorem dX8_asleep_122 : decode cX8_asleep 122 = .ok (.iadd, 1) := by decide +kernel
theorem dX8_asleep_123 : decode cX8_asleep 123 = .ok (.iload 10, 2) := by decide +kernel
theorem dX8_asleep_125 : decode cX8_asleep 125 = .ok (.iadd, 1) := by decide +kernel
theorem dX8_asleep_126 : decode cX8_asleep 126 = .ok (.istore 11, 2) := by decide +kernel
theorem dX8_asleep_128 : decode cX8_asleep 128 = .ok (.aload_n 0, 1) := by decide +kernel
theorem dX8_asleep_129 : decode cX8_asleep 129 = .ok (.getfield 16, 3) := by decide +kernel
theorem dX8_asleep_132 : decode cX8_asleep 132 = .ok (.iload 11, 2) := by decide +kernel
theorem dX8_asleep_134 : decode cX8_asleep 134 = .ok (.iload 8, 2) := by decide +kernel
theorem dX8_asleep_136 : decode cX8_asleep 136 = .ok (.iload 10, 2) := by decide +kernel
theorem dX8_asleep_138 : decode cX8_asleep 138 = .ok (.invokestatic 139, 3) := by decide +kernel
theorem dX8_asleep_141 : decode cX8_asleep 141 = .ok (.ifCond .eq 7, 3) := by decide +kernel
theorem dX8_asleep_144 : decode cX8_asleep 144 = .ok (.iconst 0, 1) := by decide +kernel
theorem dX8_asleep_145 : decode cX8_asleep 145 = .ok (.goto 10, 3) := by decide +kernel
theorem dX8_asleep_148 : decode cX8_asleep 148 = .ok (.aload_n 0, 1) := by decide +kernel
theorem dX8_asleep_149 : decode cX8_asleep 149 = .ok (.getfield 16, 3) := by decide +kernel
theorem dX8_asleep_152 : decode cX8_asleep 152 = .ok (.iload 11, 2) := by decide +kernel
theorem dX8_asleep_154 : decode cX8_asleep 154 = .ok (.iaload, 1) := by decide +kernel
theorem dX8_asleep_155 : decode cX8_asleep 155 = .ok (.iastore, 1) := by decide +kernel
theorem dX8_asleep_156 : decode cX8_asleep 156 = .ok (.iinc 10 1, 3) := by decide +kernel
theorem dX8_asleep_159 : decode cX8_asleep 159 = .ok (.goto (-76), 3) := by decide +kernel
theorem dX8_asleep_162 : decode cX8_asleep 162 = .ok (.aload_n 0, 1) := by decide +kernel
theorem dX8_asleep_163 : decode cX8_asleep 163 = .ok (.aload_n 0, 1) := by decide +kernel
theorem dX8_asleep_164 : decode cX8_asleep 164 = .ok (.getfield 83, 3) := by decide +kernel
theorem dX8_asleep_167 : decode cX8_asleep 167 = .ok (.invokevirtual 129, 3) := by decide +kernel
theorem dX8_asleep_170 : decode cX8_asleep 170 = .ok (.iload 6, 2) := by decide +kernel
theorem dX8_asleep_172 : decode cX8_asleep 172 = .ok (.iload 9, 2) := by decide +kernel
theorem dX8_asleep_174 : decode cX8_asleep 174 = .ok (.iadd, 1) := by decide +kernel
theorem dX8_asleep_175 : decode cX8_asleep 175 = .ok (.istore 6, 2) := by decide +kernel
theorem dX8_asleep_177 : decode cX8_asleep 177 = .ok (.iload 5, 2) := by decide +kernel
theorem dX8_asleep_179 : decode cX8_asleep 179 = .ok (.aload_n 0, 1) := by decide +kernel
theorem dX8_asleep_180 : decode cX8_asleep 180 = .ok (.getfield 16, 3) := by decide +kernel
theorem dX8_asleep_183 : decode cX8_asleep 183 = .ok (.bipush 54, 2) := by decide +kernel
theorem dX8_asleep_185 : decode cX8_asleep 185 = .ok (.iload_n 2, 1) := by decide +kernel
theorem dX8_asleep_186 : decode cX8_asleep 186 = .ok (.iadd, 1) := by decide +kernel
theorem dX8_asleep_187 : decode cX8_asleep 187 = .ok (.iaload, 1) := by decide +kernel
theorem dX8_asleep_188 : decode cX8_asleep 188 = .ok (.iload_n 1, 1) := by decide +kernel
theorem dX8_asleep_189 : decode cX8_asleep 189 = .ok (.if_icmp .ne 8, 3) := by decide +kernel
theorem dX8_asleep_192 : decode cX8_asleep 192 = .ok (.iload 9, 2) := by decide +kernel
theorem dX8_asleep_194 : decode cX8_asleep 194 = .ok (.goto 4, 3) := by decide +kernel
theorem dX8_asleep_197 : decode cX8_asleep 197 = .ok (.iconst 0, 1) := by decide +kernel
theorem dX8_asleep_198 : decode cX8_asleep 198 = .ok (.iadd, 1) := by decide +kernel
theorem dX8_asleep_199 : decode cX8_asleep 199 = .ok (.istore 5, 2) := by decide +kernel
theorem dX8_asleep_201 : decode cX8_asleep 201 = .ok (.iinc 8 1, 3) := by decide +kernel
theorem dX8_asleep_204 : decode cX8_asleep 204 = .ok (.goto (-140), 3) := by decide +kernel
theorem dX8_asleep_207 : decode cX8_asleep 207 = .ok (.iload 5, 2) := by decide +kernel
theorem dX8_asleep_209 : decode cX8_asleep 209 = .ok (.iload 6, 2) := by decide +kernel
theorem dX8_asleep_211 : decode cX8_asleep 211 = .ok (.invokestatic 166, 3) := by decide +kernel
theorem dX8_asleep_214 : decode cX8_asleep 214 = .ok (.istore 8, 2) := by decide +kernel
theorem dX8_asleep_216 : decode cX8_asleep 216 = .ok (.iload 4, 2) := by decide +kernel
theorem dX8_asleep_218 : decode cX8_asleep 218 = .ok (.ifCond .eq 11, 3) := by decide +kernel
theorem dX8_asleep_221 : decode cX8_asleep 221 = .ok (.iload 5, 2) := by decide +kernel
theorem dX8_asleep_223 : decode cX8_asleep 223 = .ok (.iload 8, 2) := by decide +kernel
theorem dX8_asleep_225 : decode cX8_asleep 225 = .ok (.idiv, 1) := by decide +kernel
theorem dX8_asleep_226 : decode cX8_asleep 226 = .ok (.goto 8, 3) := by decide +kernel
theorem dX8_asleep_229 : decode cX8_asleep 229 = .ok (.iload 6, 2) := by decide +kernel
theorem dX8_asleep_231 : decode cX8_asleep 231 = .ok (.iload 8, 2) := by decide +kernel
theorem dX8_asleep_233 : decode cX8_asleep 233 = .ok (.idiv, 1) := by decide +kernel
theorem dX8_asleep_234 : decode cX8_asleep 234 = .ok (.ireturn, 1) := by decide +kernel
theorem dX8_seed_0 : decode cX8_seed 0 = .ok (.aload_n 0, 1) := by decide +kernel
theorem dX8_seed_1 : decode cX8_seed 1 = .ok (.getfield 187, 3) := by decide +kernel
theorem dX8_seed_4 : decode cX8_seed 4 = .ok (.lstore_n 3, 1) := by decide +kernel
theorem dX8_seed_5 : decode cX8_seed 5 = .ok (.aload_n 0, 1) := by decide +kernel
theorem dX8_seed_6 : decode cX8_seed 6 = .ok (.lload_n 1, 1) := by decide +kernel
theorem dX8_seed_7 : decode cX8_seed 7 = .ok (.putfield 187, 3) := by decide +kernel
theorem dX8_seed_10 : decode cX8_seed 10 = .ok (.lload_n 3, 1) := by decide +kernel
theorem dX8_seed_11 : decode cX8_seed 11 = .ok (.lreturn, 1) := by decide +kernel
theorem dX8_days_0 : decode cX8_days 0 = .ok (.aload_n 0, 1) := by decide +kernel
theorem dX8_days_1 : decode cX8_days 1 = .ok (.iload_n 1, 1) := by decide +kernel
theorem dX8_days_2 : decode cX8_days 2 = .ok (.invokevirtual 89, 3) := by decide +kernel
theorem dX8_days_5 : decode cX8_days 5 = .ok (.ifCond .ne 5, 3) := by decide +kernel
theorem dX8_days_8 : decode cX8_days 8 = .ok (.iconst (-1), 1) := by decide +kernel
theorem dX8_days_9 : decode cX8_days 9 = .ok (.ireturn, 1) := by decide +kernel
theorem dX8_days_10 : decode cX8_days 10 = .ok (.iload_n 2, 1) := by decide +kernel
theorem dX8_days_11 : decode cX8_days 11 = .ok (.i2l, 1) := by decide +kernel
theorem dX8_days_12 : decode cX8_days 12 = .ok (.lconst 1, 1) := by decide +kernel
theorem dX8_days_13 : decode cX8_days 13 = .ok (.ldc2_w 191, 3) := by decide +kernel
theorem dX8_days_16 : decode cX8_days 16 = .ok (.invokestatic 56, 3) := by decide +kernel
theorem dX8_days_19 : decode cX8_days 19 = .ok (.ifCond .ne 6, 3) := by decide +kernel
theorem dX8_days_22 : decode cX8_days 22 = .ok (.bipush (-2), 2) := by decide +kernel
theorem dX8_days_24 : decode cX8_days 24 = .ok (.ireturn, 1) := by decide +kernel
theorem dX8_days_25 : decode cX8_days 25 = .ok (.iconst 0, 1) := by decide +kernel
theorem dX8_days_26 : decode cX8_days 26 = .ok (.istore_n 3, 1) := by decide +kernel
theorem dX8_days_27 : decode cX8_days 27 = .ok (.iconst 0, 1) := by decide +kernel
theorem dX8_days_28 : decode cX8_days 28 = .ok (.istore 4, 2) := by decide +kernel
theorem dX8_days_30 : decode cX8_days 30 = .ok (.iload 4, 2) := by decide +kernel
theorem dX8_days_32 : decode cX8_days 32 = .ok (.iload_n 2, 1) := by decide +kernel
theorem dX8_days_33 : decode cX8_days 33 = .ok (.if_icmp .ge 126, 3) := by decide +kernel
theorem dX8_days_36 : decode cX8_days 36 = .ok (.aload_n 0, 1) := by decide +kernel
theorem dX8_days_37 : decode cX8_days 37 = .ok (.aload_n 0, 1) := by decide +kernel
theorem dX8_days_38 : decode cX8_days 38 = .ok (.getfield 187, 3) := by decide +kernel
theorem dX8_days_41 : decode cX8_days 41 = .ok (.ldc2_w 193, 3) := by decide +kernel
theorem dX8_days_44 : decode cX8_days 44 = .ok (.lmul, 1) := by decide +kernel
theorem dX8_days_45 : decode cX8_days 45 = .ok (.ldc2_w 195, 3) := by decide +kernel
theorem dX8_days_48 : decode cX8_days 48 = .ok (.ladd, 1) := by decide +kernel
theorem dX8_days_49 : decode cX8_days 49 = .ok (.putfield 187, 3) := by decide +kernel
theorem dX8_days_52 : decode cX8_days 52 = .ok (.aload_n 0, 1) := by decide +kernel
theorem dX8_days_53 : decode cX8_days 53 = .ok (.getfield 187, 3) := by decide +kernel
theorem dX8_days_56 : decode cX8_days 56 = .ok (.bipush 33, 2) := by decide +kernel
theorem dX8_days_58 : decode cX8_days 58 = .ok (.lushr, 1) := by decide +kernel
theorem dX8_days_59 : decode cX8_days 59 = .ok (.ldc2_w 197, 3) := by decide +kernel
theorem dX8_days_62 : decode cX8_days 62 = .ok (.lrem, 1) := by decide +kernel
theorem dX8_days_63 : decode cX8_days 63 = .ok (.l2i, 1) := by decide +kernel
theorem dX8_days_64 : decode cX8_days 64 = .ok (.istore 5, 2) := by decide +kernel
theorem dX8_days_66 : decode cX8_days 66 = .ok (.aload_n 0, 1) := by decide +kernel
theorem dX8_days_67 : decode cX8_days 67 = .ok (.invokevirtual 126, 3) := by decide +kernel
theorem dX8_days_70 : decode cX8_days 70 = .ok (.iconst 0, 1) := by decide +kernel
theorem dX8_days_71 : decode cX8_days 71 = .ok (.istore 6, 2) := by decide +kernel
theorem dX8_days_73 : decode cX8_days 73 = .ok (.iload 6, 2) := by decide +kernel
theorem dX8_days_75 : decode cX8_days 75 = .ok (.bipush 6, 2) := by decide +kernel
theorem dX8_days_77 : decode cX8_days 77 = .ok (.aload_n 0, 1) := by decide +kernel
theorem dX8_days_78 : decode cX8_days 78 = .ok (.getfield 50, 3) := by decide +kernel
theorem dX8_days_81 : decode cX8_days 81 = .ok (.imul, 1) := by decide +kernel
theorem dX8_days_82 : decode cX8_days 82 = .ok (.if_icmp .ge 55, 3) := by decide +kernel
theorem dX8_days_85 : decode cX8_days 85 = .ok (.aload_n 0, 1) := by decide +kernel
theorem dX8_days_86 : decode cX8_days 86 = .ok (.getfield 16, 3) := by decide +kernel
theorem dX8_days_89 : decode cX8_days 89 = .ok (.bipush 77, 2) := by decide +kernel
theorem dX8_days_91 : decode cX8_days 91 = .ok (.iload 6, 2) := by decide +kernel
theorem dX8_days_93 : decode cX8_days 93 = .ok (.iadd, 1) := by decide +kernel
theorem dX8_days_94 : decode cX8_days 94 = .ok (.dup2, 1) := by decide +kernel
theorem dX8_days_95 : decode cX8_days 95 = .ok (.iaload, 1) := by decide +kernel
theorem dX8_days_96 : decode cX8_days 96 = .ok (.iload 6, 2) := by decide +kernel
theorem dX8_days_98 : decode cX8_days 98 = .ok (.bipush 6, 2) := by decide +kernel
theorem dX8_days_100 : decode cX8_days 100 = .ok (.idiv, 1) := by decide +kernel
theorem dX8_days_101 : decode cX8_days 101 = .ok (.aload_n 0, 1) := by decide +kernel
theorem dX8_days_102 : decode cX8_days 102 = .ok (.getfield 16, 3) := by decide +kernel
theorem dX8_days_105 : decode cX8_days 105 = .ok (.bipush 53, 2) := by decide +kernel
theorem dX8_days_107 : decode cX8_days 107 = .ok (.iaload, 1) := by decide +kernel
theorem dX8_days_108 : decode cX8_days 108 = .ok (.if_icmp .lt 20, 3) := by decide +kernel
theorem dX8_days_111 : decode cX8_days 111 = .ok (.iload 5, 2) := by decide +kernel
theorem dX8_days_113 : decode cX8_days 113 = .ok (.iload 6, 2) := by decide +kernel
theorem dX8_days_115 : decode cX8_days 115 = .ok (.bipush 6, 2) := by decide +kernel
theorem dX8_days_117 : decode cX8_days 117 = .ok (.irem, 1) := by decide +kernel
theorem dX8_days_118 : decode cX8_days 118 = .ok (.invokestatic 139, 3) := by decide +kernel
theorem dX8_days_121 : decode cX8_days 121 = .ok (.ifCond .eq 7, 3) := by decide +kernel
theorem dX8_days_124 : decode cX8_days 124 = .ok (.iconst 1, 1) := by decide +kernel
theorem dX8_days_125 : decode cX8_days 125 = .ok (.goto 4, 3) := by decide +kernel
theorem dX8_days_128 : decode cX8_days 128 = .ok (.iconst 0, 1) := by decide +kernel
theorem dX8_days_129 : decode cX8_days 129 = .ok (.iadd, 1) := by decide +kernel
theorem dX8_days_130 : decode cX8_days 130 = .ok (.iastore, 1) := by decide +kernel
theorem dX8_days_131 : decode cX8_days 131 = .ok (.iinc 6 1, 3) := by decide +kernel
theorem dX8_days_134 : decode cX8_days 134 = .ok (.goto (-61), 3) := by decide +kernel
theorem dX8_days_137 : decode cX8_days 137 = .ok (.iload_n 3, 1) := by decide +kernel
theorem dX8_days_138 : decode cX8_days 138 = .ok (.aload_n 0, 1) := by decide +kernel
theorem dX8_days_139 : decode cX8_days 139 = .ok (.iload_n 1, 1) := by decide +kernel
theorem dX8_days_140 : decode cX8_days 140 = .ok (.invokevirtual 199, 3) := by decide +kernel
theorem dX8_days_143 : decode cX8_days 143 = .ok (.ifCond .eq 7, 3) := by decide +kernel
theorem dX8_days_146 : decode cX8_days 146 = .ok (.iconst 1, 1) := by decide +kernel
theorem dX8_days_147 : decode cX8_days 147 = .ok (.goto 4, 3) := by decide +kernel
theorem dX8_days_150 : decode cX8_days 150 = .ok (.iconst 0, 1) := by decide +kernel
theorem dX8_days_151 : decode cX8_days 151 = .ok (.iadd, 1) := by decide +kernel
theorem dX8_days_152 : decode cX8_days 152 = .ok (.istore_n 3, 1) := by decide +kernel
theorem dX8_days_153 : decode cX8_days 153 = .ok (.iinc 4 1, 3) := by decide +kernel
theorem dX8_days_156 : decode cX8_days 156 = .ok (.goto (-126), 3) := by decide +kernel
theorem dX8_days_159 : decode cX8_days 159 = .ok (.iload_n 3, 1) := by decide +kernel
theorem dX8_days_160 : decode cX8_days 160 = .ok (.ireturn, 1) := by decide +kernel
theorem dX8_isFirst_0 : decode cX8_isFirst 0 = .ok (.aload_n 0, 1) := by decide +kernel
theorem dX8_isFirst_1 : decode cX8_isFirst 1 = .ok (.aload_n 0, 1) := by decide +kernel
theorem dX8_isFirst_2 : decode cX8_isFirst 2 = .ok (.getfield 83, 3) := by decide +kernel
theorem dX8_isFirst_5 : decode cX8_isFirst 5 = .ok (.invokevirtual 129, 3) := by decide +kernel
theorem dX8_isFirst_8 : decode cX8_isFirst 8 = .ok (.aload_n 0, 1) := by decide +kernel
theorem dX8_isFirst_9 : decode cX8_isFirst 9 = .ok (.getfield 16, 3) := by decide +kernel
theorem dX8_isFirst_12 : decode cX8_isFirst 12 = .ok (.bipush 54, 2) := by decide +kernel
theorem dX8_isFirst_14 : decode cX8_isFirst 14 = .ok (.iaload, 1) := by decide +kernel
theorem dX8_isFirst_15 : decode cX8_isFirst 15 = .ok (.iload_n 1, 1) := by decide +kernel
theorem dX8_isFirst_16 : decode cX8_isFirst 16 = .ok (.if_icmp .ne 7, 3) := by decide +kernel
theorem dX8_isFirst_19 : decode cX8_isFirst 19 = .ok (.iconst 1, 1) := by decide +kernel
theorem dX8_isFirst_20 : decode cX8_isFirst 20 = .ok (.goto 4, 3) := by decide +kernel
theorem dX8_isFirst_23 : decode cX8_isFirst 23 = .ok (.iconst 0, 1) := by decide +kernel
theorem dX8_isFirst_24 : decode cX8_isFirst 24 = .ok (.ireturn, 1) := by decide +kernel
theorem dX8_keep_0 : decode cX8_keep 0 = .ok (.iload_n 1, 1) := by decide +kernel
theorem dX8_keep_1 : decode cX8_keep 1 = .ok (.i2l, 1) := by decide +kernel
theorem dX8_keep_2 : decode cX8_keep 2 = .ok (.lconst 0, 1) := by decide +kernel
theorem dX8_keep_3 : decode cX8_keep 3 = .ok (.lconst 1, 1) := by decide +kernel
theorem dX8_keep_4 : decode cX8_keep 4 = .ok (.invokestatic 56, 3) := by decide +kernel
theorem dX8_keep_7 : decode cX8_keep 7 = .ok (.ifCond .ne 5, 3) := by decide +kernel
theorem dX8_keep_10 : decode cX8_keep 10 = .ok (.iconst (-1), 1) := by decide +kernel
theorem dX8_keep_11 : decode cX8_keep 11 = .ok (.ireturn, 1) := by decide +kernel
theorem dX8_keep_12 : decode cX8_keep 12 = .ok (.aload_n 0, 1) := by decide +kernel
theorem dX8_keep_13 : decode cX8_keep 13 = .ok (.getfield 43, 3) := by decide +kernel
theorem dX8_keep_16 : decode cX8_keep 16 = .ok (.iload_n 1, 1) := by decide +kernel
theorem dX8_keep_17 : decode cX8_keep 17 = .ok (.iconst 1, 1) := by decide +kernel
theorem dX8_keep_18 : decode cX8_keep 18 = .ok (.bastore, 1) := by decide +kernel
theorem dX8_keep_19 : decode cX8_keep 19 = .ok (.iconst 0, 1) := by decide +kernel
theorem dX8_keep_20 : decode cX8_keep 20 = .ok (.istore_n 2, 1) := by decide +kernel
theorem dX8_keep_21 : decode cX8_keep 21 = .ok (.iload_n 2, 1) := by decide +kernel
theorem dX8_keep_22 : decode cX8_keep 22 = .ok (.bipush 54, 2) := by decide +kernel
theorem dX8_keep_24 : decode cX8_keep 24 = .ok (.if_icmp .ge 26, 3) := by decide +kernel
theorem dX8_keep_27 : decode cX8_keep 27 = .ok (.aload_n 0, 1) := by decide +kernel
theorem dX8_keep_28 : decode cX8_keep 28 = .ok (.getfield 47, 3) := by decide +kernel
theorem dX8_keep_31 : decode cX8_keep 31 = .ok (.bipush 54, 2) := by decide +kernel
theorem dX8_keep_33 : decode cX8_keep 33 = .ok (.iload_n 1, 1) := by decide +kernel
theorem dX8_keep_34 : decode cX8_keep 34 = .ok (.imul, 1) := by decide +kernel
theorem dX8_keep_35 : decode cX8_keep 35 = .ok (.iload_n 2, 1) := by decide +kernel
theorem dX8_keep_36 : decode cX8_keep 36 = .ok (.iadd, 1) := by decide +kernel
theorem dX8_keep_37 : decode cX8_keep 37 = .ok (.aload_n 0, 1) := by decide +kernel
theorem dX8_keep_38 : decode cX8_keep 38 = .ok (.getfield 16, 3) := by decide +kernel
theorem dX8_keep_41 : decode cX8_keep 41 = .ok (.iload_n 2, 1) := by decide +kernel
theorem dX8_keep_42 : decode cX8_keep 42 = .ok (.iaload, 1) := by decide +kernel
theorem dX8_keep_43 : decode cX8_keep 43 = .ok (.iastore, 1) := by decide +kernel
theorem dX8_keep_44 : decode cX8_keep 44 = .ok (.iinc 2 1, 3) := by decide +kernel
theorem dX8_keep_47 : decode cX8_keep 47 = .ok (.goto (-26), 3) := by decide +kernel
theorem dX8_keep_50 : decode cX8_keep 50 = .ok (.aload_n 0, 1) := by decide +kernel
theorem dX8_keep_51 : decode cX8_keep 51 = .ok (.getfield 16, 3) := by decide +kernel
theorem dX8_keep_54 : decode cX8_keep 54 = .ok (.bipush 53, 2) := by decide +kernel
theorem dX8_keep_56 : decode cX8_keep 56 = .ok (.iaload, 1) := by decide +kernel
theorem dX8_keep_57 : decode cX8_keep 57 = .ok (.ireturn, 1) := by decide +kernel
theorem dX8_again_0 : decode cX8_again 0 = .ok (.iload_n 1, 1) := by decide +kernel
theorem dX8_again_1 : decode cX8_again 1 = .ok (.i2l, 1) := by decide +kernel
theorem dX8_again_2 : decode cX8_again 2 = .ok (.lconst 0, 1) := by decide +kernel
theorem dX8_again_3 : decode cX8_again 3 = .ok (.lconst 1, 1) := by decide +kernel
theorem dX8_again_4 : decode cX8_again 4 = .ok (.invokestatic 56, 3) := by decide +kernel
theorem dX8_again_7 : decode cX8_again 7 = .ok (.ifCond .ne 5, 3) := by decide +kernel
theorem dX8_again_10 : decode cX8_again 10 = .ok (.iconst (-1), 1) := by decide +kernel
theorem dX8_again_11 : decode cX8_again 11 = .ok (.ireturn, 1) := by decide +kernel
theorem dX8_again_12 : decode cX8_again 12 = .ok (.aload_n 0, 1) := by decide +kernel
theorem dX8_again_13 : decode cX8_again 13 = .ok (.getfield 43, 3) := by decide +kernel
theorem dX8_again_16 : decode cX8_again 16 = .ok (.iload_n 1, 1) := by decide +kernel
theorem dX8_again_17 : decode cX8_again 17 = .ok (.baload, 1) := by decide +kernel
theorem dX8_again_18 : decode cX8_again 18 = .ok (.ifCond .ne 6, 3) := by decide +kernel
theorem dX8_again_21 : decode cX8_again 21 = .ok (.bipush (-3), 2) := by decide +kernel
theorem dX8_again_23 : decode cX8_again 23 = .ok (.ireturn, 1) := by decide +kernel
theorem dX8_again_24 : decode cX8_again 24 = .ok (.iconst 0, 1) := by decide +kernel
theorem dX8_again_25 : decode cX8_again 25 = .ok (.istore_n 2, 1) := by decide +kernel
theorem dX8_again_26 : decode cX8_again 26 = .ok (.iload_n 2, 1) := by decide +kernel
theorem dX8_again_27 : decode cX8_again 27 = .ok (.bipush 54, 2) := by decide +kernel
theorem dX8_again_29 : decode cX8_again 29 = .ok (.if_icmp .ge 26, 3) := by decide +kernel
theorem dX8_again_32 : decode cX8_again 32 = .ok (.aload_n 0, 1) := by decide +kernel
theorem dX8_again_33 : decode cX8_again 33 = .ok (.getfield 16, 3) := by decide +kernel
theorem dX8_again_36 : decode cX8_again 36 = .ok (.iload_n 2, 1) := by decide +kernel
theorem dX8_again_37 : decode cX8_again 37 = .ok (.aload_n 0, 1) := by decide +kernel
theorem dX8_again_38 : decode cX8_again 38 = .ok (.getfield 47, 3) := by decide +kernel
theorem dX8_again_41 : decode cX8_again 41 = .ok (.bipush 54, 2) := by decide +kernel
theorem dX8_again_43 : decode cX8_again 43 = .ok (.iload_n 1, 1) := by decide +kernel
theorem dX8_again_44 : decode cX8_again 44 = .ok (.imul, 1) := by decide +kernel
theorem dX8_again_45 : decode cX8_again 45 = .ok (.iload_n 2, 1) := by decide +kernel
theorem dX8_again_46 : decode cX8_again 46 = .ok (.iadd, 1) := by decide +kernel
theorem dX8_again_47 : decode cX8_again 47 = .ok (.iaload, 1) := by decide +kernel
theorem dX8_again_48 : decode cX8_again 48 = .ok (.iastore, 1) := by decide +kernel
theorem dX8_again_49 : decode cX8_again 49 = .ok (.iinc 2 1, 3) := by decide +kernel
theorem dX8_again_52 : decode cX8_again 52 = .ok (.goto (-26), 3) := by decide +kernel
theorem dX8_again_55 : decode cX8_again 55 = .ok (.aload_n 0, 1) := by decide +kernel
theorem dX8_again_56 : decode cX8_again 56 = .ok (.iconst 0, 1) := by decide +kernel
theorem dX8_again_57 : decode cX8_again 57 = .ok (.putfield 86, 3) := by decide +kernel
theorem dX8_again_60 : decode cX8_again 60 = .ok (.aload_n 0, 1) := by decide +kernel
theorem dX8_again_61 : decode cX8_again 61 = .ok (.getfield 16, 3) := by decide +kernel
theorem dX8_again_64 : decode cX8_again 64 = .ok (.bipush 53, 2) := by decide +kernel
theorem dX8_again_66 : decode cX8_again 66 = .ok (.iaload, 1) := by decide +kernel
theorem dX8_again_67 : decode cX8_again 67 = .ok (.ireturn, 1) := by decide +kernel
theorem dX8_sumOf_0 : decode cX8_sumOf 0 = .ok (.iconst 0, 1) := by decide +kernel
theorem dX8_sumOf_1 : decode cX8_sumOf 1 = .ok (.istore_n 3, 1) := by decide +kernel
theorem dX8_sumOf_2 : decode cX8_sumOf 2 = .ok (.iconst 0, 1) := by decide +kernel
theorem dX8_sumOf_3 : decode cX8_sumOf 3 = .ok (.istore 4, 2) := by decide +kernel
theorem dX8_sumOf_5 : decode cX8_sumOf 5 = .ok (.iload 4, 2) := by decide +kernel
theorem dX8_sumOf_7 : decode cX8_sumOf 7 = .ok (.iload_n 2, 1) := by decide +kernel
theorem dX8_sumOf_8 : decode cX8_sumOf 8 = .ok (.if_icmp .ge 21, 3) := by decide +kernel
theorem dX8_sumOf_11 : decode cX8_sumOf 11 = .ok (.iload_n 3, 1) := by decide +kernel
theorem dX8_sumOf_12 : decode cX8_sumOf 12 = .ok (.aload_n 0, 1) := by decide +kernel
theorem dX8_sumOf_13 : decode cX8_sumOf 13 = .ok (.getfield 16, 3) := by decide +kernel
theorem dX8_sumOf_16 : decode cX8_sumOf 16 = .ok (.iload_n 1, 1) := by decide +kernel
theorem dX8_sumOf_17 : decode cX8_sumOf 17 = .ok (.iload 4, 2) := by decide +kernel
theorem dX8_sumOf_19 : decode cX8_sumOf 19 = .ok (.iadd, 1) := by decide +kernel
theorem dX8_sumOf_20 : decode cX8_sumOf 20 = .ok (.iaload, 1) := by decide +kernel
theorem dX8_sumOf_21 : decode cX8_sumOf 21 = .ok (.iadd, 1) := by decide +kernel
theorem dX8_sumOf_22 : decode cX8_sumOf 22 = .ok (.istore_n 3, 1) := by decide +kernel
theorem dX8_sumOf_23 : decode cX8_sumOf 23 = .ok (.iinc 4 1, 3) := by decide +kernel
theorem dX8_sumOf_26 : decode cX8_sumOf 26 = .ok (.goto (-21), 3) := by decide +kernel
theorem dX8_sumOf_29 : decode cX8_sumOf 29 = .ok (.iload_n 3, 1) := by decide +kernel
theorem dX8_sumOf_30 : decode cX8_sumOf 30 = .ok (.ireturn, 1) := by decide +kernel
theorem dX8_count_0 : decode cX8_count 0 = .ok (.aload_n 0, 1) := by decide +kernel
theorem dX8_count_1 : decode cX8_count 1 = .ok (.invokevirtual 133, 3) := by decide +kernel
theorem dX8_count_4 : decode cX8_count 4 = .ok (.iload_n 1, 1) := by decide +kernel
theorem dX8_count_5 : decode cX8_count 5 = .ok (.tableswitch 119 0 8 #[51, 56, 61, 66, 74, 84, 95, 104, 109], 51) := by decide +kernel
theorem dX8_count_56 : decode cX8_count 56 = .ok (.aload_n 0, 1) := by decide +kernel
theorem dX8_count_57 : decode cX8_count 57 = .ok (.getfield 60, 3) := by decide +kernel
theorem dX8_count_60 : decode cX8_count 60 = .ok (.ireturn, 1) := by decide +kernel
theorem dX8_count_61 : decode cX8_count 61 = .ok (.aload_n 0, 1) := by decide +kernel
theorem dX8_count_62 : decode cX8_count 62 = .ok (.getfield 50, 3) := by decide +kernel
theorem dX8_count_65 : decode cX8_count 65 = .ok (.ireturn, 1) := by decide +kernel
theorem dX8_count_66 : decode cX8_count 66 = .ok (.aload_n 0, 1) := by decide +kernel
theorem dX8_count_67 : decode cX8_count 67 = .ok (.getfield 83, 3) := by decide +kernel
theorem dX8_count_70 : decode cX8_count 70 = .ok (.ireturn, 1) := by decide +kernel
theorem dX8_count_71 : decode cX8_count 71 = .ok (.aload_n 0, 1) := by decide +kernel
theorem dX8_count_72 : decode cX8_count 72 = .ok (.getfield 16, 3) := by decide +kernel
theorem dX8_count_75 : decode cX8_count 75 = .ok (.bipush 53, 2) := by decide +kernel
theorem dX8_count_77 : decode cX8_count 77 = .ok (.iaload, 1) := by decide +kernel
theorem dX8_count_78 : decode cX8_count 78 = .ok (.ireturn, 1) := by decide +kernel
theorem dX8_count_79 : decode cX8_count 79 = .ok (.aload_n 0, 1) := by decide +kernel
theorem dX8_count_80 : decode cX8_count 80 = .ok (.iconst 0, 1) := by decide +kernel
theorem dX8_count_81 : decode cX8_count 81 = .ok (.aload_n 0, 1) := by decide +kernel
theorem dX8_count_82 : decode cX8_count 82 = .ok (.getfield 83, 3) := by decide +kernel
theorem dX8_count_85 : decode cX8_count 85 = .ok (.invokevirtual 121, 3) := by decide +kernel
theorem dX8_count_88 : decode cX8_count 88 = .ok (.ireturn, 1) := by decide +kernel
theorem dX8_count_89 : decode cX8_count 89 = .ok (.aload_n 0, 1) := by decide +kernel
theorem dX8_count_90 : decode cX8_count 90 = .ok (.bipush 17, 2) := by decide +kernel
theorem dX8_count_92 : decode cX8_count 92 = .ok (.aload_n 0, 1) := by decide +kernel
theorem dX8_count_93 : decode cX8_count 93 = .ok (.getfield 83, 3) := by decide +kernel
theorem dX8_count_96 : decode cX8_count 96 = .ok (.invokevirtual 202, 3) := by decide +kernel
theorem dX8_count_99 : decode cX8_count 99 = .ok (.ireturn, 1) := by decide +kernel
theorem dX8_count_100 : decode cX8_count 100 = .ok (.aload_n 0, 1) := by decide +kernel
theorem dX8_count_101 : decode cX8_count 101 = .ok (.bipush 23, 2) := by decide +kernel
theorem dX8_count_103 : decode cX8_count 103 = .ok (.bipush 30, 2) := by decide +kernel
theorem dX8_count_105 : decode cX8_count 105 = .ok (.invokevirtual 202, 3) := by decide +kernel
theorem dX8_count_108 : decode cX8_count 108 = .ok (.ireturn, 1) := by decide +kernel
theorem dX8_count_109 : decode cX8_count 109 = .ok (.aload_n 0, 1) := by decide +kernel
theorem dX8_count_110 : decode cX8_count 110 = .ok (.getfield 86, 3) := by decide +kernel
theorem dX8_count_113 : decode cX8_count 113 = .ok (.ireturn, 1) := by decide +kernel
theorem dX8_count_114 : decode cX8_count 114 = .ok (.aload_n 0, 1) := by decide +kernel
theorem dX8_count_115 : decode cX8_count 115 = .ok (.iconst 1, 1) := by decide +kernel
theorem dX8_count_116 : decode cX8_count 116 = .ok (.aload_n 0, 1) := by decide +kernel
theorem dX8_count_117 : decode cX8_count 117 = .ok (.getfield 83, 3) := by decide +kernel
theorem dX8_count_120 : decode cX8_count 120 = .ok (.invokevirtual 157, 3) := by decide +kernel
theorem dX8_count_123 : decode cX8_count 123 = .ok (.ireturn, 1) := by decide +kernel
theorem dX8_count_124 : decode cX8_count 124 = .ok (.bipush (-2), 2) := by decide +kernel
theorem dX8_count_126 : decode cX8_count 126 = .ok (.ireturn, 1) := by decide +kernel
