theorem dX0_init_0 : decode cX0_init 0 = .ok (.aload_n 0, 1) := by decide +kernel
theorem dX0_init_1 : decode cX0_init 1 = .ok (.invokespecial 3, 3) := by decide +kernel
theorem dX0_init_4 : decode cX0_init 4 = .ok (.aload_n 0, 1) := by decide +kernel
theorem dX0_init_5 : decode cX0_init 5 = .ok (.bipush 14, 2) := by decide +kernel
theorem dX0_init_7 : decode cX0_init 7 = .ok (.anewarray 9, 3) := by decide +kernel
theorem dX0_init_10 : decode cX0_init 10 = .ok (.putfield 11, 3) := by decide +kernel
theorem dX0_init_13 : decode cX0_init 13 = .ok (.iconst 0, 1) := by decide +kernel
theorem dX0_init_14 : decode cX0_init 14 = .ok (.istore_n 1, 1) := by decide +kernel
theorem dX0_init_15 : decode cX0_init 15 = .ok (.iload_n 1, 1) := by decide +kernel
theorem dX0_init_16 : decode cX0_init 16 = .ok (.bipush 14, 2) := by decide +kernel
theorem dX0_init_18 : decode cX0_init 18 = .ok (.if_icmp .ge 22, 3) := by decide +kernel
theorem dX0_init_21 : decode cX0_init 21 = .ok (.aload_n 0, 1) := by decide +kernel
theorem dX0_init_22 : decode cX0_init 22 = .ok (.getfield 11, 3) := by decide +kernel
theorem dX0_init_25 : decode cX0_init 25 = .ok (.iload_n 1, 1) := by decide +kernel
theorem dX0_init_26 : decode cX0_init 26 = .ok (.new 9, 3) := by decide +kernel
theorem dX0_init_29 : decode cX0_init 29 = .ok (.dup, 1) := by decide +kernel
theorem dX0_init_30 : decode cX0_init 30 = .ok (.invokespecial 17, 3) := by decide +kernel
theorem dX0_init_33 : decode cX0_init 33 = .ok (.aastore, 1) := by decide +kernel
theorem dX0_init_34 : decode cX0_init 34 = .ok (.iinc 1 1, 3) := by decide +kernel
theorem dX0_init_37 : decode cX0_init 37 = .ok (.goto (-22), 3) := by decide +kernel
theorem dX0_init_40 : decode cX0_init 40 = .ok (.return_, 1) := by decide +kernel
theorem dX0_remember_0 : decode cX0_remember 0 = .ok (.aload_n 0, 1) := by decide +kernel
theorem dX0_remember_1 : decode cX0_remember 1 = .ok (.getfield 11, 3) := by decide +kernel
theorem dX0_remember_4 : decode cX0_remember 4 = .ok (.aload_n 0, 1) := by decide +kernel
theorem dX0_remember_5 : decode cX0_remember 5 = .ok (.getfield 18, 3) := by decide +kernel
theorem dX0_remember_8 : decode cX0_remember 8 = .ok (.aload_n 0, 1) := by decide +kernel
theorem dX0_remember_9 : decode cX0_remember 9 = .ok (.getfield 22, 3) := by decide +kernel
theorem dX0_remember_12 : decode cX0_remember 12 = .ok (.iadd, 1) := by decide +kernel
theorem dX0_remember_13 : decode cX0_remember 13 = .ok (.bipush 14, 2) := by decide +kernel
theorem dX0_remember_15 : decode cX0_remember 15 = .ok (.irem, 1) := by decide +kernel
theorem dX0_remember_16 : decode cX0_remember 16 = .ok (.aaload, 1) := by decide +kernel
theorem dX0_remember_17 : decode cX0_remember 17 = .ok (.aload_n 1, 1) := by decide +kernel
theorem dX0_remember_18 : decode cX0_remember 18 = .ok (.invokevirtual 25, 3) := by decide +kernel
theorem dX0_remember_21 : decode cX0_remember 21 = .ok (.aload_n 0, 1) := by decide +kernel
theorem dX0_remember_22 : decode cX0_remember 22 = .ok (.getfield 22, 3) := by decide +kernel
theorem dX0_remember_25 : decode cX0_remember 25 = .ok (.bipush 14, 2) := by decide +kernel
theorem dX0_remember_27 : decode cX0_remember 27 = .ok (.if_icmp .ge 16, 3) := by decide +kernel
theorem dX0_remember_30 : decode cX0_remember 30 = .ok (.aload_n 0, 1) := by decide +kernel
theorem dX0_remember_31 : decode cX0_remember 31 = .ok (.dup, 1) := by decide +kernel
theorem dX0_remember_32 : decode cX0_remember 32 = .ok (.getfield 22, 3) := by decide +kernel
theorem dX0_remember_35 : decode cX0_remember 35 = .ok (.iconst 1, 1) := by decide +kernel
theorem dX0_remember_36 : decode cX0_remember 36 = .ok (.iadd, 1) := by decide +kernel
theorem dX0_remember_37 : decode cX0_remember 37 = .ok (.putfield 22, 3) := by decide +kernel
theorem dX0_remember_40 : decode cX0_remember 40 = .ok (.goto 16, 3) := by decide +kernel
theorem dX0_remember_43 : decode cX0_remember 43 = .ok (.aload_n 0, 1) := by decide +kernel
theorem dX0_remember_44 : decode cX0_remember 44 = .ok (.aload_n 0, 1) := by decide +kernel
theorem dX0_remember_45 : decode cX0_remember 45 = .ok (.getfield 18, 3) := by decide +kernel
theorem dX0_remember_48 : decode cX0_remember 48 = .ok (.iconst 1, 1) := by decide +kernel
theorem dX0_remember_49 : decode cX0_remember 49 = .ok (.iadd, 1) := by decide +kernel
theorem dX0_remember_50 : decode cX0_remember 50 = .ok (.bipush 14, 2) := by decide +kernel
theorem dX0_remember_52 : decode cX0_remember 52 = .ok (.irem, 1) := by decide +kernel
theorem dX0_remember_53 : decode cX0_remember 53 = .ok (.putfield 18, 3) := by decide +kernel
theorem dX0_remember_56 : decode cX0_remember 56 = .ok (.return_, 1) := by decide +kernel
theorem dX0_takeBack_0 : decode cX0_takeBack 0 = .ok (.aload_n 0, 1) := by decide +kernel
theorem dX0_takeBack_1 : decode cX0_takeBack 1 = .ok (.getfield 22, 3) := by decide +kernel
theorem dX0_takeBack_4 : decode cX0_takeBack 4 = .ok (.ifCond .le 34, 3) := by decide +kernel
theorem dX0_takeBack_7 : decode cX0_takeBack 7 = .ok (.aload_n 0, 1) := by decide +kernel
theorem dX0_takeBack_8 : decode cX0_takeBack 8 = .ok (.dup, 1) := by decide +kernel
theorem dX0_takeBack_9 : decode cX0_takeBack 9 = .ok (.getfield 22, 3) := by decide +kernel
theorem dX0_takeBack_12 : decode cX0_takeBack 12 = .ok (.iconst 1, 1) := by decide +kernel
theorem dX0_takeBack_13 : decode cX0_takeBack 13 = .ok (.isub, 1) := by decide +kernel
theorem dX0_takeBack_14 : decode cX0_takeBack 14 = .ok (.putfield 22, 3) := by decide +kernel
theorem dX0_takeBack_17 : decode cX0_takeBack 17 = .ok (.aload_n 1, 1) := by decide +kernel
theorem dX0_takeBack_18 : decode cX0_takeBack 18 = .ok (.aload_n 0, 1) := by decide +kernel
theorem dX0_takeBack_19 : decode cX0_takeBack 19 = .ok (.getfield 11, 3) := by decide +kernel
theorem dX0_takeBack_22 : decode cX0_takeBack 22 = .ok (.aload_n 0, 1) := by decide +kernel
theorem dX0_takeBack_23 : decode cX0_takeBack 23 = .ok (.getfield 18, 3) := by decide +kernel
theorem dX0_takeBack_26 : decode cX0_takeBack 26 = .ok (.aload_n 0, 1) := by decide +kernel
theorem dX0_takeBack_27 : decode cX0_takeBack 27 = .ok (.getfield 22, 3) := by decide +kernel
theorem dX0_takeBack_30 : decode cX0_takeBack 30 = .ok (.iadd, 1) := by decide +kernel
theorem dX0_takeBack_31 : decode cX0_takeBack 31 = .ok (.bipush 14, 2) := by decide +kernel
theorem dX0_takeBack_33 : decode cX0_takeBack 33 = .ok (.irem, 1) := by decide +kernel
theorem dX0_takeBack_34 : decode cX0_takeBack 34 = .ok (.aaload, 1) := by decide +kernel
theorem dX0_takeBack_35 : decode cX0_takeBack 35 = .ok (.invokevirtual 25, 3) := by decide +kernel
theorem dX0_takeBack_38 : decode cX0_takeBack 38 = .ok (.return_, 1) := by decide +kernel
theorem dX0_forgetAll_0 : decode cX0_forgetAll 0 = .ok (.aload_n 0, 1) := by decide +kernel
theorem dX0_forgetAll_1 : decode cX0_forgetAll 1 = .ok (.iconst 0, 1) := by decide +kernel
theorem dX0_forgetAll_2 : decode cX0_forgetAll 2 = .ok (.putfield 22, 3) := by decide +kernel
theorem dX0_forgetAll_5 : decode cX0_forgetAll 5 = .ok (.return_, 1) := by decide +kernel
theorem dX1_init_0 : decode cX1_init 0 = .ok (.aload_n 0, 1) := by decide +kernel
theorem dX1_init_1 : decode cX1_init 1 = .ok (.invokespecial 3, 3) := by decide +kernel
theorem dX1_init_4 : decode cX1_init 4 = .ok (.aload_n 0, 1) := by decide +kernel
theorem dX1_init_5 : decode cX1_init 5 = .ok (.bipush 6, 2) := by decide +kernel
theorem dX1_init_7 : decode cX1_init 7 = .ok (.newarray .int, 2) := by decide +kernel
theorem dX1_init_9 : decode cX1_init 9 = .ok (.putfield 9, 3) := by decide +kernel
theorem dX1_init_12 : decode cX1_init 12 = .ok (.aload_n 0, 1) := by decide +kernel
theorem dX1_init_13 : decode cX1_init 13 = .ok (.bipush 6, 2) := by decide +kernel
theorem dX1_init_15 : decode cX1_init 15 = .ok (.newarray .int, 2) := by decide +kernel
theorem dX1_init_17 : decode cX1_init 17 = .ok (.putfield 15, 3) := by decide +kernel
theorem dX1_init_20 : decode cX1_init 20 = .ok (.aload_n 0, 1) := by decide +kernel
theorem dX1_init_21 : decode cX1_init 21 = .ok (.new 18, 3) := by decide +kernel
theorem dX1_init_24 : decode cX1_init 24 = .ok (.dup, 1) := by decide +kernel
theorem dX1_init_25 : decode cX1_init 25 = .ok (.invokespecial 20, 3) := by decide +kernel
theorem dX1_init_28 : decode cX1_init 28 = .ok (.putfield 21, 3) := by decide +kernel
theorem dX1_init_31 : decode cX1_init 31 = .ok (.aload_n 0, 1) := by decide +kernel
theorem dX1_init_32 : decode cX1_init 32 = .ok (.new 18, 3) := by decide +kernel
theorem dX1_init_35 : decode cX1_init 35 = .ok (.dup, 1) := by decide +kernel
theorem dX1_init_36 : decode cX1_init 36 = .ok (.invokespecial 20, 3) := by decide +kernel
theorem dX1_init_39 : decode cX1_init 39 = .ok (.putfield 25, 3) := by decide +kernel
theorem dX1_init_42 : decode cX1_init 42 = .ok (.return_, 1) := by decide +kernel
theorem dX1_makeFrom_0 : decode cX1_makeFrom 0 = .ok (.aload_n 0, 1) := by decide +kernel
theorem dX1_makeFrom_1 : decode cX1_makeFrom 1 = .ok (.iconst 0, 1) := by decide +kernel
theorem dX1_makeFrom_2 : decode cX1_makeFrom 2 = .ok (.putfield 28, 3) := by decide +kernel
theorem dX1_makeFrom_5 : decode cX1_makeFrom 5 = .ok (.aload_n 0, 1) := by decide +kernel
theorem dX1_makeFrom_6 : decode cX1_makeFrom 6 = .ok (.iconst 0, 1) := by decide +kernel
theorem dX1_makeFrom_7 : decode cX1_makeFrom 7 = .ok (.putfield 32, 3) := by decide +kernel
theorem dX1_makeFrom_10 : decode cX1_makeFrom 10 = .ok (.aload_n 0, 1) := by decide +kernel
theorem dX1_makeFrom_11 : decode cX1_makeFrom 11 = .ok (.getfield 21, 3) := by decide +kernel
theorem dX1_makeFrom_14 : decode cX1_makeFrom 14 = .ok (.invokevirtual 35, 3) := by decide +kernel
theorem dX1_makeFrom_17 : decode cX1_makeFrom 17 = .ok (.iconst 0, 1) := by decide +kernel
theorem dX1_makeFrom_18 : decode cX1_makeFrom 18 = .ok (.istore_n 2, 1) := by decide +kernel
theorem dX1_makeFrom_19 : decode cX1_makeFrom 19 = .ok (.iload_n 2, 1) := by decide +kernel
theorem dX1_makeFrom_20 : decode cX1_makeFrom 20 = .ok (.aload_n 1, 1) := by decide +kernel
theorem dX1_makeFrom_21 : decode cX1_makeFrom 21 = .ok (.getfield 38, 3) := by decide +kernel
theorem dX1_makeFrom_24 : decode cX1_makeFrom 24 = .ok (.if_icmp .ge 154, 3) := by decide +kernel
theorem dX1_makeFrom_27 : decode cX1_makeFrom 27 = .ok (.aload_n 1, 1) := by decide +kernel
theorem dX1_makeFrom_28 : decode cX1_makeFrom 28 = .ok (.getfield 43, 3) := by decide +kernel
theorem dX1_makeFrom_31 : decode cX1_makeFrom 31 = .ok (.iload_n 2, 1) := by decide +kernel
theorem dX1_makeFrom_32 : decode cX1_makeFrom 32 = .ok (.iaload, 1) := by decide +kernel
theorem dX1_makeFrom_33 : decode cX1_makeFrom 33 = .ok (.istore_n 3, 1) := by decide +kernel
theorem dX1_makeFrom_34 : decode cX1_makeFrom 34 = .ok (.iload_n 3, 1) := by decide +kernel
theorem dX1_makeFrom_35 : decode cX1_makeFrom 35 = .ok (.bipush 75, 2) := by decide +kernel
theorem dX1_makeFrom_37 : decode cX1_makeFrom 37 = .ok (.if_icmp .ne 43, 3) := by decide +kernel
theorem dX1_makeFrom_40 : decode cX1_makeFrom 40 = .ok (.aload_n 0, 1) := by decide +kernel
theorem dX1_makeFrom_41 : decode cX1_makeFrom 41 = .ok (.getfield 28, 3) := by decide +kernel
theorem dX1_makeFrom_44 : decode cX1_makeFrom 44 = .ok (.iconst 5, 1) := by decide +kernel
theorem dX1_makeFrom_45 : decode cX1_makeFrom 45 = .ok (.if_icmp .ge 35, 3) := by decide +kernel
theorem dX1_makeFrom_48 : decode cX1_makeFrom 48 = .ok (.aload_n 0, 1) := by decide +kernel
theorem dX1_makeFrom_49 : decode cX1_makeFrom 49 = .ok (.getfield 21, 3) := by decide +kernel
theorem dX1_makeFrom_52 : decode cX1_makeFrom 52 = .ok (.getfield 46, 3) := by decide +kernel
theorem dX1_makeFrom_55 : decode cX1_makeFrom 55 = .ok (.aload_n 0, 1) := by decide +kernel
theorem dX1_makeFrom_56 : decode cX1_makeFrom 56 = .ok (.getfield 28, 3) := by decide +kernel
theorem dX1_makeFrom_59 : decode cX1_makeFrom 59 = .ok (.aload_n 1, 1) := by decide +kernel
theorem dX1_makeFrom_60 : decode cX1_makeFrom 60 = .ok (.iload_n 2, 1) := by decide +kernel
theorem dX1_makeFrom_61 : decode cX1_makeFrom 61 = .ok (.iconst 1, 1) := by decide +kernel
theorem dX1_makeFrom_62 : decode cX1_makeFrom 62 = .ok (.iadd, 1) := by decide +kernel
theorem dX1_makeFrom_63 : decode cX1_makeFrom 63 = .ok (.invokevirtual 49, 3) := by decide +kernel
theorem dX1_makeFrom_66 : decode cX1_makeFrom 66 = .ok (.iastore, 1) := by decide +kernel
theorem dX1_makeFrom_67 : decode cX1_makeFrom 67 = .ok (.aload_n 0, 1) := by decide +kernel
theorem dX1_makeFrom_68 : decode cX1_makeFrom 68 = .ok (.dup, 1) := by decide +kernel
theorem dX1_makeFrom_69 : decode cX1_makeFrom 69 = .ok (.getfield 28, 3) := by decide +kernel
theorem dX1_makeFrom_72 : decode cX1_makeFrom 72 = .ok (.iconst 1, 1) := by decide +kernel
theorem dX1_makeFrom_73 : decode cX1_makeFrom 73 = .ok (.iadd, 1) := by decide +kernel
theorem dX1_makeFrom_74 : decode cX1_makeFrom 74 = .ok (.putfield 28, 3) := by decide +kernel
theorem dX1_makeFrom_77 : decode cX1_makeFrom 77 = .ok (.goto 95, 3) := by decide +kernel
theorem dX1_makeFrom_80 : decode cX1_makeFrom 80 = .ok (.iload_n 3, 1) := by decide +kernel
theorem dX1_makeFrom_81 : decode cX1_makeFrom 81 = .ok (.bipush 66, 2) := by decide +kernel
theorem dX1_makeFrom_83 : decode cX1_makeFrom 83 = .ok (.if_icmp .ne 89, 3) := by decide +kernel
theorem dX1_makeFrom_86 : decode cX1_makeFrom 86 = .ok (.aload_n 0, 1) := by decide +kernel
theorem dX1_makeFrom_87 : decode cX1_makeFrom 87 = .ok (.getfield 32, 3) := by decide +kernel
theorem dX1_makeFrom_90 : decode cX1_makeFrom 90 = .ok (.bipush 6, 2) := by decide +kernel
theorem dX1_makeFrom_92 : decode cX1_makeFrom 92 = .ok (.if_icmp .ge 80, 3) := by decide +kernel
theorem dX1_makeFrom_95 : decode cX1_makeFrom 95 = .ok (.aload_n 0, 1) := by decide +kernel
theorem dX1_makeFrom_96 : decode cX1_makeFrom 96 = .ok (.getfield 9, 3) := by decide +kernel
theorem dX1_makeFrom_99 : decode cX1_makeFrom 99 = .ok (.aload_n 0, 1) := by decide +kernel
theorem dX1_makeFrom_100 : decode cX1_makeFrom 100 = .ok (.getfield 32, 3) := by decide +kernel
theorem dX1_makeFrom_103 : decode cX1_makeFrom 103 = .ok (.aload_n 1, 1) := by decide +kernel
theorem dX1_makeFrom_104 : decode cX1_makeFrom 104 = .ok (.iload_n 2, 1) := by decide +kernel
theorem dX1_makeFrom_105 : decode cX1_makeFrom 105 = .ok (.iconst 1, 1) := by decide +kernel
theorem dX1_makeFrom_106 : decode cX1_makeFrom 106 = .ok (.iadd, 1) := by decide +kernel
theorem dX1_makeFrom_107 : decode cX1_makeFrom 107 = .ok (.invokevirtual 49, 3) := by decide +kernel
theorem dX1_makeFrom_110 : decode cX1_makeFrom 110 = .ok (.iastore, 1) := by decide +kernel
theorem dX1_makeFrom_111 : decode cX1_makeFrom 111 = .ok (.aload_n 0, 1) := by decide +kernel
theorem dX1_makeFrom_112 : decode cX1_makeFrom 112 = .ok (.getfield 15, 3) := by decide +kernel
theorem dX1_makeFrom_115 : decode cX1_makeFrom 115 = .ok (.aload_n 0, 1) := by decide +kernel
theorem dX1_makeFrom_116 : decode cX1_makeFrom 116 = .ok (.getfield 32, 3) := by decide +kernel
theorem dX1_makeFrom_119 : decode cX1_makeFrom 119 = .ok (.aload_n 1, 1) := by decide +kernel
theorem dX1_makeFrom_120 : decode cX1_makeFrom 120 = .ok (.iload_n 2, 1) := by decide +kernel
theorem dX1_makeFrom_121 : decode cX1_makeFrom 121 = .ok (.iconst 2, 1) := by decide +kernel
theorem dX1_makeFrom_122 : decode cX1_makeFrom 122 = .ok (.iadd, 1) := by decide +kernel
theorem dX1_makeFrom_123 : decode cX1_makeFrom 123 = .ok (.invokevirtual 49, 3) := by decide +kernel
theorem dX1_makeFrom_126 : decode cX1_makeFrom 126 = .ok (.iastore, 1) := by decide +kernel
theorem dX1_makeFrom_127 : decode cX1_makeFrom 127 = .ok (.aload_n 0, 1) := by decide +kernel
theorem dX1_makeFrom_128 : decode cX1_makeFrom 128 = .ok (.getfield 21, 3) := by decide +kernel
theorem dX1_makeFrom_131 : decode cX1_makeFrom 131 = .ok (.getfield 53, 3) := by decide +kernel
theorem dX1_makeFrom_134 : decode cX1_makeFrom 134 = .ok (.aload_n 0, 1) := by decide +kernel
theorem dX1_makeFrom_135 : decode cX1_makeFrom 135 = .ok (.getfield 32, 3) := by decide +kernel
theorem dX1_makeFrom_138 : decode cX1_makeFrom 138 = .ok (.aload_n 1, 1) := by decide +kernel
theorem dX1_makeFrom_139 : decode cX1_makeFrom 139 = .ok (.iload_n 2, 1) := by decide +kernel
theorem dX1_makeFrom_140 : decode cX1_makeFrom 140 = .ok (.iconst 3, 1) := by decide +kernel
theorem dX1_makeFrom_141 : decode cX1_makeFrom 141 = .ok (.iadd, 1) := by decide +kernel
theorem dX1_makeFrom_142 : decode cX1_makeFrom 142 = .ok (.invokevirtual 49, 3) := by decide +kernel
theorem dX1_makeFrom_145 : decode cX1_makeFrom 145 = .ok (.iastore, 1) := by decide +kernel
theorem dX1_makeFrom_146 : decode cX1_makeFrom 146 = .ok (.aload_n 0, 1) := by decide +kernel
theorem dX1_makeFrom_147 : decode cX1_makeFrom 147 = .ok (.getfield 21, 3) := by decide +kernel
theorem dX1_makeFrom_150 : decode cX1_makeFrom 150 = .ok (.getfield 56, 3) := by decide +kernel
theorem dX1_makeFrom_153 : decode cX1_makeFrom 153 = .ok (.aload_n 0, 1) := by decide +kernel
theorem dX1_makeFrom_154 : decode cX1_makeFrom 154 = .ok (.getfield 32, 3) := by decide +kernel
theorem dX1_makeFrom_157 : decode cX1_makeFrom 157 = .ok (.aload_n 0, 1) := by decide +kernel
theorem dX1_makeFrom_158 : decode cX1_makeFrom 158 = .ok (.getfield 32, 3) := by decide +kernel
theorem dX1_makeFrom_161 : decode cX1_makeFrom 161 = .ok (.iastore, 1) := by decide +kernel
theorem dX1_makeFrom_162 : decode cX1_makeFrom 162 = .ok (.aload_n 0, 1) := by decide +kernel
theorem dX1_makeFrom_163 : decode cX1_makeFrom 163 = .ok (.dup, 1) := by decide +kernel
theorem dX1_makeFrom_164 : decode cX1_makeFrom 164 = .ok (.getfield 32, 3) := by decide +kernel
theorem dX1_makeFrom_167 : decode cX1_makeFrom 167 = .ok (.iconst 1, 1) := by decide +kernel
theorem dX1_makeFrom_168 : decode cX1_makeFrom 168 = .ok (.iadd, 1) := by decide +kernel
theorem dX1_makeFrom_169 : decode cX1_makeFrom 169 = .ok (.putfield 32, 3) := by decide +kernel
theorem dX1_makeFrom_172 : decode cX1_makeFrom 172 = .ok (.iinc 2 1, 3) := by decide +kernel
theorem dX1_makeFrom_175 : decode cX1_makeFrom 175 = .ok (.goto (-156), 3) := by decide +kernel
theorem dX1_makeFrom_178 : decode cX1_makeFrom 178 = .ok (.aload_n 0, 1) := by decide +kernel
theorem dX1_makeFrom_179 : decode cX1_makeFrom 179 = .ok (.getfield 21, 3) := by decide +kernel
theorem dX1_makeFrom_182 : decode cX1_makeFrom 182 = .ok (.aload_n 0, 1) := by decide +kernel
theorem dX1_makeFrom_183 : decode cX1_makeFrom 183 = .ok (.getfield 32, 3) := by decide +kernel
theorem dX1_makeFrom_186 : decode cX1_makeFrom 186 = .ok (.putfield 59, 3) := by decide +kernel
theorem dX1_makeFrom_189 : decode cX1_makeFrom 189 = .ok (.return_, 1) := by decide +kernel
theorem dX1_hasBarge_0 : decode cX1_hasBarge 0 = .ok (.iload_n 1, 1) := by decide +kernel
theorem dX1_hasBarge_1 : decode cX1_hasBarge 1 = .ok (.ifCond .lt 15, 3) := by decide +kernel
theorem dX1_hasBarge_4 : decode cX1_hasBarge 4 = .ok (.iload_n 1, 1) := by decide +kernel
theorem dX1_hasBarge_5 : decode cX1_hasBarge 5 = .ok (.aload_n 0, 1) := by decide +kernel
theorem dX1_hasBarge_6 : decode cX1_hasBarge 6 = .ok (.getfield 32, 3) := by decide +kernel
theorem dX1_hasBarge_9 : decode cX1_hasBarge 9 = .ok (.if_icmp .ge 7, 3) := by decide +kernel
theorem dX1_hasBarge_12 : decode cX1_hasBarge 12 = .ok (.iconst 1, 1) := by decide +kernel
theorem dX1_hasBarge_13 : decode cX1_hasBarge 13 = .ok (.goto 4, 3) := by decide +kernel
theorem dX1_hasBarge_16 : decode cX1_hasBarge 16 = .ok (.iconst 0, 1) := by decide +kernel
theorem dX1_hasBarge_17 : decode cX1_hasBarge 17 = .ok (.ireturn, 1) := by decide +kernel
theorem dX1_hasLock_0 : decode cX1_hasLock 0 = .ok (.iload_n 1, 1) := by decide +kernel
theorem dX1_hasLock_1 : decode cX1_hasLock 1 = .ok (.ifCond .lt 15, 3) := by decide +kernel
theorem dX1_hasLock_4 : decode cX1_hasLock 4 = .ok (.iload_n 1, 1) := by decide +kernel
theorem dX1_hasLock_5 : decode cX1_hasLock 5 = .ok (.aload_n 0, 1) := by decide +kernel
theorem dX1_hasLock_6 : decode cX1_hasLock 6 = .ok (.getfield 28, 3) := by decide +kernel
theorem dX1_hasLock_9 : decode cX1_hasLock 9 = .ok (.if_icmp .ge 7, 3) := by decide +kernel
theorem dX1_hasLock_12 : decode cX1_hasLock 12 = .ok (.iconst 1, 1) := by decide +kernel
theorem dX1_hasLock_13 : decode cX1_hasLock 13 = .ok (.goto 4, 3) := by decide +kernel
theorem dX1_hasLock_16 : decode cX1_hasLock 16 = .ok (.iconst 0, 1) := by decide +kernel
theorem dX1_hasLock_17 : decode cX1_hasLock 17 = .ok (.ireturn, 1) := by decide +kernel
theorem dX1_isPassed_0 : decode cX1_isPassed 0 = .ok (.iload_n 1, 1) := by decide +kernel
theorem dX1_isPassed_1 : decode cX1_isPassed 1 = .ok (.aload_n 0, 1) := by decide +kernel
theorem dX1_isPassed_2 : decode cX1_isPassed 2 = .ok (.getfield 21, 3) := by decide +kernel
theorem dX1_isPassed_5 : decode cX1_isPassed 5 = .ok (.getfield 62, 3) := by decide +kernel
theorem dX1_isPassed_8 : decode cX1_isPassed 8 = .ok (.if_icmp .ge 7, 3) := by decide +kernel
theorem dX1_isPassed_11 : decode cX1_isPassed 11 = .ok (.iconst 1, 1) := by decide +kernel
theorem dX1_isPassed_12 : decode cX1_isPassed 12 = .ok (.goto 4, 3) := by decide +kernel
theorem dX1_isPassed_15 : decode cX1_isPassed 15 = .ok (.iconst 0, 1) := by decide +kernel
theorem dX1_isPassed_16 : decode cX1_isPassed 16 = .ok (.ireturn, 1) := by decide +kernel
theorem dX1_locksLeft_0 : decode cX1_locksLeft 0 = .ok (.aload_n 0, 1) := by decide +kernel
theorem dX1_locksLeft_1 : decode cX1_locksLeft 1 = .ok (.getfield 28, 3) := by decide +kernel
theorem dX1_locksLeft_4 : decode cX1_locksLeft 4 = .ok (.aload_n 0, 1) := by decide +kernel
theorem dX1_locksLeft_5 : decode cX1_locksLeft 5 = .ok (.getfield 21, 3) := by decide +kernel
theorem dX1_locksLeft_8 : decode cX1_locksLeft 8 = .ok (.getfield 62, 3) := by decide +kernel
theorem dX1_locksLeft_11 : decode cX1_locksLeft 11 = .ok (.isub, 1) := by decide +kernel
theorem dX1_locksLeft_12 : decode cX1_locksLeft 12 = .ok (.ireturn, 1) := by decide +kernel
theorem dX1_newTrial_0 : decode cX1_newTrial 0 = .ok (.aload_n 0, 1) := by decide +kernel
theorem dX1_newTrial_1 : decode cX1_newTrial 1 = .ok (.getfield 25, 3) := by decide +kernel
theorem dX1_newTrial_4 : decode cX1_newTrial 4 = .ok (.aload_n 0, 1) := by decide +kernel
theorem dX1_newTrial_5 : decode cX1_newTrial 5 = .ok (.getfield 21, 3) := by decide +kernel
theorem dX1_newTrial_8 : decode cX1_newTrial 8 = .ok (.invokevirtual 65, 3) := by decide +kernel
theorem dX1_newTrial_11 : decode cX1_newTrial 11 = .ok (.aload_n 0, 1) := by decide +kernel
theorem dX1_newTrial_12 : decode cX1_newTrial 12 = .ok (.getfield 25, 3) := by decide +kernel
theorem dX1_newTrial_15 : decode cX1_newTrial 15 = .ok (.areturn, 1) := by decide +kernel
theorem dX1_atBasin_0 : decode cX1_atBasin 0 = .ok (.aload_n 0, 1) := by decide +kernel
theorem dX1_atBasin_1 : decode cX1_atBasin 1 = .ok (.invokevirtual 69, 3) := by decide +kernel
theorem dX1_atBasin_4 : decode cX1_atBasin 4 = .ok (.astore_n 1, 1) := by decide +kernel
theorem dX1_atBasin_5 : decode cX1_atBasin 5 = .ok (.aload_n 0, 1) := by decide +kernel
theorem dX1_atBasin_6 : decode cX1_atBasin 6 = .ok (.aload_n 1, 1) := by decide +kernel
theorem dX1_atBasin_7 : decode cX1_atBasin 7 = .ok (.aload_n 0, 1) := by decide +kernel
theorem dX1_atBasin_8 : decode cX1_atBasin 8 = .ok (.getfield 28, 3) := by decide +kernel
theorem dX1_atBasin_11 : decode cX1_atBasin 11 = .ok (.invokevirtual 73, 3) := by decide +kernel
theorem dX1_atBasin_14 : decode cX1_atBasin 14 = .ok (.aload_n 1, 1) := by decide +kernel
theorem dX1_atBasin_15 : decode cX1_atBasin 15 = .ok (.areturn, 1) := by decide +kernel
theorem dX1_goOnTo_0 : decode cX1_goOnTo 0 = .ok (.aload_n 1, 1) := by decide +kernel
theorem dX1_goOnTo_1 : decode cX1_goOnTo 1 = .ok (.getfield 62, 3) := by decide +kernel
theorem dX1_goOnTo_4 : decode cX1_goOnTo 4 = .ok (.istore_n 3, 1) := by decide +kernel
theorem dX1_goOnTo_5 : decode cX1_goOnTo 5 = .ok (.iload_n 3, 1) := by decide +kernel
theorem dX1_goOnTo_6 : decode cX1_goOnTo 6 = .ok (.iload_n 2, 1) := by decide +kernel
theorem dX1_goOnTo_7 : decode cX1_goOnTo 7 = .ok (.if_icmp .ge 14, 3) := by decide +kernel
theorem dX1_goOnTo_10 : decode cX1_goOnTo 10 = .ok (.aload_n 0, 1) := by decide +kernel
theorem dX1_goOnTo_11 : decode cX1_goOnTo 11 = .ok (.aload_n 1, 1) := by decide +kernel
theorem dX1_goOnTo_12 : decode cX1_goOnTo 12 = .ok (.invokevirtual 77, 3) := by decide +kernel
theorem dX1_goOnTo_15 : decode cX1_goOnTo 15 = .ok (.iinc 3 1, 3) := by decide +kernel
theorem dX1_goOnTo_18 : decode cX1_goOnTo 18 = .ok (.goto (-13), 3) := by decide +kernel
theorem dX1_goOnTo_21 : decode cX1_goOnTo 21 = .ok (.return_, 1) := by decide +kernel
theorem dX1_goThroughNext_0 : decode cX1_goThroughNext 0 = .ok (.aload_n 1, 1) := by decide +kernel
theorem dX1_goThroughNext_1 : decode cX1_goThroughNext 1 = .ok (.getfield 62, 3) := by decide +kernel
theorem dX1_goThroughNext_4 : decode cX1_goThroughNext 4 = .ok (.istore_n 2, 1) := by decide +kernel
theorem dX1_goThroughNext_5 : decode cX1_goThroughNext 5 = .ok (.aload_n 0, 1) := by decide +kernel
theorem dX1_goThroughNext_6 : decode cX1_goThroughNext 6 = .ok (.iload_n 2, 1) := by decide +kernel
theorem dX1_goThroughNext_7 : decode cX1_goThroughNext 7 = .ok (.invokevirtual 80, 3) := by decide +kernel
theorem dX1_goThroughNext_10 : decode cX1_goThroughNext 10 = .ok (.ifCond .ne 4, 3) := by decide +kernel
theorem dX1_goThroughNext_13 : decode cX1_goThroughNext 13 = .ok (.return_, 1) := by decide +kernel
theorem dX1_goThroughNext_14 : decode cX1_goThroughNext 14 = .ok (.iconst 0, 1) := by decide +kernel
theorem dX1_goThroughNext_15 : decode cX1_goThroughNext 15 = .ok (.istore_n 3, 1) := by decide +kernel
theorem dX1_goThroughNext_16 : decode cX1_goThroughNext 16 = .ok (.iconst 0, 1) := by decide +kernel
theorem dX1_goThroughNext_17 : decode cX1_goThroughNext 17 = .ok (.istore 4, 2) := by decide +kernel
theorem dX1_goThroughNext_19 : decode cX1_goThroughNext 19 = .ok (.iload 4, 2) := by decide +kernel
theorem dX1_goThroughNext_21 : decode cX1_goThroughNext 21 = .ok (.aload_n 1, 1) := by decide +kernel
theorem dX1_goThroughNext_22 : decode cX1_goThroughNext 22 = .ok (.getfield 59, 3) := by decide +kernel
theorem dX1_goThroughNext_25 : decode cX1_goThroughNext 25 = .ok (.if_icmp .ge 115, 3) := by decide +kernel
theorem dX1_goThroughNext_28 : decode cX1_goThroughNext 28 = .ok (.aload_n 0, 1) := by decide +kernel
theorem dX1_goThroughNext_29 : decode cX1_goThroughNext 29 = .ok (.aload_n 1, 1) := by decide +kernel
theorem dX1_goThroughNext_30 : decode cX1_goThroughNext 30 = .ok (.iload 4, 2) := by decide +kernel
theorem dX1_goThroughNext_32 : decode cX1_goThroughNext 32 = .ok (.invokevirtual 84, 3) := by decide +kernel
theorem dX1_goThroughNext_35 : decode cX1_goThroughNext 35 = .ok (.istore 5, 2) := by decide +kernel
theorem dX1_goThroughNext_37 : decode cX1_goThroughNext 37 = .ok (.aload_n 1, 1) := by decide +kernel
theorem dX1_goThroughNext_38 : decode cX1_goThroughNext 38 = .ok (.getfield 56, 3) := by decide +kernel
theorem dX1_goThroughNext_41 : decode cX1_goThroughNext 41 = .ok (.iload 4, 2) := by decide +kernel
theorem dX1_goThroughNext_43 : decode cX1_goThroughNext 43 = .ok (.iaload, 1) := by decide +kernel
theorem dX1_goThroughNext_44 : decode cX1_goThroughNext 44 = .ok (.istore 6, 2) := by decide +kernel
theorem dX1_goThroughNext_46 : decode cX1_goThroughNext 46 = .ok (.iload 5, 2) := by decide +kernel
theorem dX1_goThroughNext_48 : decode cX1_goThroughNext 48 = .ok (.ifCond .eq 15, 3) := by decide +kernel
theorem dX1_goThroughNext_51 : decode cX1_goThroughNext 51 = .ok (.aload_n 1, 1) := by decide +kernel
theorem dX1_goThroughNext_52 : decode cX1_goThroughNext 52 = .ok (.getfield 56, 3) := by decide +kernel
theorem dX1_goThroughNext_55 : decode cX1_goThroughNext 55 = .ok (.iload 4, 2) := by decide +kernel
theorem dX1_goThroughNext_57 : decode cX1_goThroughNext 57 = .ok (.iconst 1, 1) := by decide +kernel
theorem dX1_goThroughNext_58 : decode cX1_goThroughNext 58 = .ok (.iadd, 1) := by decide +kernel
theorem dX1_goThroughNext_59 : decode cX1_goThroughNext 59 = .ok (.iaload, 1) := by decide +kernel
theorem dX1_goThroughNext_60 : decode cX1_goThroughNext 60 = .ok (.goto 5, 3) := by decide +kernel
theorem dX1_goThroughNext_63 : decode cX1_goThroughNext 63 = .ok (.iload 6, 2) := by decide +kernel
theorem dX1_goThroughNext_65 : decode cX1_goThroughNext 65 = .ok (.istore 7, 2) := by decide +kernel
theorem dX1_goThroughNext_67 : decode cX1_goThroughNext 67 = .ok (.iconst 1, 1) := by decide +kernel
theorem dX1_goThroughNext_68 : decode cX1_goThroughNext 68 = .ok (.iload_n 3, 1) := by decide +kernel
theorem dX1_goThroughNext_69 : decode cX1_goThroughNext 69 = .ok (.aload_n 1, 1) := by decide +kernel
theorem dX1_goThroughNext_70 : decode cX1_goThroughNext 70 = .ok (.getfield 88, 3) := by decide +kernel
theorem dX1_goThroughNext_73 : decode cX1_goThroughNext 73 = .ok (.iload 6, 2) := by decide +kernel
theorem dX1_goThroughNext_75 : decode cX1_goThroughNext 75 = .ok (.iaload, 1) := by decide +kernel
theorem dX1_goThroughNext_76 : decode cX1_goThroughNext 76 = .ok (.aload_n 1, 1) := by decide +kernel
theorem dX1_goThroughNext_77 : decode cX1_goThroughNext 77 = .ok (.getfield 88, 3) := by decide +kernel
theorem dX1_goThroughNext_80 : decode cX1_goThroughNext 80 = .ok (.iload 7, 2) := by decide +kernel
theorem dX1_goThroughNext_82 : decode cX1_goThroughNext 82 = .ok (.iaload, 1) := by decide +kernel
theorem dX1_goThroughNext_83 : decode cX1_goThroughNext 83 = .ok (.invokestatic 91, 3) := by decide +kernel
theorem dX1_goThroughNext_86 : decode cX1_goThroughNext 86 = .ok (.invokestatic 91, 3) := by decide +kernel
theorem dX1_goThroughNext_89 : decode cX1_goThroughNext 89 = .ok (.iadd, 1) := by decide +kernel
theorem dX1_goThroughNext_90 : decode cX1_goThroughNext 90 = .ok (.istore_n 3, 1) := by decide +kernel
theorem dX1_goThroughNext_91 : decode cX1_goThroughNext 91 = .ok (.aload_n 1, 1) := by decide +kernel
theorem dX1_goThroughNext_92 : decode cX1_goThroughNext 92 = .ok (.getfield 88, 3) := by decide +kernel
theorem dX1_goThroughNext_95 : decode cX1_goThroughNext 95 = .ok (.iload 6, 2) := by decide +kernel
theorem dX1_goThroughNext_97 : decode cX1_goThroughNext 97 = .ok (.iload_n 3, 1) := by decide +kernel
theorem dX1_goThroughNext_98 : decode cX1_goThroughNext 98 = .ok (.iastore, 1) := by decide +kernel
theorem dX1_goThroughNext_99 : decode cX1_goThroughNext 99 = .ok (.aload_n 1, 1) := by decide +kernel
theorem dX1_goThroughNext_100 : decode cX1_goThroughNext 100 = .ok (.getfield 88, 3) := by decide +kernel
theorem dX1_goThroughNext_103 : decode cX1_goThroughNext 103 = .ok (.iload 7, 2) := by decide +kernel
theorem dX1_goThroughNext_105 : decode cX1_goThroughNext 105 = .ok (.iload_n 3, 1) := by decide +kernel
theorem dX1_goThroughNext_106 : decode cX1_goThroughNext 106 = .ok (.iastore, 1) := by decide +kernel
theorem dX1_goThroughNext_107 : decode cX1_goThroughNext 107 = .ok (.iload 5, 2) := by decide +kernel
theorem dX1_goThroughNext_109 : decode cX1_goThroughNext 109 = .ok (.ifCond .eq 25, 3) := by decide +kernel
theorem dX1_goThroughNext_112 : decode cX1_goThroughNext 112 = .ok (.aload_n 0, 1) := by decide +kernel
theorem dX1_goThroughNext_113 : decode cX1_goThroughNext 113 = .ok (.aload_n 1, 1) := by decide +kernel
theorem dX1_goThroughNext_114 : decode cX1_goThroughNext 114 = .ok (.iload_n 2, 1) := by decide +kernel
theorem dX1_goThroughNext_115 : decode cX1_goThroughNext 115 = .ok (.iload 6, 2) := by decide +kernel
theorem dX1_goThroughNext_117 : decode cX1_goThroughNext 117 = .ok (.iload 7, 2) := by decide +kernel
theorem dX1_goThroughNext_119 : decode cX1_goThroughNext 119 = .ok (.invokevirtual 97, 3) := by decide +kernel
theorem dX1_goThroughNext_122 : decode cX1_goThroughNext 122 = .ok (.ifCond .eq 9, 3) := by decide +kernel
theorem dX1_goThroughNext_125 : decode cX1_goThroughNext 125 = .ok (.aload_n 1, 1) := by decide +kernel
theorem dX1_goThroughNext_126 : decode cX1_goThroughNext 126 = .ok (.iload 4, 2) := by decide +kernel
theorem dX1_goThroughNext_128 : decode cX1_goThroughNext 128 = .ok (.invokevirtual 101, 3) := by decide +kernel
theorem dX1_goThroughNext_131 : decode cX1_goThroughNext 131 = .ok (.iinc 4 1, 3) := by decide +kernel
theorem dX1_goThroughNext_134 : decode cX1_goThroughNext 134 = .ok (.iinc 4 1, 3) := by decide +kernel
theorem dX1_goThroughNext_137 : decode cX1_goThroughNext 137 = .ok (.goto (-118), 3) := by decide +kernel
theorem dX1_goThroughNext_140 : decode cX1_goThroughNext 140 = .ok (.aload_n 1, 1) := by decide +kernel
theorem dX1_goThroughNext_141 : decode cX1_goThroughNext 141 = .ok (.iload_n 2, 1) := by decide +kernel
theorem dX1_goThroughNext_142 : decode cX1_goThroughNext 142 = .ok (.iconst 1, 1) := by decide +kernel
theorem dX1_goThroughNext_143 : decode cX1_goThroughNext 143 = .ok (.iadd, 1) := by decide +kernel
theorem dX1_goThroughNext_144 : decode cX1_goThroughNext 144 = .ok (.putfield 62, 3) := by decide +kernel
theorem dX1_goThroughNext_147 : decode cX1_goThroughNext 147 = .ok (.return_, 1) := by decide +kernel
theorem dX1_holdsTwo_0 : decode cX1_holdsTwo 0 = .ok (.iload_n 2, 1) := by decide +kernel
theorem dX1_holdsTwo_1 : decode cX1_holdsTwo 1 = .ok (.iconst 1, 1) := by decide +kernel
theorem dX1_holdsTwo_2 : decode cX1_holdsTwo 2 = .ok (.iadd, 1) := by decide +kernel
theorem dX1_holdsTwo_3 : decode cX1_holdsTwo 3 = .ok (.aload_n 1, 1) := by decide +kernel
theorem dX1_holdsTwo_4 : decode cX1_holdsTwo 4 = .ok (.getfield 59, 3) := by decide +kernel
theorem dX1_holdsTwo_7 : decode cX1_holdsTwo 7 = .ok (.if_icmp .ge 39, 3) := by decide +kernel
theorem dX1_holdsTwo_10 : decode cX1_holdsTwo 10 = .ok (.aload_n 0, 1) := by decide +kernel
theorem dX1_holdsTwo_11 : decode cX1_holdsTwo 11 = .ok (.getfield 9, 3) := by decide +kernel
theorem dX1_holdsTwo_14 : decode cX1_holdsTwo 14 = .ok (.aload_n 1, 1) := by decide +kernel
theorem dX1_holdsTwo_15 : decode cX1_holdsTwo 15 = .ok (.getfield 56, 3) := by decide +kernel
theorem dX1_holdsTwo_18 : decode cX1_holdsTwo 18 = .ok (.iload_n 2, 1) := by decide +kernel
theorem dX1_holdsTwo_19 : decode cX1_holdsTwo 19 = .ok (.iaload, 1) := by decide +kernel
theorem dX1_holdsTwo_20 : decode cX1_holdsTwo 20 = .ok (.iaload, 1) := by decide +kernel
theorem dX1_holdsTwo_21 : decode cX1_holdsTwo 21 = .ok (.iconst 1, 1) := by decide +kernel
theorem dX1_holdsTwo_22 : decode cX1_holdsTwo 22 = .ok (.if_icmp .ne 24, 3) := by decide +kernel
theorem dX1_holdsTwo_25 : decode cX1_holdsTwo 25 = .ok (.aload_n 0, 1) := by decide +kernel
theorem dX1_holdsTwo_26 : decode cX1_holdsTwo 26 = .ok (.getfield 9, 3) := by decide +kernel
theorem dX1_holdsTwo_29 : decode cX1_holdsTwo 29 = .ok (.aload_n 1, 1) := by decide +kernel
theorem dX1_holdsTwo_30 : decode cX1_holdsTwo 30 = .ok (.getfield 56, 3) := by decide +kernel
theorem dX1_holdsTwo_33 : decode cX1_holdsTwo 33 = .ok (.iload_n 2, 1) := by decide +kernel
theorem dX1_holdsTwo_34 : decode cX1_holdsTwo 34 = .ok (.iconst 1, 1) := by decide +kernel
theorem dX1_holdsTwo_35 : decode cX1_holdsTwo 35 = .ok (.iadd, 1) := by decide +kernel
theorem dX1_holdsTwo_36 : decode cX1_holdsTwo 36 = .ok (.iaload, 1) := by decide +kernel
theorem dX1_holdsTwo_37 : decode cX1_holdsTwo 37 = .ok (.iaload, 1) := by decide +kernel
theorem dX1_holdsTwo_38 : decode cX1_holdsTwo 38 = .ok (.iconst 1, 1) := by decide +kernel
theorem dX1_holdsTwo_39 : decode cX1_holdsTwo 39 = .ok (.if_icmp .ne 7, 3) := by decide +kernel
theorem dX1_holdsTwo_42 : decode cX1_holdsTwo 42 = .ok (.iconst 1, 1) := by decide +kernel
theorem dX1_holdsTwo_43 : decode cX1_holdsTwo 43 = .ok (.goto 4, 3) := by decide +kernel
theorem dX1_holdsTwo_46 : decode cX1_holdsTwo 46 = .ok (.iconst 0, 1) := by decide +kernel
theorem dX1_holdsTwo_47 : decode cX1_holdsTwo 47 = .ok (.ireturn, 1) := by decide +kernel
theorem dX1_isSecondFirst_0 : decode cX1_isSecondFirst 0 = .ok (.aload_n 1, 1) := by decide +kernel
theorem dX1_isSecondFirst_1 : decode cX1_isSecondFirst 1 = .ok (.getfield 46, 3) := by decide +kernel
theorem dX1_isSecondFirst_4 : decode cX1_isSecondFirst 4 = .ok (.iload_n 2, 1) := by decide +kernel
theorem dX1_isSecondFirst_5 : decode cX1_isSecondFirst 5 = .ok (.iaload, 1) := by decide +kernel
theorem dX1_isSecondFirst_6 : decode cX1_isSecondFirst 6 = .ok (.tableswitch 72 1 3 #[26, 28, 50], 26) := by decide +kernel
theorem dX1_isSecondFirst_32 : decode cX1_isSecondFirst 32 = .ok (.iconst 1, 1) := by decide +kernel
theorem dX1_isSecondFirst_33 : decode cX1_isSecondFirst 33 = .ok (.ireturn, 1) := by decide +kernel
theorem dX1_isSecondFirst_34 : decode cX1_isSecondFirst 34 = .ok (.aload_n 0, 1) := by decide +kernel
theorem dX1_isSecondFirst_35 : decode cX1_isSecondFirst 35 = .ok (.getfield 15, 3) := by decide +kernel
theorem dX1_isSecondFirst_38 : decode cX1_isSecondFirst 38 = .ok (.iload 4, 2) := by decide +kernel
theorem dX1_isSecondFirst_40 : decode cX1_isSecondFirst 40 = .ok (.iaload, 1) := by decide +kernel
theorem dX1_isSecondFirst_41 : decode cX1_isSecondFirst 41 = .ok (.aload_n 0, 1) := by decide +kernel
theorem dX1_isSecondFirst_42 : decode cX1_isSecondFirst 42 = .ok (.getfield 15, 3) := by decide +kernel
theorem dX1_isSecondFirst_45 : decode cX1_isSecondFirst 45 = .ok (.iload_n 3, 1) := by decide +kernel
theorem dX1_isSecondFirst_46 : decode cX1_isSecondFirst 46 = .ok (.iaload, 1) := by decide +kernel
theorem dX1_isSecondFirst_47 : decode cX1_isSecondFirst 47 = .ok (.if_icmp .ge 7, 3) := by decide +kernel
theorem dX1_isSecondFirst_50 : decode cX1_isSecondFirst 50 = .ok (.iconst 1, 1) := by decide +kernel
theorem dX1_isSecondFirst_51 : decode cX1_isSecondFirst 51 = .ok (.goto 4, 3) := by decide +kernel
theorem dX1_isSecondFirst_54 : decode cX1_isSecondFirst 54 = .ok (.iconst 0, 1) := by decide +kernel
theorem dX1_isSecondFirst_55 : decode cX1_isSecondFirst 55 = .ok (.ireturn, 1) := by decide +kernel
theorem dX1_isSecondFirst_56 : decode cX1_isSecondFirst 56 = .ok (.aload_n 1, 1) := by decide +kernel
theorem dX1_isSecondFirst_57 : decode cX1_isSecondFirst 57 = .ok (.iload 4, 2) := by decide +kernel
theorem dX1_isSecondFirst_59 : decode cX1_isSecondFirst 59 = .ok (.iload_n 2, 1) := by decide +kernel
theorem dX1_isSecondFirst_60 : decode cX1_isSecondFirst 60 = .ok (.invokevirtual 105, 3) := by decide +kernel
theorem dX1_isSecondFirst_63 : decode cX1_isSecondFirst 63 = .ok (.aload_n 1, 1) := by decide +kernel
theorem dX1_isSecondFirst_64 : decode cX1_isSecondFirst 64 = .ok (.iload_n 3, 1) := by decide +kernel
theorem dX1_isSecondFirst_65 : decode cX1_isSecondFirst 65 = .ok (.iload_n 2, 1) := by decide +kernel
theorem dX1_isSecondFirst_66 : decode cX1_isSecondFirst 66 = .ok (.invokevirtual 105, 3) := by decide +kernel
theorem dX1_isSecondFirst_69 : decode cX1_isSecondFirst 69 = .ok (.if_icmp .le 7, 3) := by decide +kernel
theorem dX1_isSecondFirst_72 : decode cX1_isSecondFirst 72 = .ok (.iconst 1, 1) := by decide +kernel
theorem dX1_isSecondFirst_73 : decode cX1_isSecondFirst 73 = .ok (.goto 4, 3) := by decide +kernel
theorem dX1_isSecondFirst_76 : decode cX1_isSecondFirst 76 = .ok (.iconst 0, 1) := by decide +kernel
theorem dX1_isSecondFirst_77 : decode cX1_isSecondFirst 77 = .ok (.ireturn, 1) := by decide +kernel
theorem dX1_isSecondFirst_78 : decode cX1_isSecondFirst 78 = .ok (.iconst 0, 1) := by decide +kernel
theorem dX1_isSecondFirst_79 : decode cX1_isSecondFirst 79 = .ok (.ireturn, 1) := by decide +kernel
theorem dX1_mateAtNext_0 : decode cX1_mateAtNext 0 = .ok (.iconst 0, 1) := by decide +kernel
theorem dX1_mateAtNext_1 : decode cX1_mateAtNext 1 = .ok (.istore_n 3, 1) := by decide +kernel
theorem dX1_mateAtNext_2 : decode cX1_mateAtNext 2 = .ok (.iload_n 3, 1) := by decide +kernel
theorem dX1_mateAtNext_3 : decode cX1_mateAtNext 3 = .ok (.aload_n 1, 1) := by decide +kernel
theorem dX1_mateAtNext_4 : decode cX1_mateAtNext 4 = .ok (.getfield 59, 3) := by decide +kernel
theorem dX1_mateAtNext_7 : decode cX1_mateAtNext 7 = .ok (.if_icmp .ge 59, 3) := by decide +kernel
theorem dX1_mateAtNext_10 : decode cX1_mateAtNext 10 = .ok (.aload_n 0, 1) := by decide +kernel
theorem dX1_mateAtNext_11 : decode cX1_mateAtNext 11 = .ok (.aload_n 1, 1) := by decide +kernel
theorem dX1_mateAtNext_12 : decode cX1_mateAtNext 12 = .ok (.iload_n 3, 1) := by decide +kernel
theorem dX1_mateAtNext_13 : decode cX1_mateAtNext 13 = .ok (.invokevirtual 84, 3) := by decide +kernel
theorem dX1_mateAtNext_16 : decode cX1_mateAtNext 16 = .ok (.ifCond .eq 44, 3) := by decide +kernel
theorem dX1_mateAtNext_19 : decode cX1_mateAtNext 19 = .ok (.aload_n 1, 1) := by decide +kernel
theorem dX1_mateAtNext_20 : decode cX1_mateAtNext 20 = .ok (.getfield 56, 3) := by decide +kernel
theorem dX1_mateAtNext_23 : decode cX1_mateAtNext 23 = .ok (.iload_n 3, 1) := by decide +kernel
theorem dX1_mateAtNext_24 : decode cX1_mateAtNext 24 = .ok (.iaload, 1) := by decide +kernel
theorem dX1_mateAtNext_25 : decode cX1_mateAtNext 25 = .ok (.iload_n 2, 1) := by decide +kernel
theorem dX1_mateAtNext_26 : decode cX1_mateAtNext 26 = .ok (.if_icmp .ne 12, 3) := by decide +kernel
theorem dX1_mateAtNext_29 : decode cX1_mateAtNext 29 = .ok (.aload_n 1, 1) := by decide +kernel
theorem dX1_mateAtNext_30 : decode cX1_mateAtNext 30 = .ok (.getfield 56, 3) := by decide +kernel
theorem dX1_mateAtNext_33 : decode cX1_mateAtNext 33 = .ok (.iload_n 3, 1) := by decide +kernel
theorem dX1_mateAtNext_34 : decode cX1_mateAtNext 34 = .ok (.iconst 1, 1) := by decide +kernel
theorem dX1_mateAtNext_35 : decode cX1_mateAtNext 35 = .ok (.iadd, 1) := by decide +kernel
theorem dX1_mateAtNext_36 : decode cX1_mateAtNext 36 = .ok (.iaload, 1) := by decide +kernel
theorem dX1_mateAtNext_37 : decode cX1_mateAtNext 37 = .ok (.ireturn, 1) := by decide +kernel
theorem dX1_mateAtNext_38 : decode cX1_mateAtNext 38 = .ok (.aload_n 1, 1) := by decide +kernel
theorem dX1_mateAtNext_39 : decode cX1_mateAtNext 39 = .ok (.getfield 56, 3) := by decide +kernel
theorem dX1_mateAtNext_42 : decode cX1_mateAtNext 42 = .ok (.iload_n 3, 1) := by decide +kernel
theorem dX1_mateAtNext_43 : decode cX1_mateAtNext 43 = .ok (.iconst 1, 1) := by decide +kernel
theorem dX1_mateAtNext_44 : decode cX1_mateAtNext 44 = .ok (.iadd, 1) := by decide +kernel
theorem dX1_mateAtNext_45 : decode cX1_mateAtNext 45 = .ok (.iaload, 1) := by decide +kernel
theorem dX1_mateAtNext_46 : decode cX1_mateAtNext 46 = .ok (.iload_n 2, 1) := by decide +kernel
theorem dX1_mateAtNext_47 : decode cX1_mateAtNext 47 = .ok (.if_icmp .ne 10, 3) := by decide +kernel
theorem dX1_mateAtNext_50 : decode cX1_mateAtNext 50 = .ok (.aload_n 1, 1) := by decide +kernel
theorem dX1_mateAtNext_51 : decode cX1_mateAtNext 51 = .ok (.getfield 56, 3) := by decide +kernel
theorem dX1_mateAtNext_54 : decode cX1_mateAtNext 54 = .ok (.iload_n 3, 1) := by decide +kernel
theorem dX1_mateAtNext_55 : decode cX1_mateAtNext 55 = .ok (.iaload, 1) := by decide +kernel
theorem dX1_mateAtNext_56 : decode cX1_mateAtNext 56 = .ok (.ireturn, 1) := by decide +kernel
theorem dX1_mateAtNext_57 : decode cX1_mateAtNext 57 = .ok (.iinc 3 1, 3) := by decide +kernel
theorem dX1_mateAtNext_60 : decode cX1_mateAtNext 60 = .ok (.iinc 3 1, 3) := by decide +kernel
theorem dX1_mateAtNext_63 : decode cX1_mateAtNext 63 = .ok (.goto (-61), 3) := by decide +kernel
theorem dX1_mateAtNext_66 : decode cX1_mateAtNext 66 = .ok (.bipush (-9), 2) := by decide +kernel
theorem dX1_mateAtNext_68 : decode cX1_mateAtNext 68 = .ok (.ireturn, 1) := by decide +kernel
theorem dX2_init_0 : decode cX2_init 0 = .ok (.aload_n 0, 1) := by decide +kernel
theorem dX2_init_1 : decode cX2_init 1 = .ok (.invokespecial 3, 3) := by decide +kernel
theorem dX2_init_4 : decode cX2_init 4 = .ok (.aload_n 0, 1) := by decide +kernel
theorem dX2_init_5 : decode cX2_init 5 = .ok (.bipush 16, 2) := by decide +kernel
theorem dX2_init_7 : decode cX2_init 7 = .ok (.newarray .int, 2) := by decide +kernel
theorem dX2_init_9 : decode cX2_init 9 = .ok (.putfield 11, 3) := by decide +kernel
theorem dX2_init_12 : decode cX2_init 12 = .ok (.aload_n 0, 1) := by decide +kernel
theorem dX2_init_13 : decode cX2_init 13 = .ok (.bipush 16, 2) := by decide +kernel
theorem dX2_init_15 : decode cX2_init 15 = .ok (.newarray .int, 2) := by decide +kernel
theorem dX2_init_17 : decode cX2_init 17 = .ok (.putfield 15, 3) := by decide +kernel
theorem dX2_init_20 : decode cX2_init 20 = .ok (.return_, 1) := by decide +kernel
theorem dX2_findGivers_0 : decode cX2_findGivers 0 = .ok (.iconst 1, 1) := by decide +kernel
theorem dX2_findGivers_1 : decode cX2_findGivers 1 = .ok (.aload_n 1, 1) := by decide +kernel
theorem dX2_findGivers_2 : decode cX2_findGivers 2 = .ok (.getfield 18, 3) := by decide +kernel
theorem dX2_findGivers_5 : decode cX2_findGivers 5 = .ok (.ishl, 1) := by decide +kernel
theorem dX2_findGivers_6 : decode cX2_findGivers 6 = .ok (.iconst 1, 1) := by decide +kernel
theorem dX2_findGivers_7 : decode cX2_findGivers 7 = .ok (.isub, 1) := by decide +kernel
theorem dX2_findGivers_8 : decode cX2_findGivers 8 = .ok (.istore 4, 2) := by decide +kernel
theorem dX2_findGivers_10 : decode cX2_findGivers 10 = .ok (.iconst 0, 1) := by decide +kernel
theorem dX2_findGivers_11 : decode cX2_findGivers 11 = .ok (.istore 5, 2) := by decide +kernel
theorem dX2_findGivers_13 : decode cX2_findGivers 13 = .ok (.aload_n 0, 1) := by decide +kernel
theorem dX2_findGivers_14 : decode cX2_findGivers 14 = .ok (.iconst 0, 1) := by decide +kernel
theorem dX2_findGivers_15 : decode cX2_findGivers 15 = .ok (.putfield 24, 3) := by decide +kernel
theorem dX2_findGivers_18 : decode cX2_findGivers 18 = .ok (.aload_n 0, 1) := by decide +kernel
theorem dX2_findGivers_19 : decode cX2_findGivers 19 = .ok (.iload 4, 2) := by decide +kernel
theorem dX2_findGivers_21 : decode cX2_findGivers 21 = .ok (.putfield 27, 3) := by decide +kernel
theorem dX2_findGivers_24 : decode cX2_findGivers 24 = .ok (.iconst 0, 1) := by decide +kernel
theorem dX2_findGivers_25 : decode cX2_findGivers 25 = .ok (.istore 6, 2) := by decide +kernel
theorem dX2_findGivers_27 : decode cX2_findGivers 27 = .ok (.iload 6, 2) := by decide +kernel
theorem dX2_findGivers_29 : decode cX2_findGivers 29 = .ok (.iload 4, 2) := by decide +kernel
theorem dX2_findGivers_31 : decode cX2_findGivers 31 = .ok (.if_icmp .gt 49, 3) := by decide +kernel
theorem dX2_findGivers_34 : decode cX2_findGivers 34 = .ok (.aload_n 0, 1) := by decide +kernel
theorem dX2_findGivers_35 : decode cX2_findGivers 35 = .ok (.aload_n 1, 1) := by decide +kernel
theorem dX2_findGivers_36 : decode cX2_findGivers 36 = .ok (.iload_n 2, 1) := by decide +kernel
theorem dX2_findGivers_37 : decode cX2_findGivers 37 = .ok (.iload 6, 2) := by decide +kernel
theorem dX2_findGivers_39 : decode cX2_findGivers 39 = .ok (.iload_n 3, 1) := by decide +kernel
theorem dX2_findGivers_40 : decode cX2_findGivers 40 = .ok (.invokevirtual 30, 3) := by decide +kernel
theorem dX2_findGivers_43 : decode cX2_findGivers 43 = .ok (.ifCond .eq 31, 3) := by decide +kernel
theorem dX2_findGivers_46 : decode cX2_findGivers 46 = .ok (.aload_n 0, 1) := by decide +kernel
theorem dX2_findGivers_47 : decode cX2_findGivers 47 = .ok (.dup, 1) := by decide +kernel
theorem dX2_findGivers_48 : decode cX2_findGivers 48 = .ok (.getfield 24, 3) := by decide +kernel
theorem dX2_findGivers_51 : decode cX2_findGivers 51 = .ok (.iconst 1, 1) := by decide +kernel
theorem dX2_findGivers_52 : decode cX2_findGivers 52 = .ok (.iadd, 1) := by decide +kernel
theorem dX2_findGivers_53 : decode cX2_findGivers 53 = .ok (.putfield 24, 3) := by decide +kernel
theorem dX2_findGivers_56 : decode cX2_findGivers 56 = .ok (.aload_n 0, 1) := by decide +kernel
theorem dX2_findGivers_57 : decode cX2_findGivers 57 = .ok (.dup, 1) := by decide +kernel
theorem dX2_findGivers_58 : decode cX2_findGivers 58 = .ok (.getfield 27, 3) := by decide +kernel
theorem dX2_findGivers_61 : decode cX2_findGivers 61 = .ok (.iload 6, 2) := by decide +kernel
theorem dX2_findGivers_63 : decode cX2_findGivers 63 = .ok (.iand, 1) := by decide +kernel
theorem dX2_findGivers_64 : decode cX2_findGivers 64 = .ok (.putfield 27, 3) := by decide +kernel
theorem dX2_findGivers_67 : decode cX2_findGivers 67 = .ok (.iload 5, 2) := by decide +kernel
theorem dX2_findGivers_69 : decode cX2_findGivers 69 = .ok (.iload 6, 2) := by decide +kernel
theorem dX2_findGivers_71 : decode cX2_findGivers 71 = .ok (.ior, 1) := by decide +kernel
theorem dX2_findGivers_72 : decode cX2_findGivers 72 = .ok (.istore 5, 2) := by decide +kernel
theorem dX2_findGivers_74 : decode cX2_findGivers 74 = .ok (.iinc 6 1, 3) := by decide +kernel
theorem dX2_findGivers_77 : decode cX2_findGivers 77 = .ok (.goto (-50), 3) := by decide +kernel
theorem dX2_findGivers_80 : decode cX2_findGivers 80 = .ok (.aload_n 0, 1) := by decide +kernel
theorem dX2_findGivers_81 : decode cX2_findGivers 81 = .ok (.iload 4, 2) := by decide +kernel
theorem dX2_findGivers_83 : decode cX2_findGivers 83 = .ok (.iload 5, 2) := by decide +kernel
theorem dX2_findGivers_85 : decode cX2_findGivers 85 = .ok (.iconst (-1), 1) := by decide +kernel
theorem dX2_findGivers_86 : decode cX2_findGivers 86 = .ok (.ixor, 1) := by decide +kernel
theorem dX2_findGivers_87 : decode cX2_findGivers 87 = .ok (.iand, 1) := by decide +kernel
theorem dX2_findGivers_88 : decode cX2_findGivers 88 = .ok (.putfield 34, 3) := by decide +kernel
theorem dX2_findGivers_91 : decode cX2_findGivers 91 = .ok (.return_, 1) := by decide +kernel
theorem dX2_comesOutSo_0 : decode cX2_comesOutSo 0 = .ok (.aload_n 1, 1) := by decide +kernel
theorem dX2_comesOutSo_1 : decode cX2_comesOutSo 1 = .ok (.invokevirtual 37, 3) := by decide +kernel
theorem dX2_comesOutSo_4 : decode cX2_comesOutSo 4 = .ok (.astore 5, 2) := by decide +kernel
theorem dX2_comesOutSo_6 : decode cX2_comesOutSo 6 = .ok (.aload 5, 2) := by decide +kernel
theorem dX2_comesOutSo_8 : decode cX2_comesOutSo 8 = .ok (.getfield 41, 3) := by decide +kernel
theorem dX2_comesOutSo_11 : decode cX2_comesOutSo 11 = .ok (.iload_n 2, 1) := by decide +kernel
theorem dX2_comesOutSo_12 : decode cX2_comesOutSo 12 = .ok (.iconst 3, 1) := by decide +kernel
theorem dX2_comesOutSo_13 : decode cX2_comesOutSo 13 = .ok (.iastore, 1) := by decide +kernel
theorem dX2_comesOutSo_14 : decode cX2_comesOutSo 14 = .ok (.aload_n 0, 1) := by decide +kernel
theorem dX2_comesOutSo_15 : decode cX2_comesOutSo 15 = .ok (.aload_n 1, 1) := by decide +kernel
theorem dX2_comesOutSo_16 : decode cX2_comesOutSo 16 = .ok (.aload 5, 2) := by decide +kernel
theorem dX2_comesOutSo_18 : decode cX2_comesOutSo 18 = .ok (.iload_n 2, 1) := by decide +kernel
theorem dX2_comesOutSo_19 : decode cX2_comesOutSo 19 = .ok (.iload_n 3, 1) := by decide +kernel
theorem dX2_comesOutSo_20 : decode cX2_comesOutSo 20 = .ok (.invokevirtual 46, 3) := by decide +kernel
theorem dX2_comesOutSo_23 : decode cX2_comesOutSo 23 = .ok (.aload_n 1, 1) := by decide +kernel
theorem dX2_comesOutSo_24 : decode cX2_comesOutSo 24 = .ok (.aload 5, 2) := by decide +kernel
theorem dX2_comesOutSo_26 : decode cX2_comesOutSo 26 = .ok (.iload_n 2, 1) := by decide +kernel
theorem dX2_comesOutSo_27 : decode cX2_comesOutSo 27 = .ok (.iconst 1, 1) := by decide +kernel
theorem dX2_comesOutSo_28 : decode cX2_comesOutSo 28 = .ok (.iadd, 1) := by decide +kernel
theorem dX2_comesOutSo_29 : decode cX2_comesOutSo 29 = .ok (.invokevirtual 50, 3) := by decide +kernel
theorem dX2_comesOutSo_32 : decode cX2_comesOutSo 32 = .ok (.aload 5, 2) := by decide +kernel
theorem dX2_comesOutSo_34 : decode cX2_comesOutSo 34 = .ok (.invokevirtual 54, 3) := by decide +kernel
theorem dX2_comesOutSo_37 : decode cX2_comesOutSo 37 = .ok (.iload 4, 2) := by decide +kernel
theorem dX2_comesOutSo_39 : decode cX2_comesOutSo 39 = .ok (.if_icmp .ne 7, 3) := by decide +kernel
theorem dX2_comesOutSo_42 : decode cX2_comesOutSo 42 = .ok (.iconst 1, 1) := by decide +kernel
theorem dX2_comesOutSo_43 : decode cX2_comesOutSo 43 = .ok (.goto 4, 3) := by decide +kernel
theorem dX2_comesOutSo_46 : decode cX2_comesOutSo 46 = .ok (.iconst 0, 1) := by decide +kernel
theorem dX2_comesOutSo_47 : decode cX2_comesOutSo 47 = .ok (.ireturn, 1) := by decide +kernel
theorem dX2_addGivers_0 : decode cX2_addGivers 0 = .ok (.iconst 0, 1) := by decide +kernel
theorem dX2_addGivers_1 : decode cX2_addGivers 1 = .ok (.istore 5, 2) := by decide +kernel
theorem dX2_addGivers_3 : decode cX2_addGivers 3 = .ok (.iload 5, 2) := by decide +kernel
theorem dX2_addGivers_5 : decode cX2_addGivers 5 = .ok (.aload_n 1, 1) := by decide +kernel
theorem dX2_addGivers_6 : decode cX2_addGivers 6 = .ok (.getfield 18, 3) := by decide +kernel
theorem dX2_addGivers_9 : decode cX2_addGivers 9 = .ok (.if_icmp .ge 23, 3) := by decide +kernel
theorem dX2_addGivers_12 : decode cX2_addGivers 12 = .ok (.aload_n 2, 1) := by decide +kernel
theorem dX2_addGivers_13 : decode cX2_addGivers 13 = .ok (.iload 5, 2) := by decide +kernel
theorem dX2_addGivers_15 : decode cX2_addGivers 15 = .ok (.iload_n 3, 1) := by decide +kernel
theorem dX2_addGivers_16 : decode cX2_addGivers 16 = .ok (.iload 4, 2) := by decide +kernel
theorem dX2_addGivers_18 : decode cX2_addGivers 18 = .ok (.iload 5, 2) := by decide +kernel
theorem dX2_addGivers_20 : decode cX2_addGivers 20 = .ok (.ishr, 1) := by decide +kernel
theorem dX2_addGivers_21 : decode cX2_addGivers 21 = .ok (.iconst 1, 1) := by decide +kernel
theorem dX2_addGivers_22 : decode cX2_addGivers 22 = .ok (.iand, 1) := by decide +kernel
theorem dX2_addGivers_23 : decode cX2_addGivers 23 = .ok (.invokevirtual 58, 3) := by decide +kernel
theorem dX2_addGivers_26 : decode cX2_addGivers 26 = .ok (.iinc 5 1, 3) := by decide +kernel
theorem dX2_addGivers_29 : decode cX2_addGivers 29 = .ok (.goto (-26), 3) := by decide +kernel
theorem dX2_addGivers_32 : decode cX2_addGivers 32 = .ok (.return_, 1) := by decide +kernel
theorem dX2_findRests_0 : decode cX2_findRests 0 = .ok (.aload_n 0, 1) := by decide +kernel
theorem dX2_findRests_1 : decode cX2_findRests 1 = .ok (.aload_n 1, 1) := by decide +kernel
theorem dX2_findRests_2 : decode cX2_findRests 2 = .ok (.iload_n 2, 1) := by decide +kernel
theorem dX2_findRests_3 : decode cX2_findRests 3 = .ok (.iload_n 3, 1) := by decide +kernel
theorem dX2_findRests_4 : decode cX2_findRests 4 = .ok (.iload 4, 2) := by decide +kernel
theorem dX2_findRests_6 : decode cX2_findRests 6 = .ok (.invokevirtual 62, 3) := by decide +kernel
theorem dX2_findRests_9 : decode cX2_findRests 9 = .ok (.aload_n 0, 1) := by decide +kernel
theorem dX2_findRests_10 : decode cX2_findRests 10 = .ok (.iconst 0, 1) := by decide +kernel
theorem dX2_findRests_11 : decode cX2_findRests 11 = .ok (.putfield 24, 3) := by decide +kernel
theorem dX2_findRests_14 : decode cX2_findRests 14 = .ok (.aload_n 0, 1) := by decide +kernel
theorem dX2_findRests_15 : decode cX2_findRests 15 = .ok (.bipush (-9), 2) := by decide +kernel
theorem dX2_findRests_17 : decode cX2_findRests 17 = .ok (.putfield 66, 3) := by decide +kernel
theorem dX2_findRests_20 : decode cX2_findRests 20 = .ok (.iconst 0, 1) := by decide +kernel
theorem dX2_findRests_21 : decode cX2_findRests 21 = .ok (.istore 5, 2) := by decide +kernel
theorem dX2_findRests_23 : decode cX2_findRests 23 = .ok (.iload 5, 2) := by decide +kernel
theorem dX2_findRests_25 : decode cX2_findRests 25 = .ok (.iconst 4, 1) := by decide +kernel
theorem dX2_findRests_26 : decode cX2_findRests 26 = .ok (.if_icmp .ge 71, 3) := by decide +kernel
theorem dX2_findRests_29 : decode cX2_findRests 29 = .ok (.iconst 0, 1) := by decide +kernel
theorem dX2_findRests_30 : decode cX2_findRests 30 = .ok (.istore 6, 2) := by decide +kernel
theorem dX2_findRests_32 : decode cX2_findRests 32 = .ok (.iload 6, 2) := by decide +kernel
theorem dX2_findRests_34 : decode cX2_findRests 34 = .ok (.iconst 4, 1) := by decide +kernel
theorem dX2_findRests_35 : decode cX2_findRests 35 = .ok (.if_icmp .ge 56, 3) := by decide +kernel
theorem dX2_findRests_38 : decode cX2_findRests 38 = .ok (.aload_n 0, 1) := by decide +kernel
theorem dX2_findRests_39 : decode cX2_findRests 39 = .ok (.iload 5, 2) := by decide +kernel
theorem dX2_findRests_41 : decode cX2_findRests 41 = .ok (.iload 6, 2) := by decide +kernel
theorem dX2_findRests_43 : decode cX2_findRests 43 = .ok (.invokevirtual 69, 3) := by decide +kernel
theorem dX2_findRests_46 : decode cX2_findRests 46 = .ok (.ifCond .eq 39, 3) := by decide +kernel
theorem dX2_findRests_49 : decode cX2_findRests 49 = .ok (.aload_n 0, 1) := by decide +kernel
theorem dX2_findRests_50 : decode cX2_findRests 50 = .ok (.aload_n 0, 1) := by decide +kernel
theorem dX2_findRests_51 : decode cX2_findRests 51 = .ok (.getfield 24, 3) := by decide +kernel
theorem dX2_findRests_54 : decode cX2_findRests 54 = .ok (.ifCond .ne 14, 3) := by decide +kernel
theorem dX2_findRests_57 : decode cX2_findRests 57 = .ok (.bipush 10, 2) := by decide +kernel
theorem dX2_findRests_59 : decode cX2_findRests 59 = .ok (.iload 5, 2) := by decide +kernel
theorem dX2_findRests_61 : decode cX2_findRests 61 = .ok (.imul, 1) := by decide +kernel
theorem dX2_findRests_62 : decode cX2_findRests 62 = .ok (.iload 6, 2) := by decide +kernel
theorem dX2_findRests_64 : decode cX2_findRests 64 = .ok (.iadd, 1) := by decide +kernel
theorem dX2_findRests_65 : decode cX2_findRests 65 = .ok (.goto 7, 3) := by decide +kernel
theorem dX2_findRests_68 : decode cX2_findRests 68 = .ok (.aload_n 0, 1) := by decide +kernel
theorem dX2_findRests_69 : decode cX2_findRests 69 = .ok (.getfield 66, 3) := by decide +kernel
theorem dX2_findRests_72 : decode cX2_findRests 72 = .ok (.putfield 66, 3) := by decide +kernel
theorem dX2_findRests_75 : decode cX2_findRests 75 = .ok (.aload_n 0, 1) := by decide +kernel
theorem dX2_findRests_76 : decode cX2_findRests 76 = .ok (.dup, 1) := by decide +kernel
theorem dX2_findRests_77 : decode cX2_findRests 77 = .ok (.getfield 24, 3) := by decide +kernel
theorem dX2_findRests_80 : decode cX2_findRests 80 = .ok (.iconst 1, 1) := by decide +kernel
theorem dX2_findRests_81 : decode cX2_findRests 81 = .ok (.iadd, 1) := by decide +kernel
theorem dX2_findRests_82 : decode cX2_findRests 82 = .ok (.putfield 24, 3) := by decide +kernel
theorem dX2_findRests_85 : decode cX2_findRests 85 = .ok (.iinc 6 1, 3) := by decide +kernel
theorem dX2_findRests_88 : decode cX2_findRests 88 = .ok (.goto (-56), 3) := by decide +kernel
theorem dX2_findRests_91 : decode cX2_findRests 91 = .ok (.iinc 5 1, 3) := by decide +kernel
theorem dX2_findRests_94 : decode cX2_findRests 94 = .ok (.goto (-71), 3) := by decide +kernel
theorem dX2_findRests_97 : decode cX2_findRests 97 = .ok (.return_, 1) := by decide +kernel
theorem dX2_findLosses_0 : decode cX2_findLosses 0 = .ok (.iconst 0, 1) := by decide +kernel
theorem dX2_findLosses_1 : decode cX2_findLosses 1 = .ok (.istore 5, 2) := by decide +kernel
theorem dX2_findLosses_3 : decode cX2_findLosses 3 = .ok (.iload 5, 2) := by decide +kernel
theorem dX2_findLosses_5 : decode cX2_findLosses 5 = .ok (.iconst 4, 1) := by decide +kernel
theorem dX2_findLosses_6 : decode cX2_findLosses 6 = .ok (.if_icmp .ge 106, 3) := by decide +kernel
theorem dX2_findLosses_9 : decode cX2_findLosses 9 = .ok (.iconst 0, 1) := by decide +kernel
theorem dX2_findLosses_10 : decode cX2_findLosses 10 = .ok (.istore 6, 2) := by decide +kernel
theorem dX2_findLosses_12 : decode cX2_findLosses 12 = .ok (.iload 6, 2) := by decide +kernel
theorem dX2_findLosses_14 : decode cX2_findLosses 14 = .ok (.iconst 4, 1) := by decide +kernel
theorem dX2_findLosses_15 : decode cX2_findLosses 15 = .ok (.if_icmp .ge 91, 3) := by decide +kernel
theorem dX2_findLosses_18 : decode cX2_findLosses 18 = .ok (.aload_n 1, 1) := by decide +kernel
theorem dX2_findLosses_19 : decode cX2_findLosses 19 = .ok (.invokevirtual 37, 3) := by decide +kernel
theorem dX2_findLosses_22 : decode cX2_findLosses 22 = .ok (.astore 7, 2) := by decide +kernel
theorem dX2_findLosses_24 : decode cX2_findLosses 24 = .ok (.aload 7, 2) := by decide +kernel
theorem dX2_findLosses_26 : decode cX2_findLosses 26 = .ok (.iload_n 2, 1) := by decide +kernel
theorem dX2_findLosses_27 : decode cX2_findLosses 27 = .ok (.iload 4, 2) := by decide +kernel
theorem dX2_findLosses_29 : decode cX2_findLosses 29 = .ok (.iload 5, 2) := by decide +kernel
theorem dX2_findLosses_31 : decode cX2_findLosses 31 = .ok (.invokevirtual 58, 3) := by decide +kernel
theorem dX2_findLosses_34 : decode cX2_findLosses 34 = .ok (.aload 7, 2) := by decide +kernel
theorem dX2_findLosses_36 : decode cX2_findLosses 36 = .ok (.iload_n 3, 1) := by decide +kernel
theorem dX2_findLosses_37 : decode cX2_findLosses 37 = .ok (.iload 4, 2) := by decide +kernel
theorem dX2_findLosses_39 : decode cX2_findLosses 39 = .ok (.iload 6, 2) := by decide +kernel
theorem dX2_findLosses_41 : decode cX2_findLosses 41 = .ok (.invokevirtual 58, 3) := by decide +kernel
theorem dX2_findLosses_44 : decode cX2_findLosses 44 = .ok (.aload_n 1, 1) := by decide +kernel
theorem dX2_findLosses_45 : decode cX2_findLosses 45 = .ok (.aload 7, 2) := by decide +kernel
theorem dX2_findLosses_47 : decode cX2_findLosses 47 = .ok (.aload_n 1, 1) := by decide +kernel
theorem dX2_findLosses_48 : decode cX2_findLosses 48 = .ok (.getfield 73, 3) := by decide +kernel
theorem dX2_findLosses_51 : decode cX2_findLosses 51 = .ok (.invokevirtual 50, 3) := by decide +kernel
theorem dX2_findLosses_54 : decode cX2_findLosses 54 = .ok (.aload_n 0, 1) := by decide +kernel
theorem dX2_findLosses_55 : decode cX2_findLosses 55 = .ok (.getfield 11, 3) := by decide +kernel
theorem dX2_findLosses_58 : decode cX2_findLosses 58 = .ok (.iconst 4, 1) := by decide +kernel
theorem dX2_findLosses_59 : decode cX2_findLosses 59 = .ok (.iload 5, 2) := by decide +kernel
theorem dX2_findLosses_61 : decode cX2_findLosses 61 = .ok (.imul, 1) := by decide +kernel
theorem dX2_findLosses_62 : decode cX2_findLosses 62 = .ok (.iload 6, 2) := by decide +kernel
theorem dX2_findLosses_64 : decode cX2_findLosses 64 = .ok (.iadd, 1) := by decide +kernel
theorem dX2_findLosses_65 : decode cX2_findLosses 65 = .ok (.iconst 4, 1) := by decide +kernel
theorem dX2_findLosses_66 : decode cX2_findLosses 66 = .ok (.aload 7, 2) := by decide +kernel
theorem dX2_findLosses_68 : decode cX2_findLosses 68 = .ok (.iload_n 2, 1) := by decide +kernel
theorem dX2_findLosses_69 : decode cX2_findLosses 69 = .ok (.invokevirtual 76, 3) := by decide +kernel
theorem dX2_findLosses_72 : decode cX2_findLosses 72 = .ok (.imul, 1) := by decide +kernel
theorem dX2_findLosses_73 : decode cX2_findLosses 73 = .ok (.iload 5, 2) := by decide +kernel
theorem dX2_findLosses_75 : decode cX2_findLosses 75 = .ok (.iadd, 1) := by decide +kernel
theorem dX2_findLosses_76 : decode cX2_findLosses 76 = .ok (.iastore, 1) := by decide +kernel
theorem dX2_findLosses_77 : decode cX2_findLosses 77 = .ok (.aload_n 0, 1) := by decide +kernel
theorem dX2_findLosses_78 : decode cX2_findLosses 78 = .ok (.getfield 15, 3) := by decide +kernel
theorem dX2_findLosses_81 : decode cX2_findLosses 81 = .ok (.iconst 4, 1) := by decide +kernel
theorem dX2_findLosses_82 : decode cX2_findLosses 82 = .ok (.iload 5, 2) := by decide +kernel
theorem dX2_findLosses_84 : decode cX2_findLosses 84 = .ok (.imul, 1) := by decide +kernel
theorem dX2_findLosses_85 : decode cX2_findLosses 85 = .ok (.iload 6, 2) := by decide +kernel
theorem dX2_findLosses_87 : decode cX2_findLosses 87 = .ok (.iadd, 1) := by decide +kernel
theorem dX2_findLosses_88 : decode cX2_findLosses 88 = .ok (.iconst 4, 1) := by decide +kernel
theorem dX2_findLosses_89 : decode cX2_findLosses 89 = .ok (.aload 7, 2) := by decide +kernel
theorem dX2_findLosses_91 : decode cX2_findLosses 91 = .ok (.iload_n 3, 1) := by decide +kernel
theorem dX2_findLosses_92 : decode cX2_findLosses 92 = .ok (.invokevirtual 76, 3) := by decide +kernel
theorem dX2_findLosses_95 : decode cX2_findLosses 95 = .ok (.imul, 1) := by decide +kernel
theorem dX2_findLosses_96 : decode cX2_findLosses 96 = .ok (.iload 6, 2) := by decide +kernel
theorem dX2_findLosses_98 : decode cX2_findLosses 98 = .ok (.iadd, 1) := by decide +kernel
theorem dX2_findLosses_99 : decode cX2_findLosses 99 = .ok (.iastore, 1) := by decide +kernel
theorem dX2_findLosses_100 : decode cX2_findLosses 100 = .ok (.iinc 6 1, 3) := by decide +kernel
theorem dX2_findLosses_103 : decode cX2_findLosses 103 = .ok (.goto (-91), 3) := by decide +kernel
theorem dX2_findLosses_106 : decode cX2_findLosses 106 = .ok (.iinc 5 1, 3) := by decide +kernel
theorem dX2_findLosses_109 : decode cX2_findLosses 109 = .ok (.goto (-106), 3) := by decide +kernel
theorem dX2_findLosses_112 : decode cX2_findLosses 112 = .ok (.return_, 1) := by decide +kernel
theorem dX2_isAtRest_0 : decode cX2_isAtRest 0 = .ok (.iconst 0, 1) := by decide +kernel
theorem dX2_isAtRest_1 : decode cX2_isAtRest 1 = .ok (.istore_n 3, 1) := by decide +kernel
theorem dX2_isAtRest_2 : decode cX2_isAtRest 2 = .ok (.iload_n 3, 1) := by decide +kernel
theorem dX2_isAtRest_3 : decode cX2_isAtRest 3 = .ok (.iconst 4, 1) := by decide +kernel
theorem dX2_isAtRest_4 : decode cX2_isAtRest 4 = .ok (.if_icmp .ge 57, 3) := by decide +kernel
theorem dX2_isAtRest_7 : decode cX2_isAtRest 7 = .ok (.aload_n 0, 1) := by decide +kernel
theorem dX2_isAtRest_8 : decode cX2_isAtRest 8 = .ok (.getfield 11, 3) := by decide +kernel
theorem dX2_isAtRest_11 : decode cX2_isAtRest 11 = .ok (.iconst 4, 1) := by decide +kernel
theorem dX2_isAtRest_12 : decode cX2_isAtRest 12 = .ok (.iload_n 3, 1) := by decide +kernel
theorem dX2_isAtRest_13 : decode cX2_isAtRest 13 = .ok (.imul, 1) := by decide +kernel
theorem dX2_isAtRest_14 : decode cX2_isAtRest 14 = .ok (.iload_n 2, 1) := by decide +kernel
theorem dX2_isAtRest_15 : decode cX2_isAtRest 15 = .ok (.iadd, 1) := by decide +kernel
theorem dX2_isAtRest_16 : decode cX2_isAtRest 16 = .ok (.iaload, 1) := by decide +kernel
theorem dX2_isAtRest_17 : decode cX2_isAtRest 17 = .ok (.aload_n 0, 1) := by decide +kernel
theorem dX2_isAtRest_18 : decode cX2_isAtRest 18 = .ok (.getfield 11, 3) := by decide +kernel
theorem dX2_isAtRest_21 : decode cX2_isAtRest 21 = .ok (.iconst 4, 1) := by decide +kernel
theorem dX2_isAtRest_22 : decode cX2_isAtRest 22 = .ok (.iload_n 1, 1) := by decide +kernel
theorem dX2_isAtRest_23 : decode cX2_isAtRest 23 = .ok (.imul, 1) := by decide +kernel
theorem dX2_isAtRest_24 : decode cX2_isAtRest 24 = .ok (.iload_n 2, 1) := by decide +kernel
theorem dX2_isAtRest_25 : decode cX2_isAtRest 25 = .ok (.iadd, 1) := by decide +kernel
theorem dX2_isAtRest_26 : decode cX2_isAtRest 26 = .ok (.iaload, 1) := by decide +kernel
theorem dX2_isAtRest_27 : decode cX2_isAtRest 27 = .ok (.if_icmp .lt 26, 3) := by decide +kernel
theorem dX2_isAtRest_30 : decode cX2_isAtRest 30 = .ok (.aload_n 0, 1) := by decide +kernel
theorem dX2_isAtRest_31 : decode cX2_isAtRest 31 = .ok (.getfield 15, 3) := by decide +kernel
theorem dX2_isAtRest_34 : decode cX2_isAtRest 34 = .ok (.iconst 4, 1) := by decide +kernel
theorem dX2_isAtRest_35 : decode cX2_isAtRest 35 = .ok (.iload_n 1, 1) := by decide +kernel
theorem dX2_isAtRest_36 : decode cX2_isAtRest 36 = .ok (.imul, 1) := by decide +kernel
theorem dX2_isAtRest_37 : decode cX2_isAtRest 37 = .ok (.iload_n 3, 1) := by decide +kernel
theorem dX2_isAtRest_38 : decode cX2_isAtRest 38 = .ok (.iadd, 1) := by decide +kernel
theorem dX2_isAtRest_39 : decode cX2_isAtRest 39 = .ok (.iaload, 1) := by decide +kernel
theorem dX2_isAtRest_40 : decode cX2_isAtRest 40 = .ok (.aload_n 0, 1) := by decide +kernel
theorem dX2_isAtRest_41 : decode cX2_isAtRest 41 = .ok (.getfield 15, 3) := by decide +kernel
theorem dX2_isAtRest_44 : decode cX2_isAtRest 44 = .ok (.iconst 4, 1) := by decide +kernel
theorem dX2_isAtRest_45 : decode cX2_isAtRest 45 = .ok (.iload_n 1, 1) := by decide +kernel
theorem dX2_isAtRest_46 : decode cX2_isAtRest 46 = .ok (.imul, 1) := by decide +kernel
theorem dX2_isAtRest_47 : decode cX2_isAtRest 47 = .ok (.iload_n 2, 1) := by decide +kernel
theorem dX2_isAtRest_48 : decode cX2_isAtRest 48 = .ok (.iadd, 1) := by decide +kernel
theorem dX2_isAtRest_49 : decode cX2_isAtRest 49 = .ok (.iaload, 1) := by decide +kernel
theorem dX2_isAtRest_50 : decode cX2_isAtRest 50 = .ok (.if_icmp .ge 5, 3) := by decide +kernel
theorem dX2_isAtRest_53 : decode cX2_isAtRest 53 = .ok (.iconst 0, 1) := by decide +kernel
theorem dX2_isAtRest_54 : decode cX2_isAtRest 54 = .ok (.ireturn, 1) := by decide +kernel
theorem dX2_isAtRest_55 : decode cX2_isAtRest 55 = .ok (.iinc 3 1, 3) := by decide +kernel
theorem dX2_isAtRest_58 : decode cX2_isAtRest 58 = .ok (.goto (-56), 3) := by decide +kernel
theorem dX2_isAtRest_61 : decode cX2_isAtRest 61 = .ok (.iconst 1, 1) := by decide +kernel
theorem dX2_isAtRest_62 : decode cX2_isAtRest 62 = .ok (.ireturn, 1) := by decide +kernel
theorem dX2_asleepAbove_0 : decode cX2_asleepAbove 0 = .ok (.aload_n 1, 1) := by decide +kernel
theorem dX2_asleepAbove_1 : decode cX2_asleepAbove 1 = .ok (.invokevirtual 80, 3) := by decide +kernel
theorem dX2_asleepAbove_4 : decode cX2_asleepAbove 4 = .ok (.istore 5, 2) := by decide +kernel
theorem dX2_asleepAbove_6 : decode cX2_asleepAbove 6 = .ok (.iconst 0, 1) := by decide +kernel
theorem dX2_asleepAbove_7 : decode cX2_asleepAbove 7 = .ok (.istore 6, 2) := by decide +kernel
theorem dX2_asleepAbove_9 : decode cX2_asleepAbove 9 = .ok (.iconst 0, 1) := by decide +kernel
theorem dX2_asleepAbove_10 : decode cX2_asleepAbove 10 = .ok (.istore 7, 2) := by decide +kernel
theorem dX2_asleepAbove_12 : decode cX2_asleepAbove 12 = .ok (.iload 7, 2) := by decide +kernel
theorem dX2_asleepAbove_14 : decode cX2_asleepAbove 14 = .ok (.iconst 1, 1) := by decide +kernel
theorem dX2_asleepAbove_15 : decode cX2_asleepAbove 15 = .ok (.iload 5, 2) := by decide +kernel
theorem dX2_asleepAbove_17 : decode cX2_asleepAbove 17 = .ok (.ishl, 1) := by decide +kernel
theorem dX2_asleepAbove_18 : decode cX2_asleepAbove 18 = .ok (.if_icmp .ge 54, 3) := by decide +kernel
theorem dX2_asleepAbove_21 : decode cX2_asleepAbove 21 = .ok (.aload_n 0, 1) := by decide +kernel
theorem dX2_asleepAbove_22 : decode cX2_asleepAbove 22 = .ok (.aload_n 1, 1) := by decide +kernel
theorem dX2_asleepAbove_23 : decode cX2_asleepAbove 23 = .ok (.iload_n 2, 1) := by decide +kernel
theorem dX2_asleepAbove_24 : decode cX2_asleepAbove 24 = .ok (.iload_n 3, 1) := by decide +kernel
theorem dX2_asleepAbove_25 : decode cX2_asleepAbove 25 = .ok (.iload 7, 2) := by decide +kernel
theorem dX2_asleepAbove_27 : decode cX2_asleepAbove 27 = .ok (.invokevirtual 83, 3) := by decide +kernel
theorem dX2_asleepAbove_30 : decode cX2_asleepAbove 30 = .ok (.ifCond .eq 36, 3) := by decide +kernel
theorem dX2_asleepAbove_33 : decode cX2_asleepAbove 33 = .ok (.iload 7, 2) := by decide +kernel
theorem dX2_asleepAbove_35 : decode cX2_asleepAbove 35 = .ok (.invokestatic 86, 3) := by decide +kernel
theorem dX2_asleepAbove_38 : decode cX2_asleepAbove 38 = .ok (.istore 8, 2) := by decide +kernel
theorem dX2_asleepAbove_40 : decode cX2_asleepAbove 40 = .ok (.iload 6, 2) := by decide +kernel
theorem dX2_asleepAbove_42 : decode cX2_asleepAbove 42 = .ok (.iload 4, 2) := by decide +kernel
theorem dX2_asleepAbove_44 : decode cX2_asleepAbove 44 = .ok (.iload 8, 2) := by decide +kernel
theorem dX2_asleepAbove_46 : decode cX2_asleepAbove 46 = .ok (.invokestatic 91, 3) := by decide +kernel
theorem dX2_asleepAbove_49 : decode cX2_asleepAbove 49 = .ok (.bipush 10, 2) := by decide +kernel
theorem dX2_asleepAbove_51 : decode cX2_asleepAbove 51 = .ok (.iload 4, 2) := by decide +kernel
theorem dX2_asleepAbove_53 : decode cX2_asleepAbove 53 = .ok (.isub, 1) := by decide +kernel
theorem dX2_asleepAbove_54 : decode cX2_asleepAbove 54 = .ok (.iload 5, 2) := by decide +kernel
theorem dX2_asleepAbove_56 : decode cX2_asleepAbove 56 = .ok (.iload 8, 2) := by decide +kernel
theorem dX2_asleepAbove_58 : decode cX2_asleepAbove 58 = .ok (.isub, 1) := by decide +kernel
theorem dX2_asleepAbove_59 : decode cX2_asleepAbove 59 = .ok (.invokestatic 91, 3) := by decide +kernel
theorem dX2_asleepAbove_62 : decode cX2_asleepAbove 62 = .ok (.imul, 1) := by decide +kernel
theorem dX2_asleepAbove_63 : decode cX2_asleepAbove 63 = .ok (.iadd, 1) := by decide +kernel
theorem dX2_asleepAbove_64 : decode cX2_asleepAbove 64 = .ok (.istore 6, 2) := by decide +kernel
theorem dX2_asleepAbove_66 : decode cX2_asleepAbove 66 = .ok (.iinc 7 1, 3) := by decide +kernel
theorem dX2_asleepAbove_69 : decode cX2_asleepAbove 69 = .ok (.goto (-57), 3) := by decide +kernel
theorem dX2_asleepAbove_72 : decode cX2_asleepAbove 72 = .ok (.iload 6, 2) := by decide +kernel
theorem dX2_asleepAbove_74 : decode cX2_asleepAbove 74 = .ok (.ireturn, 1) := by decide +kernel
theorem dX2_isAtWith_0 : decode cX2_isAtWith 0 = .ok (.aload_n 1, 1) := by decide +kernel
theorem dX2_isAtWith_1 : decode cX2_isAtWith 1 = .ok (.invokevirtual 37, 3) := by decide +kernel
theorem dX2_isAtWith_4 : decode cX2_isAtWith 4 = .ok (.astore 5, 2) := by decide +kernel
theorem dX2_isAtWith_6 : decode cX2_isAtWith 6 = .ok (.aload 5, 2) := by decide +kernel
theorem dX2_isAtWith_8 : decode cX2_isAtWith 8 = .ok (.getfield 95, 3) := by decide +kernel
theorem dX2_isAtWith_11 : decode cX2_isAtWith 11 = .ok (.istore 6, 2) := by decide +kernel
theorem dX2_isAtWith_13 : decode cX2_isAtWith 13 = .ok (.iload 6, 2) := by decide +kernel
theorem dX2_isAtWith_15 : decode cX2_isAtWith 15 = .ok (.aload_n 1, 1) := by decide +kernel
theorem dX2_isAtWith_16 : decode cX2_isAtWith 16 = .ok (.getfield 73, 3) := by decide +kernel
theorem dX2_isAtWith_19 : decode cX2_isAtWith 19 = .ok (.if_icmp .ge 35, 3) := by decide +kernel
theorem dX2_isAtWith_22 : decode cX2_isAtWith 22 = .ok (.iload 4, 2) := by decide +kernel
theorem dX2_isAtWith_24 : decode cX2_isAtWith 24 = .ok (.iload 6, 2) := by decide +kernel
theorem dX2_isAtWith_26 : decode cX2_isAtWith 26 = .ok (.aload 5, 2) := by decide +kernel
theorem dX2_isAtWith_28 : decode cX2_isAtWith 28 = .ok (.getfield 95, 3) := by decide +kernel
theorem dX2_isAtWith_31 : decode cX2_isAtWith 31 = .ok (.isub, 1) := by decide +kernel
theorem dX2_isAtWith_32 : decode cX2_isAtWith 32 = .ok (.ishr, 1) := by decide +kernel
theorem dX2_isAtWith_33 : decode cX2_isAtWith 33 = .ok (.iconst 1, 1) := by decide +kernel
theorem dX2_isAtWith_34 : decode cX2_isAtWith 34 = .ok (.iand, 1) := by decide +kernel
theorem dX2_isAtWith_35 : decode cX2_isAtWith 35 = .ok (.iconst 1, 1) := by decide +kernel
theorem dX2_isAtWith_36 : decode cX2_isAtWith 36 = .ok (.if_icmp .ne 12, 3) := by decide +kernel
theorem dX2_isAtWith_39 : decode cX2_isAtWith 39 = .ok (.aload 5, 2) := by decide +kernel
theorem dX2_isAtWith_41 : decode cX2_isAtWith 41 = .ok (.getfield 41, 3) := by decide +kernel
theorem dX2_isAtWith_44 : decode cX2_isAtWith 44 = .ok (.iload 6, 2) := by decide +kernel
theorem dX2_isAtWith_46 : decode cX2_isAtWith 46 = .ok (.iconst 0, 1) := by decide +kernel
theorem dX2_isAtWith_47 : decode cX2_isAtWith 47 = .ok (.iastore, 1) := by decide +kernel
theorem dX2_isAtWith_48 : decode cX2_isAtWith 48 = .ok (.iinc 6 1, 3) := by decide +kernel
theorem dX2_isAtWith_51 : decode cX2_isAtWith 51 = .ok (.goto (-38), 3) := by decide +kernel
theorem dX2_isAtWith_54 : decode cX2_isAtWith 54 = .ok (.aload_n 1, 1) := by decide +kernel
theorem dX2_isAtWith_55 : decode cX2_isAtWith 55 = .ok (.aload 5, 2) := by decide +kernel
theorem dX2_isAtWith_57 : decode cX2_isAtWith 57 = .ok (.aload_n 1, 1) := by decide +kernel
theorem dX2_isAtWith_58 : decode cX2_isAtWith 58 = .ok (.getfield 73, 3) := by decide +kernel
theorem dX2_isAtWith_61 : decode cX2_isAtWith 61 = .ok (.invokevirtual 50, 3) := by decide +kernel
theorem dX2_isAtWith_64 : decode cX2_isAtWith 64 = .ok (.aload 5, 2) := by decide +kernel
theorem dX2_isAtWith_66 : decode cX2_isAtWith 66 = .ok (.iload_n 3, 1) := by decide +kernel
theorem dX2_isAtWith_67 : decode cX2_isAtWith 67 = .ok (.iload_n 2, 1) := by decide +kernel
theorem dX2_isAtWith_68 : decode cX2_isAtWith 68 = .ok (.invokevirtual 98, 3) := by decide +kernel
theorem dX2_isAtWith_71 : decode cX2_isAtWith 71 = .ok (.ireturn, 1) := by decide +kernel
theorem dX2_isFirstIfAllGive_0 : decode cX2_isFirstIfAllGive 0 = .ok (.aload_n 1, 1) := by decide +kernel
theorem dX2_isFirstIfAllGive_1 : decode cX2_isFirstIfAllGive 1 = .ok (.invokevirtual 37, 3) := by decide +kernel
theorem dX2_isFirstIfAllGive_4 : decode cX2_isFirstIfAllGive 4 = .ok (.astore 4, 2) := by decide +kernel
theorem dX2_isFirstIfAllGive_6 : decode cX2_isFirstIfAllGive 6 = .ok (.aload 4, 2) := by decide +kernel
theorem dX2_isFirstIfAllGive_8 : decode cX2_isFirstIfAllGive 8 = .ok (.getfield 95, 3) := by decide +kernel
theorem dX2_isFirstIfAllGive_11 : decode cX2_isFirstIfAllGive 11 = .ok (.istore 5, 2) := by decide +kernel
theorem dX2_isFirstIfAllGive_13 : decode cX2_isFirstIfAllGive 13 = .ok (.iload 5, 2) := by decide +kernel
theorem dX2_isFirstIfAllGive_15 : decode cX2_isFirstIfAllGive 15 = .ok (.aload_n 1, 1) := by decide +kernel
theorem dX2_isFirstIfAllGive_16 : decode cX2_isFirstIfAllGive 16 = .ok (.getfield 73, 3) := by decide +kernel
theorem dX2_isFirstIfAllGive_19 : decode cX2_isFirstIfAllGive 19 = .ok (.if_icmp .ge 19, 3) := by decide +kernel
theorem dX2_isFirstIfAllGive_22 : decode cX2_isFirstIfAllGive 22 = .ok (.aload_n 0, 1) := by decide +kernel
theorem dX2_isFirstIfAllGive_23 : decode cX2_isFirstIfAllGive 23 = .ok (.aload_n 1, 1) := by decide +kernel
theorem dX2_isFirstIfAllGive_24 : decode cX2_isFirstIfAllGive 24 = .ok (.aload 4, 2) := by decide +kernel
theorem dX2_isFirstIfAllGive_26 : decode cX2_isFirstIfAllGive 26 = .ok (.iload 5, 2) := by decide +kernel
theorem dX2_isFirstIfAllGive_28 : decode cX2_isFirstIfAllGive 28 = .ok (.iload_n 3, 1) := by decide +kernel
theorem dX2_isFirstIfAllGive_29 : decode cX2_isFirstIfAllGive 29 = .ok (.invokevirtual 46, 3) := by decide +kernel
theorem dX2_isFirstIfAllGive_32 : decode cX2_isFirstIfAllGive 32 = .ok (.iinc 5 1, 3) := by decide +kernel
theorem dX2_isFirstIfAllGive_35 : decode cX2_isFirstIfAllGive 35 = .ok (.goto (-22), 3) := by decide +kernel
theorem dX2_isFirstIfAllGive_38 : decode cX2_isFirstIfAllGive 38 = .ok (.aload_n 1, 1) := by decide +kernel
theorem dX2_isFirstIfAllGive_39 : decode cX2_isFirstIfAllGive 39 = .ok (.aload 4, 2) := by decide +kernel
theorem dX2_isFirstIfAllGive_41 : decode cX2_isFirstIfAllGive 41 = .ok (.aload_n 1, 1) := by decide +kernel
theorem dX2_isFirstIfAllGive_42 : decode cX2_isFirstIfAllGive 42 = .ok (.getfield 73, 3) := by decide +kernel
theorem dX2_isFirstIfAllGive_45 : decode cX2_isFirstIfAllGive 45 = .ok (.invokevirtual 50, 3) := by decide +kernel
theorem dX2_isFirstIfAllGive_48 : decode cX2_isFirstIfAllGive 48 = .ok (.aload 4, 2) := by decide +kernel
theorem dX2_isFirstIfAllGive_50 : decode cX2_isFirstIfAllGive 50 = .ok (.iconst 0, 1) := by decide +kernel
theorem dX2_isFirstIfAllGive_51 : decode cX2_isFirstIfAllGive 51 = .ok (.iload_n 2, 1) := by decide +kernel
theorem dX2_isFirstIfAllGive_52 : decode cX2_isFirstIfAllGive 52 = .ok (.invokevirtual 98, 3) := by decide +kernel
theorem dX2_isFirstIfAllGive_55 : decode cX2_isFirstIfAllGive 55 = .ok (.ireturn, 1) := by decide +kernel
theorem dX3_init_0 : decode cX3_init 0 = .ok (.aload_n 0, 1) := by decide +kernel
theorem dX3_init_1 : decode cX3_init 1 = .ok (.invokespecial 3, 3) := by decide +kernel
theorem dX3_init_4 : decode cX3_init 4 = .ok (.aload_n 0, 1) := by decide +kernel
theorem dX3_init_5 : decode cX3_init 5 = .ok (.bipush 6, 2) := by decide +kernel
theorem dX3_init_7 : decode cX3_init 7 = .ok (.newarray .int, 2) := by decide +kernel
theorem dX3_init_9 : decode cX3_init 9 = .ok (.putfield 9, 3) := by decide +kernel
theorem dX3_init_12 : decode cX3_init 12 = .ok (.aload_n 0, 1) := by decide +kernel
theorem dX3_init_13 : decode cX3_init 13 = .ok (.bipush 6, 2) := by decide +kernel
theorem dX3_init_15 : decode cX3_init 15 = .ok (.newarray .int, 2) := by decide +kernel
theorem dX3_init_17 : decode cX3_init 17 = .ok (.putfield 15, 3) := by decide +kernel
theorem dX3_init_20 : decode cX3_init 20 = .ok (.return_, 1) := by decide +kernel
theorem dX3_gainsOf_0 : decode cX3_gainsOf 0 = .ok (.aload_n 1, 1) := by decide +kernel
theorem dX3_gainsOf_1 : decode cX3_gainsOf 1 = .ok (.invokevirtual 18, 3) := by decide +kernel
theorem dX3_gainsOf_4 : decode cX3_gainsOf 4 = .ok (.astore_n 3, 1) := by decide +kernel
theorem dX3_gainsOf_5 : decode cX3_gainsOf 5 = .ok (.iconst 0, 1) := by decide +kernel
theorem dX3_gainsOf_6 : decode cX3_gainsOf 6 = .ok (.istore 4, 2) := by decide +kernel
theorem dX3_gainsOf_8 : decode cX3_gainsOf 8 = .ok (.aload_n 3, 1) := by decide +kernel
theorem dX3_gainsOf_9 : decode cX3_gainsOf 9 = .ok (.getfield 24, 3) := by decide +kernel
theorem dX3_gainsOf_12 : decode cX3_gainsOf 12 = .ok (.istore 5, 2) := by decide +kernel
theorem dX3_gainsOf_14 : decode cX3_gainsOf 14 = .ok (.iload 5, 2) := by decide +kernel
theorem dX3_gainsOf_16 : decode cX3_gainsOf 16 = .ok (.aload_n 1, 1) := by decide +kernel
theorem dX3_gainsOf_17 : decode cX3_gainsOf 17 = .ok (.getfield 30, 3) := by decide +kernel
theorem dX3_gainsOf_20 : decode cX3_gainsOf 20 = .ok (.if_icmp .ge 40, 3) := by decide +kernel
theorem dX3_gainsOf_23 : decode cX3_gainsOf 23 = .ok (.aload_n 3, 1) := by decide +kernel
theorem dX3_gainsOf_24 : decode cX3_gainsOf 24 = .ok (.iload_n 2, 1) := by decide +kernel
theorem dX3_gainsOf_25 : decode cX3_gainsOf 25 = .ok (.invokevirtual 33, 3) := by decide +kernel
theorem dX3_gainsOf_28 : decode cX3_gainsOf 28 = .ok (.istore 6, 2) := by decide +kernel
theorem dX3_gainsOf_30 : decode cX3_gainsOf 30 = .ok (.aload_n 1, 1) := by decide +kernel
theorem dX3_gainsOf_31 : decode cX3_gainsOf 31 = .ok (.aload_n 3, 1) := by decide +kernel
theorem dX3_gainsOf_32 : decode cX3_gainsOf 32 = .ok (.invokevirtual 37, 3) := by decide +kernel
theorem dX3_gainsOf_35 : decode cX3_gainsOf 35 = .ok (.aload_n 3, 1) := by decide +kernel
theorem dX3_gainsOf_36 : decode cX3_gainsOf 36 = .ok (.iload_n 2, 1) := by decide +kernel
theorem dX3_gainsOf_37 : decode cX3_gainsOf 37 = .ok (.invokevirtual 33, 3) := by decide +kernel
theorem dX3_gainsOf_40 : decode cX3_gainsOf 40 = .ok (.iload 6, 2) := by decide +kernel
theorem dX3_gainsOf_42 : decode cX3_gainsOf 42 = .ok (.if_icmp .ge 12, 3) := by decide +kernel
theorem dX3_gainsOf_45 : decode cX3_gainsOf 45 = .ok (.iload 4, 2) := by decide +kernel
theorem dX3_gainsOf_47 : decode cX3_gainsOf 47 = .ok (.iconst 1, 1) := by decide +kernel
theorem dX3_gainsOf_48 : decode cX3_gainsOf 48 = .ok (.iload 5, 2) := by decide +kernel
theorem dX3_gainsOf_50 : decode cX3_gainsOf 50 = .ok (.ishl, 1) := by decide +kernel
theorem dX3_gainsOf_51 : decode cX3_gainsOf 51 = .ok (.ior, 1) := by decide +kernel
theorem dX3_gainsOf_52 : decode cX3_gainsOf 52 = .ok (.istore 4, 2) := by decide +kernel
theorem dX3_gainsOf_54 : decode cX3_gainsOf 54 = .ok (.iinc 5 1, 3) := by decide +kernel
theorem dX3_gainsOf_57 : decode cX3_gainsOf 57 = .ok (.goto (-43), 3) := by decide +kernel
theorem dX3_gainsOf_60 : decode cX3_gainsOf 60 = .ok (.iload 4, 2) := by decide +kernel
theorem dX3_gainsOf_62 : decode cX3_gainsOf 62 = .ok (.ireturn, 1) := by decide +kernel
theorem dX3_matesOf_0 : decode cX3_matesOf 0 = .ok (.aload_n 1, 1) := by decide +kernel
theorem dX3_matesOf_1 : decode cX3_matesOf 1 = .ok (.invokevirtual 18, 3) := by decide +kernel
theorem dX3_matesOf_4 : decode cX3_matesOf 4 = .ok (.astore_n 3, 1) := by decide +kernel
theorem dX3_matesOf_5 : decode cX3_matesOf 5 = .ok (.iconst 0, 1) := by decide +kernel
theorem dX3_matesOf_6 : decode cX3_matesOf 6 = .ok (.istore 4, 2) := by decide +kernel
theorem dX3_matesOf_8 : decode cX3_matesOf 8 = .ok (.aload_n 3, 1) := by decide +kernel
theorem dX3_matesOf_9 : decode cX3_matesOf 9 = .ok (.getfield 24, 3) := by decide +kernel
theorem dX3_matesOf_12 : decode cX3_matesOf 12 = .ok (.istore 5, 2) := by decide +kernel
theorem dX3_matesOf_14 : decode cX3_matesOf 14 = .ok (.iload 5, 2) := by decide +kernel
theorem dX3_matesOf_16 : decode cX3_matesOf 16 = .ok (.aload_n 1, 1) := by decide +kernel
theorem dX3_matesOf_17 : decode cX3_matesOf 17 = .ok (.getfield 30, 3) := by decide +kernel
theorem dX3_matesOf_20 : decode cX3_matesOf 20 = .ok (.if_icmp .ge 38, 3) := by decide +kernel
theorem dX3_matesOf_23 : decode cX3_matesOf 23 = .ok (.aload_n 1, 1) := by decide +kernel
theorem dX3_matesOf_24 : decode cX3_matesOf 24 = .ok (.aload_n 3, 1) := by decide +kernel
theorem dX3_matesOf_25 : decode cX3_matesOf 25 = .ok (.iload_n 2, 1) := by decide +kernel
theorem dX3_matesOf_26 : decode cX3_matesOf 26 = .ok (.invokevirtual 41, 3) := by decide +kernel
theorem dX3_matesOf_29 : decode cX3_matesOf 29 = .ok (.istore 6, 2) := by decide +kernel
theorem dX3_matesOf_31 : decode cX3_matesOf 31 = .ok (.iload 6, 2) := by decide +kernel
theorem dX3_matesOf_33 : decode cX3_matesOf 33 = .ok (.bipush (-9), 2) := by decide +kernel
theorem dX3_matesOf_35 : decode cX3_matesOf 35 = .ok (.if_icmp .eq 12, 3) := by decide +kernel
theorem dX3_matesOf_38 : decode cX3_matesOf 38 = .ok (.iload 4, 2) := by decide +kernel
theorem dX3_matesOf_40 : decode cX3_matesOf 40 = .ok (.iconst 1, 1) := by decide +kernel
theorem dX3_matesOf_41 : decode cX3_matesOf 41 = .ok (.iload 6, 2) := by decide +kernel
theorem dX3_matesOf_43 : decode cX3_matesOf 43 = .ok (.ishl, 1) := by decide +kernel
theorem dX3_matesOf_44 : decode cX3_matesOf 44 = .ok (.ior, 1) := by decide +kernel
theorem dX3_matesOf_45 : decode cX3_matesOf 45 = .ok (.istore 4, 2) := by decide +kernel
theorem dX3_matesOf_47 : decode cX3_matesOf 47 = .ok (.aload_n 1, 1) := by decide +kernel
theorem dX3_matesOf_48 : decode cX3_matesOf 48 = .ok (.aload_n 3, 1) := by decide +kernel
theorem dX3_matesOf_49 : decode cX3_matesOf 49 = .ok (.invokevirtual 37, 3) := by decide +kernel
theorem dX3_matesOf_52 : decode cX3_matesOf 52 = .ok (.iinc 5 1, 3) := by decide +kernel
theorem dX3_matesOf_55 : decode cX3_matesOf 55 = .ok (.goto (-41), 3) := by decide +kernel
theorem dX3_matesOf_58 : decode cX3_matesOf 58 = .ok (.iload 4, 2) := by decide +kernel
theorem dX3_matesOf_60 : decode cX3_matesOf 60 = .ok (.ireturn, 1) := by decide +kernel
theorem dX3_firstOrder_0 : decode cX3_firstOrder 0 = .ok (.iconst 0, 1) := by decide +kernel
theorem dX3_firstOrder_1 : decode cX3_firstOrder 1 = .ok (.istore 4, 2) := by decide +kernel
theorem dX3_firstOrder_3 : decode cX3_firstOrder 3 = .ok (.iload 4, 2) := by decide +kernel
theorem dX3_firstOrder_5 : decode cX3_firstOrder 5 = .ok (.aload_n 1, 1) := by decide +kernel
theorem dX3_firstOrder_6 : decode cX3_firstOrder 6 = .ok (.getfield 45, 3) := by decide +kernel
theorem dX3_firstOrder_9 : decode cX3_firstOrder 9 = .ok (.if_icmp .ge 18, 3) := by decide +kernel
theorem dX3_firstOrder_12 : decode cX3_firstOrder 12 = .ok (.aload_n 0, 1) := by decide +kernel
theorem dX3_firstOrder_13 : decode cX3_firstOrder 13 = .ok (.getfield 9, 3) := by decide +kernel
theorem dX3_firstOrder_16 : decode cX3_firstOrder 16 = .ok (.iload 4, 2) := by decide +kernel
theorem dX3_firstOrder_18 : decode cX3_firstOrder 18 = .ok (.iload 4, 2) := by decide +kernel
theorem dX3_firstOrder_20 : decode cX3_firstOrder 20 = .ok (.iastore, 1) := by decide +kernel
theorem dX3_firstOrder_21 : decode cX3_firstOrder 21 = .ok (.iinc 4 1, 3) := by decide +kernel
theorem dX3_firstOrder_24 : decode cX3_firstOrder 24 = .ok (.goto (-21), 3) := by decide +kernel
theorem dX3_firstOrder_27 : decode cX3_firstOrder 27 = .ok (.iconst 0, 1) := by decide +kernel
theorem dX3_firstOrder_28 : decode cX3_firstOrder 28 = .ok (.istore 4, 2) := by decide +kernel
theorem dX3_firstOrder_30 : decode cX3_firstOrder 30 = .ok (.iload 4, 2) := by decide +kernel
theorem dX3_firstOrder_32 : decode cX3_firstOrder 32 = .ok (.getstatic 48, 3) := by decide +kernel
theorem dX3_firstOrder_35 : decode cX3_firstOrder 35 = .ok (.aload_n 1, 1) := by decide +kernel
theorem dX3_firstOrder_36 : decode cX3_firstOrder 36 = .ok (.getfield 45, 3) := by decide +kernel
theorem dX3_firstOrder_39 : decode cX3_firstOrder 39 = .ok (.iaload, 1) := by decide +kernel
theorem dX3_firstOrder_40 : decode cX3_firstOrder 40 = .ok (.if_icmp .ge 63, 3) := by decide +kernel
theorem dX3_firstOrder_43 : decode cX3_firstOrder 43 = .ok (.aload_n 1, 1) := by decide +kernel
theorem dX3_firstOrder_44 : decode cX3_firstOrder 44 = .ok (.invokevirtual 18, 3) := by decide +kernel
theorem dX3_firstOrder_47 : decode cX3_firstOrder 47 = .ok (.astore 5, 2) := by decide +kernel
theorem dX3_firstOrder_49 : decode cX3_firstOrder 49 = .ok (.aload_n 0, 1) := by decide +kernel
theorem dX3_firstOrder_50 : decode cX3_firstOrder 50 = .ok (.getfield 9, 3) := by decide +kernel
theorem dX3_firstOrder_53 : decode cX3_firstOrder 53 = .ok (.iconst 0, 1) := by decide +kernel
theorem dX3_firstOrder_54 : decode cX3_firstOrder 54 = .ok (.aload 5, 2) := by decide +kernel
theorem dX3_firstOrder_56 : decode cX3_firstOrder 56 = .ok (.getfield 51, 3) := by decide +kernel
theorem dX3_firstOrder_59 : decode cX3_firstOrder 59 = .ok (.iconst 0, 1) := by decide +kernel
theorem dX3_firstOrder_60 : decode cX3_firstOrder 60 = .ok (.aload_n 1, 1) := by decide +kernel
theorem dX3_firstOrder_61 : decode cX3_firstOrder 61 = .ok (.getfield 45, 3) := by decide +kernel
theorem dX3_firstOrder_64 : decode cX3_firstOrder 64 = .ok (.invokestatic 54, 3) := by decide +kernel
theorem dX3_firstOrder_67 : decode cX3_firstOrder 67 = .ok (.aload 5, 2) := by decide +kernel
theorem dX3_firstOrder_69 : decode cX3_firstOrder 69 = .ok (.invokevirtual 60, 3) := by decide +kernel
theorem dX3_firstOrder_72 : decode cX3_firstOrder 72 = .ok (.istore 6, 2) := by decide +kernel
theorem dX3_firstOrder_74 : decode cX3_firstOrder 74 = .ok (.aload_n 0, 1) := by decide +kernel
theorem dX3_firstOrder_75 : decode cX3_firstOrder 75 = .ok (.aload_n 1, 1) := by decide +kernel
theorem dX3_firstOrder_76 : decode cX3_firstOrder 76 = .ok (.aload 5, 2) := by decide +kernel
theorem dX3_firstOrder_78 : decode cX3_firstOrder 78 = .ok (.iload_n 2, 1) := by decide +kernel
theorem dX3_firstOrder_79 : decode cX3_firstOrder 79 = .ok (.iload_n 3, 1) := by decide +kernel
theorem dX3_firstOrder_80 : decode cX3_firstOrder 80 = .ok (.invokevirtual 63, 3) := by decide +kernel
theorem dX3_firstOrder_83 : decode cX3_firstOrder 83 = .ok (.ifCond .eq 6, 3) := by decide +kernel
theorem dX3_firstOrder_86 : decode cX3_firstOrder 86 = .ok (.iload 6, 2) := by decide +kernel
theorem dX3_firstOrder_88 : decode cX3_firstOrder 88 = .ok (.ireturn, 1) := by decide +kernel
theorem dX3_firstOrder_89 : decode cX3_firstOrder 89 = .ok (.aload_n 0, 1) := by decide +kernel
theorem dX3_firstOrder_90 : decode cX3_firstOrder 90 = .ok (.aload_n 1, 1) := by decide +kernel
theorem dX3_firstOrder_91 : decode cX3_firstOrder 91 = .ok (.getfield 45, 3) := by decide +kernel
theorem dX3_firstOrder_94 : decode cX3_firstOrder 94 = .ok (.invokevirtual 67, 3) := by decide +kernel
theorem dX3_firstOrder_97 : decode cX3_firstOrder 97 = .ok (.iinc 4 1, 3) := by decide +kernel
theorem dX3_firstOrder_100 : decode cX3_firstOrder 100 = .ok (.goto (-70), 3) := by decide +kernel
theorem dX3_firstOrder_103 : decode cX3_firstOrder 103 = .ok (.bipush (-9), 2) := by decide +kernel
theorem dX3_firstOrder_105 : decode cX3_firstOrder 105 = .ok (.ireturn, 1) := by decide +kernel
theorem dX3_makeNextOrder_0 : decode cX3_makeNextOrder 0 = .ok (.iload_n 1, 1) := by decide +kernel
theorem dX3_makeNextOrder_1 : decode cX3_makeNextOrder 1 = .ok (.iconst 2, 1) := by decide +kernel
theorem dX3_makeNextOrder_2 : decode cX3_makeNextOrder 2 = .ok (.isub, 1) := by decide +kernel
theorem dX3_makeNextOrder_3 : decode cX3_makeNextOrder 3 = .ok (.istore_n 2, 1) := by decide +kernel
theorem dX3_makeNextOrder_4 : decode cX3_makeNextOrder 4 = .ok (.iload_n 2, 1) := by decide +kernel
theorem dX3_makeNextOrder_5 : decode cX3_makeNextOrder 5 = .ok (.ifCond .lt 26, 3) := by decide +kernel
theorem dX3_makeNextOrder_8 : decode cX3_makeNextOrder 8 = .ok (.aload_n 0, 1) := by decide +kernel
theorem dX3_makeNextOrder_9 : decode cX3_makeNextOrder 9 = .ok (.getfield 9, 3) := by decide +kernel
theorem dX3_makeNextOrder_12 : decode cX3_makeNextOrder 12 = .ok (.iload_n 2, 1) := by decide +kernel
theorem dX3_makeNextOrder_13 : decode cX3_makeNextOrder 13 = .ok (.iaload, 1) := by decide +kernel
theorem dX3_makeNextOrder_14 : decode cX3_makeNextOrder 14 = .ok (.aload_n 0, 1) := by decide +kernel
theorem dX3_makeNextOrder_15 : decode cX3_makeNextOrder 15 = .ok (.getfield 9, 3) := by decide +kernel
theorem dX3_makeNextOrder_18 : decode cX3_makeNextOrder 18 = .ok (.iload_n 2, 1) := by decide +kernel
theorem dX3_makeNextOrder_19 : decode cX3_makeNextOrder 19 = .ok (.iconst 1, 1) := by decide +kernel
theorem dX3_makeNextOrder_20 : decode cX3_makeNextOrder 20 = .ok (.iadd, 1) := by decide +kernel
theorem dX3_makeNextOrder_21 : decode cX3_makeNextOrder 21 = .ok (.iaload, 1) := by decide +kernel
theorem dX3_makeNextOrder_22 : decode cX3_makeNextOrder 22 = .ok (.if_icmp .le 9, 3) := by decide +kernel
theorem dX3_makeNextOrder_25 : decode cX3_makeNextOrder 25 = .ok (.iinc 2 (-1), 3) := by decide +kernel
theorem dX3_makeNextOrder_28 : decode cX3_makeNextOrder 28 = .ok (.goto (-24), 3) := by decide +kernel
theorem dX3_makeNextOrder_31 : decode cX3_makeNextOrder 31 = .ok (.iload_n 2, 1) := by decide +kernel
theorem dX3_makeNextOrder_32 : decode cX3_makeNextOrder 32 = .ok (.ifCond .ge 4, 3) := by decide +kernel
theorem dX3_makeNextOrder_35 : decode cX3_makeNextOrder 35 = .ok (.return_, 1) := by decide +kernel
theorem dX3_makeNextOrder_36 : decode cX3_makeNextOrder 36 = .ok (.iload_n 1, 1) := by decide +kernel
theorem dX3_makeNextOrder_37 : decode cX3_makeNextOrder 37 = .ok (.iconst 1, 1) := by decide +kernel
theorem dX3_makeNextOrder_38 : decode cX3_makeNextOrder 38 = .ok (.isub, 1) := by decide +kernel
theorem dX3_makeNextOrder_39 : decode cX3_makeNextOrder 39 = .ok (.istore_n 3, 1) := by decide +kernel
theorem dX3_makeNextOrder_40 : decode cX3_makeNextOrder 40 = .ok (.iload_n 3, 1) := by decide +kernel
theorem dX3_makeNextOrder_41 : decode cX3_makeNextOrder 41 = .ok (.iload_n 2, 1) := by decide +kernel
theorem dX3_makeNextOrder_42 : decode cX3_makeNextOrder 42 = .ok (.if_icmp .le 24, 3) := by decide +kernel
theorem dX3_makeNextOrder_45 : decode cX3_makeNextOrder 45 = .ok (.aload_n 0, 1) := by decide +kernel
theorem dX3_makeNextOrder_46 : decode cX3_makeNextOrder 46 = .ok (.getfield 9, 3) := by decide +kernel
theorem dX3_makeNextOrder_49 : decode cX3_makeNextOrder 49 = .ok (.iload_n 3, 1) := by decide +kernel
theorem dX3_makeNextOrder_50 : decode cX3_makeNextOrder 50 = .ok (.iaload, 1) := by decide +kernel
theorem dX3_makeNextOrder_51 : decode cX3_makeNextOrder 51 = .ok (.aload_n 0, 1) := by decide +kernel
theorem dX3_makeNextOrder_52 : decode cX3_makeNextOrder 52 = .ok (.getfield 9, 3) := by decide +kernel
theorem dX3_makeNextOrder_55 : decode cX3_makeNextOrder 55 = .ok (.iload_n 2, 1) := by decide +kernel
theorem dX3_makeNextOrder_56 : decode cX3_makeNextOrder 56 = .ok (.iaload, 1) := by decide +kernel
theorem dX3_makeNextOrder_57 : decode cX3_makeNextOrder 57 = .ok (.if_icmp .ge 9, 3) := by decide +kernel
theorem dX3_makeNextOrder_60 : decode cX3_makeNextOrder 60 = .ok (.iinc 3 (-1), 3) := by decide +kernel
theorem dX3_makeNextOrder_63 : decode cX3_makeNextOrder 63 = .ok (.goto (-23), 3) := by decide +kernel
theorem dX3_makeNextOrder_66 : decode cX3_makeNextOrder 66 = .ok (.aload_n 0, 1) := by decide +kernel
theorem dX3_makeNextOrder_67 : decode cX3_makeNextOrder 67 = .ok (.iload_n 2, 1) := by decide +kernel
theorem dX3_makeNextOrder_68 : decode cX3_makeNextOrder 68 = .ok (.iload_n 3, 1) := by decide +kernel
theorem dX3_makeNextOrder_69 : decode cX3_makeNextOrder 69 = .ok (.invokevirtual 71, 3) := by decide +kernel
theorem dX3_makeNextOrder_72 : decode cX3_makeNextOrder 72 = .ok (.iload_n 2, 1) := by decide +kernel
theorem dX3_makeNextOrder_73 : decode cX3_makeNextOrder 73 = .ok (.iconst 1, 1) := by decide +kernel
theorem dX3_makeNextOrder_74 : decode cX3_makeNextOrder 74 = .ok (.iadd, 1) := by decide +kernel
theorem dX3_makeNextOrder_75 : decode cX3_makeNextOrder 75 = .ok (.istore 4, 2) := by decide +kernel
theorem dX3_makeNextOrder_77 : decode cX3_makeNextOrder 77 = .ok (.iload_n 1, 1) := by decide +kernel
theorem dX3_makeNextOrder_78 : decode cX3_makeNextOrder 78 = .ok (.iconst 1, 1) := by decide +kernel
theorem dX3_makeNextOrder_79 : decode cX3_makeNextOrder 79 = .ok (.isub, 1) := by decide +kernel
theorem dX3_makeNextOrder_80 : decode cX3_makeNextOrder 80 = .ok (.istore 5, 2) := by decide +kernel
theorem dX3_makeNextOrder_82 : decode cX3_makeNextOrder 82 = .ok (.iload 4, 2) := by decide +kernel
theorem dX3_makeNextOrder_84 : decode cX3_makeNextOrder 84 = .ok (.iload 5, 2) := by decide +kernel
theorem dX3_makeNextOrder_86 : decode cX3_makeNextOrder 86 = .ok (.if_icmp .ge 20, 3) := by decide +kernel
theorem dX3_makeNextOrder_89 : decode cX3_makeNextOrder 89 = .ok (.aload_n 0, 1) := by decide +kernel
theorem dX3_makeNextOrder_90 : decode cX3_makeNextOrder 90 = .ok (.iload 4, 2) := by decide +kernel
theorem dX3_makeNextOrder_92 : decode cX3_makeNextOrder 92 = .ok (.iload 5, 2) := by decide +kernel
theorem dX3_makeNextOrder_94 : decode cX3_makeNextOrder 94 = .ok (.invokevirtual 71, 3) := by decide +kernel
theorem dX3_makeNextOrder_97 : decode cX3_makeNextOrder 97 = .ok (.iinc 4 1, 3) := by decide +kernel
theorem dX3_makeNextOrder_100 : decode cX3_makeNextOrder 100 = .ok (.iinc 5 (-1), 3) := by decide +kernel
theorem dX3_makeNextOrder_103 : decode cX3_makeNextOrder 103 = .ok (.goto (-21), 3) := by decide +kernel
theorem dX3_makeNextOrder_106 : decode cX3_makeNextOrder 106 = .ok (.return_, 1) := by decide +kernel
theorem dX3_exchange_0 : decode cX3_exchange 0 = .ok (.aload_n 0, 1) := by decide +kernel
theorem dX3_exchange_1 : decode cX3_exchange 1 = .ok (.getfield 9, 3) := by decide +kernel
theorem dX3_exchange_4 : decode cX3_exchange 4 = .ok (.iload_n 1, 1) := by decide +kernel
theorem dX3_exchange_5 : decode cX3_exchange 5 = .ok (.iaload, 1) := by decide +kernel
theorem dX3_exchange_6 : decode cX3_exchange 6 = .ok (.istore_n 3, 1) := by decide +kernel
theorem dX3_exchange_7 : decode cX3_exchange 7 = .ok (.aload_n 0, 1) := by decide +kernel
theorem dX3_exchange_8 : decode cX3_exchange 8 = .ok (.getfield 9, 3) := by decide +kernel
theorem dX3_exchange_11 : decode cX3_exchange 11 = .ok (.iload_n 1, 1) := by decide +kernel
theorem dX3_exchange_12 : decode cX3_exchange 12 = .ok (.aload_n 0, 1) := by decide +kernel
theorem dX3_exchange_13 : decode cX3_exchange 13 = .ok (.getfield 9, 3) := by decide +kernel
theorem dX3_exchange_16 : decode cX3_exchange 16 = .ok (.iload_n 2, 1) := by decide +kernel
theorem dX3_exchange_17 : decode cX3_exchange 17 = .ok (.iaload, 1) := by decide +kernel
theorem dX3_exchange_18 : decode cX3_exchange 18 = .ok (.iastore, 1) := by decide +kernel
theorem dX3_exchange_19 : decode cX3_exchange 19 = .ok (.aload_n 0, 1) := by decide +kernel
theorem dX3_exchange_20 : decode cX3_exchange 20 = .ok (.getfield 9, 3) := by decide +kernel
theorem dX3_exchange_23 : decode cX3_exchange 23 = .ok (.iload_n 2, 1) := by decide +kernel
theorem dX3_exchange_24 : decode cX3_exchange 24 = .ok (.iload_n 3, 1) := by decide +kernel
theorem dX3_exchange_25 : decode cX3_exchange 25 = .ok (.iastore, 1) := by decide +kernel
theorem dX3_exchange_26 : decode cX3_exchange 26 = .ok (.return_, 1) := by decide +kernel
theorem dX3_suits_0 : decode cX3_suits 0 = .ok (.aload_n 1, 1) := by decide +kernel
theorem dX3_suits_1 : decode cX3_suits 1 = .ok (.aload_n 2, 1) := by decide +kernel
theorem dX3_suits_2 : decode cX3_suits 2 = .ok (.aload_n 1, 1) := by decide +kernel
theorem dX3_suits_3 : decode cX3_suits 3 = .ok (.getfield 30, 3) := by decide +kernel
theorem dX3_suits_6 : decode cX3_suits 6 = .ok (.invokevirtual 75, 3) := by decide +kernel
theorem dX3_suits_9 : decode cX3_suits 9 = .ok (.aload_n 2, 1) := by decide +kernel
theorem dX3_suits_10 : decode cX3_suits 10 = .ok (.iconst 0, 1) := by decide +kernel
theorem dX3_suits_11 : decode cX3_suits 11 = .ok (.iload_n 3, 1) := by decide +kernel
theorem dX3_suits_12 : decode cX3_suits 12 = .ok (.invokevirtual 79, 3) := by decide +kernel
theorem dX3_suits_15 : decode cX3_suits 15 = .ok (.ifCond .eq 22, 3) := by decide +kernel
theorem dX3_suits_18 : decode cX3_suits 18 = .ok (.aload_n 2, 1) := by decide +kernel
theorem dX3_suits_19 : decode cX3_suits 19 = .ok (.aload_n 1, 1) := by decide +kernel
theorem dX3_suits_20 : decode cX3_suits 20 = .ok (.getfield 45, 3) := by decide +kernel
theorem dX3_suits_23 : decode cX3_suits 23 = .ok (.iconst 1, 1) := by decide +kernel
theorem dX3_suits_24 : decode cX3_suits 24 = .ok (.isub, 1) := by decide +kernel
theorem dX3_suits_25 : decode cX3_suits 25 = .ok (.iload 4, 2) := by decide +kernel
theorem dX3_suits_27 : decode cX3_suits 27 = .ok (.invokevirtual 79, 3) := by decide +kernel
theorem dX3_suits_30 : decode cX3_suits 30 = .ok (.ifCond .ne 7, 3) := by decide +kernel
theorem dX3_suits_33 : decode cX3_suits 33 = .ok (.iconst 1, 1) := by decide +kernel
theorem dX3_suits_34 : decode cX3_suits 34 = .ok (.goto 4, 3) := by decide +kernel
theorem dX3_suits_37 : decode cX3_suits 37 = .ok (.iconst 0, 1) := by decide +kernel
theorem dX3_suits_38 : decode cX3_suits 38 = .ok (.ireturn, 1) := by decide +kernel
theorem dX3_leastLoads_0 : decode cX3_leastLoads 0 = .ok (.aload_n 0, 1) := by decide +kernel
theorem dX3_leastLoads_1 : decode cX3_leastLoads 1 = .ok (.aload_n 1, 1) := by decide +kernel
theorem dX3_leastLoads_2 : decode cX3_leastLoads 2 = .ok (.iload_n 2, 1) := by decide +kernel
theorem dX3_leastLoads_3 : decode cX3_leastLoads 3 = .ok (.iload_n 3, 1) := by decide +kernel
theorem dX3_leastLoads_4 : decode cX3_leastLoads 4 = .ok (.iconst (-1), 1) := by decide +kernel
theorem dX3_leastLoads_5 : decode cX3_leastLoads 5 = .ok (.iconst (-1), 1) := by decide +kernel
theorem dX3_leastLoads_6 : decode cX3_leastLoads 6 = .ok (.invokevirtual 83, 3) := by decide +kernel
theorem dX3_leastLoads_9 : decode cX3_leastLoads 9 = .ok (.ifCond .eq 5, 3) := by decide +kernel
theorem dX3_leastLoads_12 : decode cX3_leastLoads 12 = .ok (.iconst 1, 1) := by decide +kernel
theorem dX3_leastLoads_13 : decode cX3_leastLoads 13 = .ok (.ireturn, 1) := by decide +kernel
theorem dX3_leastLoads_14 : decode cX3_leastLoads 14 = .ok (.iconst 0, 1) := by decide +kernel
theorem dX3_leastLoads_15 : decode cX3_leastLoads 15 = .ok (.istore 4, 2) := by decide +kernel
theorem dX3_leastLoads_17 : decode cX3_leastLoads 17 = .ok (.iload 4, 2) := by decide +kernel
theorem dX3_leastLoads_19 : decode cX3_leastLoads 19 = .ok (.bipush 60, 2) := by decide +kernel
theorem dX3_leastLoads_21 : decode cX3_leastLoads 21 = .ok (.if_icmp .ge 38, 3) := by decide +kernel
theorem dX3_leastLoads_24 : decode cX3_leastLoads 24 = .ok (.aload_n 0, 1) := by decide +kernel
theorem dX3_leastLoads_25 : decode cX3_leastLoads 25 = .ok (.aload_n 1, 1) := by decide +kernel
theorem dX3_leastLoads_26 : decode cX3_leastLoads 26 = .ok (.iload 4, 2) := by decide +kernel
theorem dX3_leastLoads_28 : decode cX3_leastLoads 28 = .ok (.invokevirtual 87, 3) := by decide +kernel
theorem dX3_leastLoads_31 : decode cX3_leastLoads 31 = .ok (.ifCond .eq 22, 3) := by decide +kernel
theorem dX3_leastLoads_34 : decode cX3_leastLoads 34 = .ok (.aload_n 0, 1) := by decide +kernel
theorem dX3_leastLoads_35 : decode cX3_leastLoads 35 = .ok (.aload_n 1, 1) := by decide +kernel
theorem dX3_leastLoads_36 : decode cX3_leastLoads 36 = .ok (.iload_n 2, 1) := by decide +kernel
theorem dX3_leastLoads_37 : decode cX3_leastLoads 37 = .ok (.iload_n 3, 1) := by decide +kernel
theorem dX3_leastLoads_38 : decode cX3_leastLoads 38 = .ok (.iload 4, 2) := by decide +kernel
theorem dX3_leastLoads_40 : decode cX3_leastLoads 40 = .ok (.iconst (-1), 1) := by decide +kernel
theorem dX3_leastLoads_41 : decode cX3_leastLoads 41 = .ok (.invokevirtual 83, 3) := by decide +kernel
theorem dX3_leastLoads_44 : decode cX3_leastLoads 44 = .ok (.ifCond .eq 9, 3) := by decide +kernel
theorem dX3_leastLoads_47 : decode cX3_leastLoads 47 = .ok (.bipush 100, 2) := by decide +kernel
theorem dX3_leastLoads_49 : decode cX3_leastLoads 49 = .ok (.iload 4, 2) := by decide +kernel
theorem dX3_leastLoads_51 : decode cX3_leastLoads 51 = .ok (.iadd, 1) := by decide +kernel
theorem dX3_leastLoads_52 : decode cX3_leastLoads 52 = .ok (.ireturn, 1) := by decide +kernel
theorem dX3_leastLoads_53 : decode cX3_leastLoads 53 = .ok (.iinc 4 1, 3) := by decide +kernel
theorem dX3_leastLoads_56 : decode cX3_leastLoads 56 = .ok (.goto (-39), 3) := by decide +kernel
theorem dX3_leastLoads_59 : decode cX3_leastLoads 59 = .ok (.iconst 0, 1) := by decide +kernel
theorem dX3_leastLoads_60 : decode cX3_leastLoads 60 = .ok (.istore 4, 2) := by decide +kernel
theorem dX3_leastLoads_62 : decode cX3_leastLoads 62 = .ok (.iload 4, 2) := by decide +kernel
theorem dX3_leastLoads_64 : decode cX3_leastLoads 64 = .ok (.bipush 60, 2) := by decide +kernel
theorem dX3_leastLoads_66 : decode cX3_leastLoads 66 = .ok (.if_icmp .ge 75, 3) := by decide +kernel
theorem dX3_leastLoads_69 : decode cX3_leastLoads 69 = .ok (.iload 4, 2) := by decide +kernel
theorem dX3_leastLoads_71 : decode cX3_leastLoads 71 = .ok (.istore 5, 2) := by decide +kernel
theorem dX3_leastLoads_73 : decode cX3_leastLoads 73 = .ok (.aload_n 0, 1) := by decide +kernel
theorem dX3_leastLoads_74 : decode cX3_leastLoads 74 = .ok (.aload_n 1, 1) := by decide +kernel
theorem dX3_leastLoads_75 : decode cX3_leastLoads 75 = .ok (.iload 4, 2) := by decide +kernel
theorem dX3_leastLoads_77 : decode cX3_leastLoads 77 = .ok (.invokevirtual 87, 3) := by decide +kernel
theorem dX3_leastLoads_80 : decode cX3_leastLoads 80 = .ok (.ifCond .eq 55, 3) := by decide +kernel
theorem dX3_leastLoads_83 : decode cX3_leastLoads 83 = .ok (.iload 5, 2) := by decide +kernel
theorem dX3_leastLoads_85 : decode cX3_leastLoads 85 = .ok (.bipush 60, 2) := by decide +kernel
theorem dX3_leastLoads_87 : decode cX3_leastLoads 87 = .ok (.if_icmp .ge 48, 3) := by decide +kernel
theorem dX3_leastLoads_90 : decode cX3_leastLoads 90 = .ok (.aload_n 0, 1) := by decide +kernel
theorem dX3_leastLoads_91 : decode cX3_leastLoads 91 = .ok (.aload_n 1, 1) := by decide +kernel
theorem dX3_leastLoads_92 : decode cX3_leastLoads 92 = .ok (.iload 4, 2) := by decide +kernel
theorem dX3_leastLoads_94 : decode cX3_leastLoads 94 = .ok (.iload 5, 2) := by decide +kernel
theorem dX3_leastLoads_96 : decode cX3_leastLoads 96 = .ok (.invokevirtual 91, 3) := by decide +kernel
theorem dX3_leastLoads_99 : decode cX3_leastLoads 99 = .ok (.ifCond .eq 30, 3) := by decide +kernel
theorem dX3_leastLoads_102 : decode cX3_leastLoads 102 = .ok (.aload_n 0, 1) := by decide +kernel
theorem dX3_leastLoads_103 : decode cX3_leastLoads 103 = .ok (.aload_n 1, 1) := by decide +kernel
theorem dX3_leastLoads_104 : decode cX3_leastLoads 104 = .ok (.iload_n 2, 1) := by decide +kernel
theorem dX3_leastLoads_105 : decode cX3_leastLoads 105 = .ok (.iload_n 3, 1) := by decide +kernel
theorem dX3_leastLoads_106 : decode cX3_leastLoads 106 = .ok (.iload 4, 2) := by decide +kernel
theorem dX3_leastLoads_108 : decode cX3_leastLoads 108 = .ok (.iload 5, 2) := by decide +kernel
theorem dX3_leastLoads_110 : decode cX3_leastLoads 110 = .ok (.invokevirtual 83, 3) := by decide +kernel
theorem dX3_leastLoads_113 : decode cX3_leastLoads 113 = .ok (.ifCond .eq 16, 3) := by decide +kernel
theorem dX3_leastLoads_116 : decode cX3_leastLoads 116 = .ok (.sipush 10000, 3) := by decide +kernel
theorem dX3_leastLoads_119 : decode cX3_leastLoads 119 = .ok (.bipush 100, 2) := by decide +kernel
theorem dX3_leastLoads_121 : decode cX3_leastLoads 121 = .ok (.iload 4, 2) := by decide +kernel
theorem dX3_leastLoads_123 : decode cX3_leastLoads 123 = .ok (.imul, 1) := by decide +kernel
theorem dX3_leastLoads_124 : decode cX3_leastLoads 124 = .ok (.iadd, 1) := by decide +kernel
theorem dX3_leastLoads_125 : decode cX3_leastLoads 125 = .ok (.iload 5, 2) := by decide +kernel
theorem dX3_leastLoads_127 : decode cX3_leastLoads 127 = .ok (.iadd, 1) := by decide +kernel
theorem dX3_leastLoads_128 : decode cX3_leastLoads 128 = .ok (.ireturn, 1) := by decide +kernel
theorem dX3_leastLoads_129 : decode cX3_leastLoads 129 = .ok (.iinc 5 1, 3) := by decide +kernel
theorem dX3_leastLoads_132 : decode cX3_leastLoads 132 = .ok (.goto (-59), 3) := by decide +kernel
theorem dX3_leastLoads_135 : decode cX3_leastLoads 135 = .ok (.iinc 4 1, 3) := by decide +kernel
theorem dX3_leastLoads_138 : decode cX3_leastLoads 138 = .ok (.goto (-76), 3) := by decide +kernel
theorem dX3_leastLoads_141 : decode cX3_leastLoads 141 = .ok (.bipush (-9), 2) := by decide +kernel
theorem dX3_leastLoads_143 : decode cX3_leastLoads 143 = .ok (.ireturn, 1) := by decide +kernel
theorem dX3_howManyLoads_0 : decode cX3_howManyLoads 0 = .ok (.iload_n 1, 1) := by decide +kernel
theorem dX3_howManyLoads_1 : decode cX3_howManyLoads 1 = .ok (.bipush 100, 2) := by decide +kernel
theorem dX3_howManyLoads_3 : decode cX3_howManyLoads 3 = .ok (.if_icmp .ge 7, 3) := by decide +kernel
theorem dX3_howManyLoads_6 : decode cX3_howManyLoads 6 = .ok (.iconst 0, 1) := by decide +kernel
theorem dX3_howManyLoads_7 : decode cX3_howManyLoads 7 = .ok (.goto 15, 3) := by decide +kernel
theorem dX3_howManyLoads_10 : decode cX3_howManyLoads 10 = .ok (.iload_n 1, 1) := by decide +kernel
theorem dX3_howManyLoads_11 : decode cX3_howManyLoads 11 = .ok (.sipush 10000, 3) := by decide +kernel
theorem dX3_howManyLoads_14 : decode cX3_howManyLoads 14 = .ok (.if_icmp .ge 7, 3) := by decide +kernel
theorem dX3_howManyLoads_17 : decode cX3_howManyLoads 17 = .ok (.iconst 1, 1) := by decide +kernel
theorem dX3_howManyLoads_18 : decode cX3_howManyLoads 18 = .ok (.goto 4, 3) := by decide +kernel
theorem dX3_howManyLoads_21 : decode cX3_howManyLoads 21 = .ok (.iconst 2, 1) := by decide +kernel
theorem dX3_howManyLoads_22 : decode cX3_howManyLoads 22 = .ok (.ireturn, 1) := by decide +kernel
theorem dX3_canGive_0 : decode cX3_canGive 0 = .ok (.iload_n 2, 1) := by decide +kernel
theorem dX3_canGive_1 : decode cX3_canGive 1 = .ok (.bipush 10, 2) := by decide +kernel
theorem dX3_canGive_3 : decode cX3_canGive 3 = .ok (.idiv, 1) := by decide +kernel
theorem dX3_canGive_4 : decode cX3_canGive 4 = .ok (.istore_n 3, 1) := by decide +kernel
theorem dX3_canGive_5 : decode cX3_canGive 5 = .ok (.iload_n 2, 1) := by decide +kernel
theorem dX3_canGive_6 : decode cX3_canGive 6 = .ok (.bipush 10, 2) := by decide +kernel
theorem dX3_canGive_8 : decode cX3_canGive 8 = .ok (.irem, 1) := by decide +kernel
theorem dX3_canGive_9 : decode cX3_canGive 9 = .ok (.istore 4, 2) := by decide +kernel
theorem dX3_canGive_11 : decode cX3_canGive 11 = .ok (.aload_n 1, 1) := by decide +kernel
theorem dX3_canGive_12 : decode cX3_canGive 12 = .ok (.iload_n 3, 1) := by decide +kernel
theorem dX3_canGive_13 : decode cX3_canGive 13 = .ok (.invokevirtual 95, 3) := by decide +kernel
theorem dX3_canGive_16 : decode cX3_canGive 16 = .ok (.ifCond .eq 37, 3) := by decide +kernel
theorem dX3_canGive_19 : decode cX3_canGive 19 = .ok (.aload_n 1, 1) := by decide +kernel
theorem dX3_canGive_20 : decode cX3_canGive 20 = .ok (.iload 4, 2) := by decide +kernel
theorem dX3_canGive_22 : decode cX3_canGive 22 = .ok (.invokevirtual 99, 3) := by decide +kernel
theorem dX3_canGive_25 : decode cX3_canGive 25 = .ok (.ifCond .eq 28, 3) := by decide +kernel
theorem dX3_canGive_28 : decode cX3_canGive 28 = .ok (.aload_n 1, 1) := by decide +kernel
theorem dX3_canGive_29 : decode cX3_canGive 29 = .ok (.iload 4, 2) := by decide +kernel
theorem dX3_canGive_31 : decode cX3_canGive 31 = .ok (.invokevirtual 102, 3) := by decide +kernel
theorem dX3_canGive_34 : decode cX3_canGive 34 = .ok (.ifCond .ne 19, 3) := by decide +kernel
theorem dX3_canGive_37 : decode cX3_canGive 37 = .ok (.aload_n 1, 1) := by decide +kernel
theorem dX3_canGive_38 : decode cX3_canGive 38 = .ok (.getfield 105, 3) := by decide +kernel
theorem dX3_canGive_41 : decode cX3_canGive 41 = .ok (.getfield 109, 3) := by decide +kernel
theorem dX3_canGive_44 : decode cX3_canGive 44 = .ok (.iload_n 3, 1) := by decide +kernel
theorem dX3_canGive_45 : decode cX3_canGive 45 = .ok (.iaload, 1) := by decide +kernel
theorem dX3_canGive_46 : decode cX3_canGive 46 = .ok (.ifCond .le 7, 3) := by decide +kernel
theorem dX3_canGive_49 : decode cX3_canGive 49 = .ok (.iconst 1, 1) := by decide +kernel
theorem dX3_canGive_50 : decode cX3_canGive 50 = .ok (.goto 4, 3) := by decide +kernel
theorem dX3_canGive_53 : decode cX3_canGive 53 = .ok (.iconst 0, 1) := by decide +kernel
theorem dX3_canGive_54 : decode cX3_canGive 54 = .ok (.ireturn, 1) := by decide +kernel
theorem dX3_canGiveBoth_0 : decode cX3_canGiveBoth 0 = .ok (.aload_n 0, 1) := by decide +kernel
theorem dX3_canGiveBoth_1 : decode cX3_canGiveBoth 1 = .ok (.aload_n 1, 1) := by decide +kernel
theorem dX3_canGiveBoth_2 : decode cX3_canGiveBoth 2 = .ok (.iload_n 2, 1) := by decide +kernel
theorem dX3_canGiveBoth_3 : decode cX3_canGiveBoth 3 = .ok (.invokevirtual 87, 3) := by decide +kernel
theorem dX3_canGiveBoth_6 : decode cX3_canGiveBoth 6 = .ok (.ifCond .eq 43, 3) := by decide +kernel
theorem dX3_canGiveBoth_9 : decode cX3_canGiveBoth 9 = .ok (.aload_n 0, 1) := by decide +kernel
theorem dX3_canGiveBoth_10 : decode cX3_canGiveBoth 10 = .ok (.aload_n 1, 1) := by decide +kernel
theorem dX3_canGiveBoth_11 : decode cX3_canGiveBoth 11 = .ok (.iload_n 3, 1) := by decide +kernel
theorem dX3_canGiveBoth_12 : decode cX3_canGiveBoth 12 = .ok (.invokevirtual 87, 3) := by decide +kernel
theorem dX3_canGiveBoth_15 : decode cX3_canGiveBoth 15 = .ok (.ifCond .eq 34, 3) := by decide +kernel
theorem dX3_canGiveBoth_18 : decode cX3_canGiveBoth 18 = .ok (.iload_n 2, 1) := by decide +kernel
theorem dX3_canGiveBoth_19 : decode cX3_canGiveBoth 19 = .ok (.bipush 10, 2) := by decide +kernel
theorem dX3_canGiveBoth_21 : decode cX3_canGiveBoth 21 = .ok (.idiv, 1) := by decide +kernel
theorem dX3_canGiveBoth_22 : decode cX3_canGiveBoth 22 = .ok (.iload_n 3, 1) := by decide +kernel
theorem dX3_canGiveBoth_23 : decode cX3_canGiveBoth 23 = .ok (.bipush 10, 2) := by decide +kernel
theorem dX3_canGiveBoth_25 : decode cX3_canGiveBoth 25 = .ok (.idiv, 1) := by decide +kernel
theorem dX3_canGiveBoth_26 : decode cX3_canGiveBoth 26 = .ok (.if_icmp .ne 19, 3) := by decide +kernel
theorem dX3_canGiveBoth_29 : decode cX3_canGiveBoth 29 = .ok (.aload_n 1, 1) := by decide +kernel
theorem dX3_canGiveBoth_30 : decode cX3_canGiveBoth 30 = .ok (.getfield 105, 3) := by decide +kernel
theorem dX3_canGiveBoth_33 : decode cX3_canGiveBoth 33 = .ok (.getfield 109, 3) := by decide +kernel
theorem dX3_canGiveBoth_36 : decode cX3_canGiveBoth 36 = .ok (.iload_n 2, 1) := by decide +kernel
theorem dX3_canGiveBoth_37 : decode cX3_canGiveBoth 37 = .ok (.bipush 10, 2) := by decide +kernel
theorem dX3_canGiveBoth_39 : decode cX3_canGiveBoth 39 = .ok (.idiv, 1) := by decide +kernel
theorem dX3_canGiveBoth_40 : decode cX3_canGiveBoth 40 = .ok (.iaload, 1) := by decide +kernel
theorem dX3_canGiveBoth_41 : decode cX3_canGiveBoth 41 = .ok (.iconst 1, 1) := by decide +kernel
theorem dX3_canGiveBoth_42 : decode cX3_canGiveBoth 42 = .ok (.if_icmp .le 7, 3) := by decide +kernel
theorem dX3_canGiveBoth_45 : decode cX3_canGiveBoth 45 = .ok (.iconst 1, 1) := by decide +kernel
theorem dX3_canGiveBoth_46 : decode cX3_canGiveBoth 46 = .ok (.goto 4, 3) := by decide +kernel
theorem dX3_canGiveBoth_49 : decode cX3_canGiveBoth 49 = .ok (.iconst 0, 1) := by decide +kernel
theorem dX3_canGiveBoth_50 : decode cX3_canGiveBoth 50 = .ok (.ireturn, 1) := by decide +kernel
theorem dX3_suitsWith_0 : decode cX3_suitsWith 0 = .ok (.aload_n 1, 1) := by decide +kernel
theorem dX3_suitsWith_1 : decode cX3_suitsWith 1 = .ok (.invokevirtual 18, 3) := by decide +kernel
theorem dX3_suitsWith_4 : decode cX3_suitsWith 4 = .ok (.astore 6, 2) := by decide +kernel
theorem dX3_suitsWith_6 : decode cX3_suitsWith 6 = .ok (.iload 4, 2) := by decide +kernel
theorem dX3_suitsWith_8 : decode cX3_suitsWith 8 = .ok (.iconst (-1), 1) := by decide +kernel
theorem dX3_suitsWith_9 : decode cX3_suitsWith 9 = .ok (.if_icmp .eq 19, 3) := by decide +kernel
theorem dX3_suitsWith_12 : decode cX3_suitsWith 12 = .ok (.aload 6, 2) := by decide +kernel
theorem dX3_suitsWith_14 : decode cX3_suitsWith 14 = .ok (.iload 4, 2) := by decide +kernel
theorem dX3_suitsWith_16 : decode cX3_suitsWith 16 = .ok (.bipush 10, 2) := by decide +kernel
theorem dX3_suitsWith_18 : decode cX3_suitsWith 18 = .ok (.idiv, 1) := by decide +kernel
theorem dX3_suitsWith_19 : decode cX3_suitsWith 19 = .ok (.iload 4, 2) := by decide +kernel
theorem dX3_suitsWith_21 : decode cX3_suitsWith 21 = .ok (.bipush 10, 2) := by decide +kernel
theorem dX3_suitsWith_23 : decode cX3_suitsWith 23 = .ok (.irem, 1) := by decide +kernel
theorem dX3_suitsWith_24 : decode cX3_suitsWith 24 = .ok (.iconst 1, 1) := by decide +kernel
theorem dX3_suitsWith_25 : decode cX3_suitsWith 25 = .ok (.invokevirtual 112, 3) := by decide +kernel
theorem dX3_suitsWith_28 : decode cX3_suitsWith 28 = .ok (.iload 5, 2) := by decide +kernel
theorem dX3_suitsWith_30 : decode cX3_suitsWith 30 = .ok (.iconst (-1), 1) := by decide +kernel
theorem dX3_suitsWith_31 : decode cX3_suitsWith 31 = .ok (.if_icmp .eq 19, 3) := by decide +kernel
theorem dX3_suitsWith_34 : decode cX3_suitsWith 34 = .ok (.aload 6, 2) := by decide +kernel
theorem dX3_suitsWith_36 : decode cX3_suitsWith 36 = .ok (.iload 5, 2) := by decide +kernel
theorem dX3_suitsWith_38 : decode cX3_suitsWith 38 = .ok (.bipush 10, 2) := by decide +kernel
theorem dX3_suitsWith_40 : decode cX3_suitsWith 40 = .ok (.idiv, 1) := by decide +kernel
theorem dX3_suitsWith_41 : decode cX3_suitsWith 41 = .ok (.iload 5, 2) := by decide +kernel
theorem dX3_suitsWith_43 : decode cX3_suitsWith 43 = .ok (.bipush 10, 2) := by decide +kernel
theorem dX3_suitsWith_45 : decode cX3_suitsWith 45 = .ok (.irem, 1) := by decide +kernel
theorem dX3_suitsWith_46 : decode cX3_suitsWith 46 = .ok (.iconst 1, 1) := by decide +kernel
theorem dX3_suitsWith_47 : decode cX3_suitsWith 47 = .ok (.invokevirtual 112, 3) := by decide +kernel
theorem dX3_suitsWith_50 : decode cX3_suitsWith 50 = .ok (.aload_n 0, 1) := by decide +kernel
theorem dX3_suitsWith_51 : decode cX3_suitsWith 51 = .ok (.aload_n 1, 1) := by decide +kernel
theorem dX3_suitsWith_52 : decode cX3_suitsWith 52 = .ok (.aload 6, 2) := by decide +kernel
theorem dX3_suitsWith_54 : decode cX3_suitsWith 54 = .ok (.iload_n 2, 1) := by decide +kernel
theorem dX3_suitsWith_55 : decode cX3_suitsWith 55 = .ok (.iload_n 3, 1) := by decide +kernel
theorem dX3_suitsWith_56 : decode cX3_suitsWith 56 = .ok (.invokevirtual 63, 3) := by decide +kernel
theorem dX3_suitsWith_59 : decode cX3_suitsWith 59 = .ok (.ireturn, 1) := by decide +kernel
theorem dX3_spread_0 : decode cX3_spread 0 = .ok (.iload_n 1, 1) := by decide +kernel
theorem dX3_spread_1 : decode cX3_spread 1 = .ok (.istore_n 3, 1) := by decide +kernel
theorem dX3_spread_2 : decode cX3_spread 2 = .ok (.iload_n 2, 1) := by decide +kernel
theorem dX3_spread_3 : decode cX3_spread 3 = .ok (.iconst 1, 1) := by decide +kernel
theorem dX3_spread_4 : decode cX3_spread 4 = .ok (.isub, 1) := by decide +kernel
theorem dX3_spread_5 : decode cX3_spread 5 = .ok (.istore 4, 2) := by decide +kernel
theorem dX3_spread_7 : decode cX3_spread 7 = .ok (.iload 4, 2) := by decide +kernel
theorem dX3_spread_9 : decode cX3_spread 9 = .ok (.ifCond .lt 25, 3) := by decide +kernel
theorem dX3_spread_12 : decode cX3_spread 12 = .ok (.aload_n 0, 1) := by decide +kernel
theorem dX3_spread_13 : decode cX3_spread 13 = .ok (.getfield 15, 3) := by decide +kernel
theorem dX3_spread_16 : decode cX3_spread 16 = .ok (.iload 4, 2) := by decide +kernel
theorem dX3_spread_18 : decode cX3_spread 18 = .ok (.iload_n 3, 1) := by decide +kernel
theorem dX3_spread_19 : decode cX3_spread 19 = .ok (.bipush 10, 2) := by decide +kernel
theorem dX3_spread_21 : decode cX3_spread 21 = .ok (.irem, 1) := by decide +kernel
theorem dX3_spread_22 : decode cX3_spread 22 = .ok (.iastore, 1) := by decide +kernel
theorem dX3_spread_23 : decode cX3_spread 23 = .ok (.iload_n 3, 1) := by decide +kernel
theorem dX3_spread_24 : decode cX3_spread 24 = .ok (.bipush 10, 2) := by decide +kernel
theorem dX3_spread_26 : decode cX3_spread 26 = .ok (.idiv, 1) := by decide +kernel
theorem dX3_spread_27 : decode cX3_spread 27 = .ok (.istore_n 3, 1) := by decide +kernel
theorem dX3_spread_28 : decode cX3_spread 28 = .ok (.iinc 4 (-1), 3) := by decide +kernel
theorem dX3_spread_31 : decode cX3_spread 31 = .ok (.goto (-24), 3) := by decide +kernel
theorem dX3_spread_34 : decode cX3_spread 34 = .ok (.iload_n 3, 1) := by decide +kernel
theorem dX3_spread_35 : decode cX3_spread 35 = .ok (.ifCond .ne 7, 3) := by decide +kernel
theorem dX3_spread_38 : decode cX3_spread 38 = .ok (.iconst 1, 1) := by decide +kernel
theorem dX3_spread_39 : decode cX3_spread 39 = .ok (.goto 4, 3) := by decide +kernel
theorem dX3_spread_42 : decode cX3_spread 42 = .ok (.iconst 0, 1) := by decide +kernel
theorem dX3_spread_43 : decode cX3_spread 43 = .ok (.ireturn, 1) := by decide +kernel
theorem dX3_areAllBarges_0 : decode cX3_areAllBarges 0 = .ok (.iload_n 2, 1) := by decide +kernel
theorem dX3_areAllBarges_1 : decode cX3_areAllBarges 1 = .ok (.ifCond .lt 15, 3) := by decide +kernel
theorem dX3_areAllBarges_4 : decode cX3_areAllBarges 4 = .ok (.aload_n 0, 1) := by decide +kernel
theorem dX3_areAllBarges_5 : decode cX3_areAllBarges 5 = .ok (.iload_n 2, 1) := by decide +kernel
theorem dX3_areAllBarges_6 : decode cX3_areAllBarges 6 = .ok (.aload_n 1, 1) := by decide +kernel
theorem dX3_areAllBarges_7 : decode cX3_areAllBarges 7 = .ok (.getfield 45, 3) := by decide +kernel
theorem dX3_areAllBarges_10 : decode cX3_areAllBarges 10 = .ok (.invokevirtual 116, 3) := by decide +kernel
theorem dX3_areAllBarges_13 : decode cX3_areAllBarges 13 = .ok (.ifCond .ne 5, 3) := by decide +kernel
theorem dX3_areAllBarges_16 : decode cX3_areAllBarges 16 = .ok (.iconst 0, 1) := by decide +kernel
theorem dX3_areAllBarges_17 : decode cX3_areAllBarges 17 = .ok (.ireturn, 1) := by decide +kernel
theorem dX3_areAllBarges_18 : decode cX3_areAllBarges 18 = .ok (.iconst 0, 1) := by decide +kernel
theorem dX3_areAllBarges_19 : decode cX3_areAllBarges 19 = .ok (.istore_n 3, 1) := by decide +kernel
theorem dX3_areAllBarges_20 : decode cX3_areAllBarges 20 = .ok (.iconst 0, 1) := by decide +kernel
theorem dX3_areAllBarges_21 : decode cX3_areAllBarges 21 = .ok (.istore 4, 2) := by decide +kernel
theorem dX3_areAllBarges_23 : decode cX3_areAllBarges 23 = .ok (.iload 4, 2) := by decide +kernel
theorem dX3_areAllBarges_25 : decode cX3_areAllBarges 25 = .ok (.aload_n 1, 1) := by decide +kernel
theorem dX3_areAllBarges_26 : decode cX3_areAllBarges 26 = .ok (.getfield 45, 3) := by decide +kernel
theorem dX3_areAllBarges_29 : decode cX3_areAllBarges 29 = .ok (.if_icmp .ge 21, 3) := by decide +kernel
theorem dX3_areAllBarges_32 : decode cX3_areAllBarges 32 = .ok (.iload_n 3, 1) := by decide +kernel
theorem dX3_areAllBarges_33 : decode cX3_areAllBarges 33 = .ok (.iconst 1, 1) := by decide +kernel
theorem dX3_areAllBarges_34 : decode cX3_areAllBarges 34 = .ok (.aload_n 0, 1) := by decide +kernel
theorem dX3_areAllBarges_35 : decode cX3_areAllBarges 35 = .ok (.getfield 15, 3) := by decide +kernel
theorem dX3_areAllBarges_38 : decode cX3_areAllBarges 38 = .ok (.iload 4, 2) := by decide +kernel
theorem dX3_areAllBarges_40 : decode cX3_areAllBarges 40 = .ok (.iaload, 1) := by decide +kernel
theorem dX3_areAllBarges_41 : decode cX3_areAllBarges 41 = .ok (.ishl, 1) := by decide +kernel
theorem dX3_areAllBarges_42 : decode cX3_areAllBarges 42 = .ok (.ior, 1) := by decide +kernel
theorem dX3_areAllBarges_43 : decode cX3_areAllBarges 43 = .ok (.istore_n 3, 1) := by decide +kernel
theorem dX3_areAllBarges_44 : decode cX3_areAllBarges 44 = .ok (.iinc 4 1, 3) := by decide +kernel
theorem dX3_areAllBarges_47 : decode cX3_areAllBarges 47 = .ok (.goto (-24), 3) := by decide +kernel
theorem dX3_areAllBarges_50 : decode cX3_areAllBarges 50 = .ok (.iload_n 3, 1) := by decide +kernel
theorem dX3_areAllBarges_51 : decode cX3_areAllBarges 51 = .ok (.iconst 2, 1) := by decide +kernel
theorem dX3_areAllBarges_52 : decode cX3_areAllBarges 52 = .ok (.aload_n 1, 1) := by decide +kernel
theorem dX3_areAllBarges_53 : decode cX3_areAllBarges 53 = .ok (.getfield 45, 3) := by decide +kernel
theorem dX3_areAllBarges_56 : decode cX3_areAllBarges 56 = .ok (.ishl, 1) := by decide +kernel
theorem dX3_areAllBarges_57 : decode cX3_areAllBarges 57 = .ok (.iconst 2, 1) := by decide +kernel
theorem dX3_areAllBarges_58 : decode cX3_areAllBarges 58 = .ok (.isub, 1) := by decide +kernel
theorem dX3_areAllBarges_59 : decode cX3_areAllBarges 59 = .ok (.if_icmp .ne 7, 3) := by decide +kernel
theorem dX3_areAllBarges_62 : decode cX3_areAllBarges 62 = .ok (.iconst 1, 1) := by decide +kernel
theorem dX3_areAllBarges_63 : decode cX3_areAllBarges 63 = .ok (.goto 4, 3) := by decide +kernel
theorem dX3_areAllBarges_66 : decode cX3_areAllBarges 66 = .ok (.iconst 0, 1) := by decide +kernel
theorem dX3_areAllBarges_67 : decode cX3_areAllBarges 67 = .ok (.ireturn, 1) := by decide +kernel
theorem dX3_firstMisplaced_0 : decode cX3_firstMisplaced 0 = .ok (.aload_n 1, 1) := by decide +kernel
theorem dX3_firstMisplaced_1 : decode cX3_firstMisplaced 1 = .ok (.invokevirtual 119, 3) := by decide +kernel
theorem dX3_firstMisplaced_4 : decode cX3_firstMisplaced 4 = .ok (.astore_n 3, 1) := by decide +kernel
theorem dX3_firstMisplaced_5 : decode cX3_firstMisplaced 5 = .ok (.iconst 0, 1) := by decide +kernel
theorem dX3_firstMisplaced_6 : decode cX3_firstMisplaced 6 = .ok (.istore 4, 2) := by decide +kernel
theorem dX3_firstMisplaced_8 : decode cX3_firstMisplaced 8 = .ok (.iload 4, 2) := by decide +kernel
theorem dX3_firstMisplaced_10 : decode cX3_firstMisplaced 10 = .ok (.iload_n 2, 1) := by decide +kernel
theorem dX3_firstMisplaced_11 : decode cX3_firstMisplaced 11 = .ok (.if_icmp .ge 30, 3) := by decide +kernel
theorem dX3_firstMisplaced_14 : decode cX3_firstMisplaced 14 = .ok (.aload_n 3, 1) := by decide +kernel
theorem dX3_firstMisplaced_15 : decode cX3_firstMisplaced 15 = .ok (.iload 4, 2) := by decide +kernel
theorem dX3_firstMisplaced_17 : decode cX3_firstMisplaced 17 = .ok (.aload_n 0, 1) := by decide +kernel
theorem dX3_firstMisplaced_18 : decode cX3_firstMisplaced 18 = .ok (.getfield 15, 3) := by decide +kernel
theorem dX3_firstMisplaced_21 : decode cX3_firstMisplaced 21 = .ok (.iload 4, 2) := by decide +kernel
theorem dX3_firstMisplaced_23 : decode cX3_firstMisplaced 23 = .ok (.iaload, 1) := by decide +kernel
theorem dX3_firstMisplaced_24 : decode cX3_firstMisplaced 24 = .ok (.iconst 1, 1) := by decide +kernel
theorem dX3_firstMisplaced_25 : decode cX3_firstMisplaced 25 = .ok (.isub, 1) := by decide +kernel
theorem dX3_firstMisplaced_26 : decode cX3_firstMisplaced 26 = .ok (.invokevirtual 79, 3) := by decide +kernel
theorem dX3_firstMisplaced_29 : decode cX3_firstMisplaced 29 = .ok (.ifCond .ne 6, 3) := by decide +kernel
theorem dX3_firstMisplaced_32 : decode cX3_firstMisplaced 32 = .ok (.iload 4, 2) := by decide +kernel
theorem dX3_firstMisplaced_34 : decode cX3_firstMisplaced 34 = .ok (.ireturn, 1) := by decide +kernel
theorem dX3_firstMisplaced_35 : decode cX3_firstMisplaced 35 = .ok (.iinc 4 1, 3) := by decide +kernel
theorem dX3_firstMisplaced_38 : decode cX3_firstMisplaced 38 = .ok (.goto (-30), 3) := by decide +kernel
theorem dX3_firstMisplaced_41 : decode cX3_firstMisplaced 41 = .ok (.bipush (-9), 2) := by decide +kernel
theorem dX3_firstMisplaced_43 : decode cX3_firstMisplaced 43 = .ok (.ireturn, 1) := by decide +kernel
theorem dX3_shareAbove_0 : decode cX3_shareAbove 0 = .ok (.iconst 0, 1) := by decide +kernel
theorem dX3_shareAbove_1 : decode cX3_shareAbove 1 = .ok (.istore_n 3, 1) := by decide +kernel
theorem dX3_shareAbove_2 : decode cX3_shareAbove 2 = .ok (.iconst 1, 1) := by decide +kernel
theorem dX3_shareAbove_3 : decode cX3_shareAbove 3 = .ok (.iload_n 2, 1) := by decide +kernel
theorem dX3_shareAbove_4 : decode cX3_shareAbove 4 = .ok (.ishl, 1) := by decide +kernel
theorem dX3_shareAbove_5 : decode cX3_shareAbove 5 = .ok (.istore 4, 2) := by decide +kernel
theorem dX3_shareAbove_7 : decode cX3_shareAbove 7 = .ok (.iconst 0, 1) := by decide +kernel
theorem dX3_shareAbove_8 : decode cX3_shareAbove 8 = .ok (.istore 5, 2) := by decide +kernel
theorem dX3_shareAbove_10 : decode cX3_shareAbove 10 = .ok (.iload 5, 2) := by decide +kernel
theorem dX3_shareAbove_12 : decode cX3_shareAbove 12 = .ok (.iconst 1, 1) := by decide +kernel
theorem dX3_shareAbove_13 : decode cX3_shareAbove 13 = .ok (.aload_n 1, 1) := by decide +kernel
theorem dX3_shareAbove_14 : decode cX3_shareAbove 14 = .ok (.getfield 45, 3) := by decide +kernel
theorem dX3_shareAbove_17 : decode cX3_shareAbove 17 = .ok (.ishl, 1) := by decide +kernel
theorem dX3_shareAbove_18 : decode cX3_shareAbove 18 = .ok (.if_icmp .ge 70, 3) := by decide +kernel
theorem dX3_shareAbove_21 : decode cX3_shareAbove 21 = .ok (.iload 5, 2) := by decide +kernel
theorem dX3_shareAbove_23 : decode cX3_shareAbove 23 = .ok (.iload 4, 2) := by decide +kernel
theorem dX3_shareAbove_25 : decode cX3_shareAbove 25 = .ok (.iand, 1) := by decide +kernel
theorem dX3_shareAbove_26 : decode cX3_shareAbove 26 = .ok (.ifCond .ne 56, 3) := by decide +kernel
theorem dX3_shareAbove_29 : decode cX3_shareAbove 29 = .ok (.iload 5, 2) := by decide +kernel
theorem dX3_shareAbove_31 : decode cX3_shareAbove 31 = .ok (.invokestatic 122, 3) := by decide +kernel
theorem dX3_shareAbove_34 : decode cX3_shareAbove 34 = .ok (.istore 6, 2) := by decide +kernel
theorem dX3_shareAbove_36 : decode cX3_shareAbove 36 = .ok (.getstatic 48, 3) := by decide +kernel
theorem dX3_shareAbove_39 : decode cX3_shareAbove 39 = .ok (.iload 6, 2) := by decide +kernel
theorem dX3_shareAbove_41 : decode cX3_shareAbove 41 = .ok (.iaload, 1) := by decide +kernel
theorem dX3_shareAbove_42 : decode cX3_shareAbove 42 = .ok (.getstatic 48, 3) := by decide +kernel
theorem dX3_shareAbove_45 : decode cX3_shareAbove 45 = .ok (.aload_n 1, 1) := by decide +kernel
theorem dX3_shareAbove_46 : decode cX3_shareAbove 46 = .ok (.getfield 45, 3) := by decide +kernel
theorem dX3_shareAbove_49 : decode cX3_shareAbove 49 = .ok (.iconst 1, 1) := by decide +kernel
theorem dX3_shareAbove_50 : decode cX3_shareAbove 50 = .ok (.isub, 1) := by decide +kernel
theorem dX3_shareAbove_51 : decode cX3_shareAbove 51 = .ok (.iload 6, 2) := by decide +kernel
theorem dX3_shareAbove_53 : decode cX3_shareAbove 53 = .ok (.isub, 1) := by decide +kernel
theorem dX3_shareAbove_54 : decode cX3_shareAbove 54 = .ok (.iaload, 1) := by decide +kernel
theorem dX3_shareAbove_55 : decode cX3_shareAbove 55 = .ok (.imul, 1) := by decide +kernel
theorem dX3_shareAbove_56 : decode cX3_shareAbove 56 = .ok (.istore 7, 2) := by decide +kernel
theorem dX3_shareAbove_58 : decode cX3_shareAbove 58 = .ok (.iload_n 3, 1) := by decide +kernel
theorem dX3_shareAbove_59 : decode cX3_shareAbove 59 = .ok (.iload 7, 2) := by decide +kernel
theorem dX3_shareAbove_61 : decode cX3_shareAbove 61 = .ok (.aload_n 0, 1) := by decide +kernel
theorem dX3_shareAbove_62 : decode cX3_shareAbove 62 = .ok (.aload_n 1, 1) := by decide +kernel
theorem dX3_shareAbove_63 : decode cX3_shareAbove 63 = .ok (.iload 5, 2) := by decide +kernel
theorem dX3_shareAbove_65 : decode cX3_shareAbove 65 = .ok (.iload 4, 2) := by decide +kernel
theorem dX3_shareAbove_67 : decode cX3_shareAbove 67 = .ok (.ior, 1) := by decide +kernel
theorem dX3_shareAbove_68 : decode cX3_shareAbove 68 = .ok (.invokevirtual 127, 3) := by decide +kernel
theorem dX3_shareAbove_71 : decode cX3_shareAbove 71 = .ok (.aload_n 0, 1) := by decide +kernel
theorem dX3_shareAbove_72 : decode cX3_shareAbove 72 = .ok (.aload_n 1, 1) := by decide +kernel
theorem dX3_shareAbove_73 : decode cX3_shareAbove 73 = .ok (.iload 5, 2) := by decide +kernel
theorem dX3_shareAbove_75 : decode cX3_shareAbove 75 = .ok (.invokevirtual 127, 3) := by decide +kernel
theorem dX3_shareAbove_78 : decode cX3_shareAbove 78 = .ok (.isub, 1) := by decide +kernel
theorem dX3_shareAbove_79 : decode cX3_shareAbove 79 = .ok (.imul, 1) := by decide +kernel
theorem dX3_shareAbove_80 : decode cX3_shareAbove 80 = .ok (.iadd, 1) := by decide +kernel
theorem dX3_shareAbove_81 : decode cX3_shareAbove 81 = .ok (.istore_n 3, 1) := by decide +kernel
theorem dX3_shareAbove_82 : decode cX3_shareAbove 82 = .ok (.iinc 5 1, 3) := by decide +kernel
theorem dX3_shareAbove_85 : decode cX3_shareAbove 85 = .ok (.goto (-75), 3) := by decide +kernel
theorem dX3_shareAbove_88 : decode cX3_shareAbove 88 = .ok (.iload_n 3, 1) := by decide +kernel
theorem dX3_shareAbove_89 : decode cX3_shareAbove 89 = .ok (.ireturn, 1) := by decide +kernel
theorem dX3_lastHourOf_0 : decode cX3_lastHourOf 0 = .ok (.aload_n 1, 1) := by decide +kernel
theorem dX3_lastHourOf_1 : decode cX3_lastHourOf 1 = .ok (.invokevirtual 18, 3) := by decide +kernel
theorem dX3_lastHourOf_4 : decode cX3_lastHourOf 4 = .ok (.astore_n 3, 1) := by decide +kernel
theorem dX3_lastHourOf_5 : decode cX3_lastHourOf 5 = .ok (.aload_n 3, 1) := by decide +kernel
theorem dX3_lastHourOf_6 : decode cX3_lastHourOf 6 = .ok (.invokevirtual 131, 3) := by decide +kernel
theorem dX3_lastHourOf_9 : decode cX3_lastHourOf 9 = .ok (.aload_n 3, 1) := by decide +kernel
theorem dX3_lastHourOf_10 : decode cX3_lastHourOf 10 = .ok (.iconst 0, 1) := by decide +kernel
theorem dX3_lastHourOf_11 : decode cX3_lastHourOf 11 = .ok (.putfield 134, 3) := by decide +kernel
theorem dX3_lastHourOf_14 : decode cX3_lastHourOf 14 = .ok (.iconst 0, 1) := by decide +kernel
theorem dX3_lastHourOf_15 : decode cX3_lastHourOf 15 = .ok (.istore 4, 2) := by decide +kernel
theorem dX3_lastHourOf_17 : decode cX3_lastHourOf 17 = .ok (.iload 4, 2) := by decide +kernel
theorem dX3_lastHourOf_19 : decode cX3_lastHourOf 19 = .ok (.aload_n 1, 1) := by decide +kernel
theorem dX3_lastHourOf_20 : decode cX3_lastHourOf 20 = .ok (.getfield 45, 3) := by decide +kernel
theorem dX3_lastHourOf_23 : decode cX3_lastHourOf 23 = .ok (.if_icmp .ge 52, 3) := by decide +kernel
theorem dX3_lastHourOf_26 : decode cX3_lastHourOf 26 = .ok (.aload_n 1, 1) := by decide +kernel
theorem dX3_lastHourOf_27 : decode cX3_lastHourOf 27 = .ok (.getfield 105, 3) := by decide +kernel
theorem dX3_lastHourOf_30 : decode cX3_lastHourOf 30 = .ok (.getfield 51, 3) := by decide +kernel
theorem dX3_lastHourOf_33 : decode cX3_lastHourOf 33 = .ok (.iload 4, 2) := by decide +kernel
theorem dX3_lastHourOf_35 : decode cX3_lastHourOf 35 = .ok (.iaload, 1) := by decide +kernel
theorem dX3_lastHourOf_36 : decode cX3_lastHourOf 36 = .ok (.istore 5, 2) := by decide +kernel
theorem dX3_lastHourOf_38 : decode cX3_lastHourOf 38 = .ok (.iload_n 2, 1) := by decide +kernel
theorem dX3_lastHourOf_39 : decode cX3_lastHourOf 39 = .ok (.iload 5, 2) := by decide +kernel
theorem dX3_lastHourOf_41 : decode cX3_lastHourOf 41 = .ok (.ishr, 1) := by decide +kernel
theorem dX3_lastHourOf_42 : decode cX3_lastHourOf 42 = .ok (.iconst 1, 1) := by decide +kernel
theorem dX3_lastHourOf_43 : decode cX3_lastHourOf 43 = .ok (.iand, 1) := by decide +kernel
theorem dX3_lastHourOf_44 : decode cX3_lastHourOf 44 = .ok (.iconst 1, 1) := by decide +kernel
theorem dX3_lastHourOf_45 : decode cX3_lastHourOf 45 = .ok (.if_icmp .ne 24, 3) := by decide +kernel
theorem dX3_lastHourOf_48 : decode cX3_lastHourOf 48 = .ok (.aload_n 3, 1) := by decide +kernel
theorem dX3_lastHourOf_49 : decode cX3_lastHourOf 49 = .ok (.getfield 51, 3) := by decide +kernel
theorem dX3_lastHourOf_52 : decode cX3_lastHourOf 52 = .ok (.aload_n 3, 1) := by decide +kernel
theorem dX3_lastHourOf_53 : decode cX3_lastHourOf 53 = .ok (.getfield 134, 3) := by decide +kernel
theorem dX3_lastHourOf_56 : decode cX3_lastHourOf 56 = .ok (.iload 5, 2) := by decide +kernel
theorem dX3_lastHourOf_58 : decode cX3_lastHourOf 58 = .ok (.iastore, 1) := by decide +kernel
theorem dX3_lastHourOf_59 : decode cX3_lastHourOf 59 = .ok (.aload_n 3, 1) := by decide +kernel
theorem dX3_lastHourOf_60 : decode cX3_lastHourOf 60 = .ok (.dup, 1) := by decide +kernel
theorem dX3_lastHourOf_61 : decode cX3_lastHourOf 61 = .ok (.getfield 134, 3) := by decide +kernel
theorem dX3_lastHourOf_64 : decode cX3_lastHourOf 64 = .ok (.iconst 1, 1) := by decide +kernel
theorem dX3_lastHourOf_65 : decode cX3_lastHourOf 65 = .ok (.iadd, 1) := by decide +kernel
theorem dX3_lastHourOf_66 : decode cX3_lastHourOf 66 = .ok (.putfield 134, 3) := by decide +kernel
theorem dX3_lastHourOf_69 : decode cX3_lastHourOf 69 = .ok (.iinc 4 1, 3) := by decide +kernel
theorem dX3_lastHourOf_72 : decode cX3_lastHourOf 72 = .ok (.goto (-55), 3) := by decide +kernel
theorem dX3_lastHourOf_75 : decode cX3_lastHourOf 75 = .ok (.aload_n 1, 1) := by decide +kernel
theorem dX3_lastHourOf_76 : decode cX3_lastHourOf 76 = .ok (.aload_n 3, 1) := by decide +kernel
theorem dX3_lastHourOf_77 : decode cX3_lastHourOf 77 = .ok (.aload_n 1, 1) := by decide +kernel
theorem dX3_lastHourOf_78 : decode cX3_lastHourOf 78 = .ok (.getfield 30, 3) := by decide +kernel
theorem dX3_lastHourOf_81 : decode cX3_lastHourOf 81 = .ok (.invokevirtual 75, 3) := by decide +kernel
theorem dX3_lastHourOf_84 : decode cX3_lastHourOf 84 = .ok (.aload_n 3, 1) := by decide +kernel
theorem dX3_lastHourOf_85 : decode cX3_lastHourOf 85 = .ok (.invokevirtual 137, 3) := by decide +kernel
theorem dX3_lastHourOf_88 : decode cX3_lastHourOf 88 = .ok (.ireturn, 1) := by decide +kernel
theorem dX4_init_0 : decode cX4_init 0 = .ok (.aload_n 0, 1) := by decide +kernel
theorem dX4_init_1 : decode cX4_init 1 = .ok (.invokespecial 3, 3) := by decide +kernel
theorem dX4_init_4 : decode cX4_init 4 = .ok (.aload_n 0, 1) := by decide +kernel
theorem dX4_init_5 : decode cX4_init 5 = .ok (.iconst 2, 1) := by decide +kernel
theorem dX4_init_6 : decode cX4_init 6 = .ok (.anewarray 9, 3) := by decide +kernel
theorem dX4_init_9 : decode cX4_init 9 = .ok (.putfield 11, 3) := by decide +kernel
theorem dX4_init_12 : decode cX4_init 12 = .ok (.aload_n 0, 1) := by decide +kernel
theorem dX4_init_13 : decode cX4_init 13 = .ok (.iconst 2, 1) := by decide +kernel
theorem dX4_init_14 : decode cX4_init 14 = .ok (.newarray .boolean, 2) := by decide +kernel
theorem dX4_init_16 : decode cX4_init 16 = .ok (.putfield 17, 3) := by decide +kernel
theorem dX4_init_19 : decode cX4_init 19 = .ok (.iconst 0, 1) := by decide +kernel
theorem dX4_init_20 : decode cX4_init 20 = .ok (.istore_n 1, 1) := by decide +kernel
theorem dX4_init_21 : decode cX4_init 21 = .ok (.iload_n 1, 1) := by decide +kernel
theorem dX4_init_22 : decode cX4_init 22 = .ok (.iconst 2, 1) := by decide +kernel
theorem dX4_init_23 : decode cX4_init 23 = .ok (.if_icmp .ge 22, 3) := by decide +kernel
theorem dX4_init_26 : decode cX4_init 26 = .ok (.aload_n 0, 1) := by decide +kernel
theorem dX4_init_27 : decode cX4_init 27 = .ok (.getfield 11, 3) := by decide +kernel
theorem dX4_init_30 : decode cX4_init 30 = .ok (.iload_n 1, 1) := by decide +kernel
theorem dX4_init_31 : decode cX4_init 31 = .ok (.new 9, 3) := by decide +kernel
theorem dX4_init_34 : decode cX4_init 34 = .ok (.dup, 1) := by decide +kernel
theorem dX4_init_35 : decode cX4_init 35 = .ok (.invokespecial 21, 3) := by decide +kernel
theorem dX4_init_38 : decode cX4_init 38 = .ok (.aastore, 1) := by decide +kernel
theorem dX4_init_39 : decode cX4_init 39 = .ok (.iinc 1 1, 3) := by decide +kernel
theorem dX4_init_42 : decode cX4_init 42 = .ok (.goto (-21), 3) := by decide +kernel
theorem dX4_init_45 : decode cX4_init 45 = .ok (.return_, 1) := by decide +kernel
theorem dX4_put_0 : decode cX4_put 0 = .ok (.iload_n 1, 1) := by decide +kernel
theorem dX4_put_1 : decode cX4_put 1 = .ok (.ifCond .lt 25, 3) := by decide +kernel
theorem dX4_put_4 : decode cX4_put 4 = .ok (.iload_n 1, 1) := by decide +kernel
theorem dX4_put_5 : decode cX4_put 5 = .ok (.iconst 2, 1) := by decide +kernel
theorem dX4_put_6 : decode cX4_put 6 = .ok (.if_icmp .ge 20, 3) := by decide +kernel
theorem dX4_put_9 : decode cX4_put 9 = .ok (.aload_n 0, 1) := by decide +kernel
theorem dX4_put_10 : decode cX4_put 10 = .ok (.getfield 11, 3) := by decide +kernel
theorem dX4_put_13 : decode cX4_put 13 = .ok (.iload_n 1, 1) := by decide +kernel
theorem dX4_put_14 : decode cX4_put 14 = .ok (.aaload, 1) := by decide +kernel
theorem dX4_put_15 : decode cX4_put 15 = .ok (.aload_n 2, 1) := by decide +kernel
theorem dX4_put_16 : decode cX4_put 16 = .ok (.invokevirtual 22, 3) := by decide +kernel
theorem dX4_put_19 : decode cX4_put 19 = .ok (.aload_n 0, 1) := by decide +kernel
theorem dX4_put_20 : decode cX4_put 20 = .ok (.getfield 17, 3) := by decide +kernel
theorem dX4_put_23 : decode cX4_put 23 = .ok (.iload_n 1, 1) := by decide +kernel
theorem dX4_put_24 : decode cX4_put 24 = .ok (.iconst 1, 1) := by decide +kernel
theorem dX4_put_25 : decode cX4_put 25 = .ok (.bastore, 1) := by decide +kernel
theorem dX4_put_26 : decode cX4_put 26 = .ok (.return_, 1) := by decide +kernel
theorem dX4_forgetAll_0 : decode cX4_forgetAll 0 = .ok (.iconst 0, 1) := by decide +kernel
theorem dX4_forgetAll_1 : decode cX4_forgetAll 1 = .ok (.istore_n 1, 1) := by decide +kernel
theorem dX4_forgetAll_2 : decode cX4_forgetAll 2 = .ok (.iload_n 1, 1) := by decide +kernel
theorem dX4_forgetAll_3 : decode cX4_forgetAll 3 = .ok (.iconst 2, 1) := by decide +kernel
theorem dX4_forgetAll_4 : decode cX4_forgetAll 4 = .ok (.if_icmp .ge 16, 3) := by decide +kernel
theorem dX4_forgetAll_7 : decode cX4_forgetAll 7 = .ok (.aload_n 0, 1) := by decide +kernel
theorem dX4_forgetAll_8 : decode cX4_forgetAll 8 = .ok (.getfield 17, 3) := by decide +kernel
theorem dX4_forgetAll_11 : decode cX4_forgetAll 11 = .ok (.iload_n 1, 1) := by decide +kernel
theorem dX4_forgetAll_12 : decode cX4_forgetAll 12 = .ok (.iconst 0, 1) := by decide +kernel
theorem dX4_forgetAll_13 : decode cX4_forgetAll 13 = .ok (.bastore, 1) := by decide +kernel
theorem dX4_forgetAll_14 : decode cX4_forgetAll 14 = .ok (.iinc 1 1, 3) := by decide +kernel
theorem dX4_forgetAll_17 : decode cX4_forgetAll 17 = .ok (.goto (-15), 3) := by decide +kernel
theorem dX4_forgetAll_20 : decode cX4_forgetAll 20 = .ok (.return_, 1) := by decide +kernel
theorem dX5_init_0 : decode cX5_init 0 = .ok (.aload_n 0, 1) := by decide +kernel
theorem dX5_init_1 : decode cX5_init 1 = .ok (.invokespecial 3, 3) := by decide +kernel
theorem dX5_init_4 : decode cX5_init 4 = .ok (.aload_n 0, 1) := by decide +kernel
theorem dX5_init_5 : decode cX5_init 5 = .ok (.bipush 6, 2) := by decide +kernel
theorem dX5_init_7 : decode cX5_init 7 = .ok (.newarray .int, 2) := by decide +kernel
theorem dX5_init_9 : decode cX5_init 9 = .ok (.putfield 9, 3) := by decide +kernel
theorem dX5_init_12 : decode cX5_init 12 = .ok (.aload_n 0, 1) := by decide +kernel
theorem dX5_init_13 : decode cX5_init 13 = .ok (.bipush 6, 2) := by decide +kernel
theorem dX5_init_15 : decode cX5_init 15 = .ok (.newarray .int, 2) := by decide +kernel
theorem dX5_init_17 : decode cX5_init 17 = .ok (.putfield 15, 3) := by decide +kernel
theorem dX5_init_20 : decode cX5_init 20 = .ok (.aload_n 0, 1) := by decide +kernel
theorem dX5_init_21 : decode cX5_init 21 = .ok (.bipush 6, 2) := by decide +kernel
theorem dX5_init_23 : decode cX5_init 23 = .ok (.newarray .int, 2) := by decide +kernel
theorem dX5_init_25 : decode cX5_init 25 = .ok (.putfield 18, 3) := by decide +kernel
theorem dX5_init_28 : decode cX5_init 28 = .ok (.aload_n 0, 1) := by decide +kernel
theorem dX5_init_29 : decode cX5_init 29 = .ok (.iconst 5, 1) := by decide +kernel
theorem dX5_init_30 : decode cX5_init 30 = .ok (.newarray .int, 2) := by decide +kernel
theorem dX5_init_32 : decode cX5_init 32 = .ok (.putfield 21, 3) := by decide +kernel
theorem dX5_init_35 : decode cX5_init 35 = .ok (.aload_n 0, 1) := by decide +kernel
theorem dX5_init_36 : decode cX5_init 36 = .ok (.bipush 30, 2) := by decide +kernel
theorem dX5_init_38 : decode cX5_init 38 = .ok (.newarray .int, 2) := by decide +kernel
theorem dX5_init_40 : decode cX5_init 40 = .ok (.putfield 24, 3) := by decide +kernel
theorem dX5_init_43 : decode cX5_init 43 = .ok (.return_, 1) := by decide +kernel
theorem dX5_copyFrom_0 : decode cX5_copyFrom 0 = .ok (.aload_n 1, 1) := by decide +kernel
theorem dX5_copyFrom_1 : decode cX5_copyFrom 1 = .ok (.getfield 9, 3) := by decide +kernel
theorem dX5_copyFrom_4 : decode cX5_copyFrom 4 = .ok (.iconst 0, 1) := by decide +kernel
theorem dX5_copyFrom_5 : decode cX5_copyFrom 5 = .ok (.aload_n 0, 1) := by decide +kernel
theorem dX5_copyFrom_6 : decode cX5_copyFrom 6 = .ok (.getfield 9, 3) := by decide +kernel
theorem dX5_copyFrom_9 : decode cX5_copyFrom 9 = .ok (.iconst 0, 1) := by decide +kernel
theorem dX5_copyFrom_10 : decode cX5_copyFrom 10 = .ok (.bipush 6, 2) := by decide +kernel
theorem dX5_copyFrom_12 : decode cX5_copyFrom 12 = .ok (.invokestatic 27, 3) := by decide +kernel
theorem dX5_copyFrom_15 : decode cX5_copyFrom 15 = .ok (.aload_n 1, 1) := by decide +kernel
theorem dX5_copyFrom_16 : decode cX5_copyFrom 16 = .ok (.getfield 15, 3) := by decide +kernel
theorem dX5_copyFrom_19 : decode cX5_copyFrom 19 = .ok (.iconst 0, 1) := by decide +kernel
theorem dX5_copyFrom_20 : decode cX5_copyFrom 20 = .ok (.aload_n 0, 1) := by decide +kernel
theorem dX5_copyFrom_21 : decode cX5_copyFrom 21 = .ok (.getfield 15, 3) := by decide +kernel
theorem dX5_copyFrom_24 : decode cX5_copyFrom 24 = .ok (.iconst 0, 1) := by decide +kernel
theorem dX5_copyFrom_25 : decode cX5_copyFrom 25 = .ok (.bipush 6, 2) := by decide +kernel
theorem dX5_copyFrom_27 : decode cX5_copyFrom 27 = .ok (.invokestatic 27, 3) := by decide +kernel
theorem dX5_copyFrom_30 : decode cX5_copyFrom 30 = .ok (.aload_n 1, 1) := by decide +kernel
theorem dX5_copyFrom_31 : decode cX5_copyFrom 31 = .ok (.getfield 18, 3) := by decide +kernel
theorem dX5_copyFrom_34 : decode cX5_copyFrom 34 = .ok (.iconst 0, 1) := by decide +kernel
theorem dX5_copyFrom_35 : decode cX5_copyFrom 35 = .ok (.aload_n 0, 1) := by decide +kernel
theorem dX5_copyFrom_36 : decode cX5_copyFrom 36 = .ok (.getfield 18, 3) := by decide +kernel
theorem dX5_copyFrom_39 : decode cX5_copyFrom 39 = .ok (.iconst 0, 1) := by decide +kernel
theorem dX5_copyFrom_40 : decode cX5_copyFrom 40 = .ok (.bipush 6, 2) := by decide +kernel
theorem dX5_copyFrom_42 : decode cX5_copyFrom 42 = .ok (.invokestatic 27, 3) := by decide +kernel
theorem dX5_copyFrom_45 : decode cX5_copyFrom 45 = .ok (.aload_n 1, 1) := by decide +kernel
theorem dX5_copyFrom_46 : decode cX5_copyFrom 46 = .ok (.getfield 21, 3) := by decide +kernel
theorem dX5_copyFrom_49 : decode cX5_copyFrom 49 = .ok (.iconst 0, 1) := by decide +kernel
theorem dX5_copyFrom_50 : decode cX5_copyFrom 50 = .ok (.aload_n 0, 1) := by decide +kernel
theorem dX5_copyFrom_51 : decode cX5_copyFrom 51 = .ok (.getfield 21, 3) := by decide +kernel
theorem dX5_copyFrom_54 : decode cX5_copyFrom 54 = .ok (.iconst 0, 1) := by decide +kernel
theorem dX5_copyFrom_55 : decode cX5_copyFrom 55 = .ok (.iconst 5, 1) := by decide +kernel
theorem dX5_copyFrom_56 : decode cX5_copyFrom 56 = .ok (.invokestatic 27, 3) := by decide +kernel
theorem dX5_copyFrom_59 : decode cX5_copyFrom 59 = .ok (.aload_n 1, 1) := by decide +kernel
theorem dX5_copyFrom_60 : decode cX5_copyFrom 60 = .ok (.getfield 24, 3) := by decide +kernel
theorem dX5_copyFrom_63 : decode cX5_copyFrom 63 = .ok (.iconst 0, 1) := by decide +kernel
theorem dX5_copyFrom_64 : decode cX5_copyFrom 64 = .ok (.aload_n 0, 1) := by decide +kernel
theorem dX5_copyFrom_65 : decode cX5_copyFrom 65 = .ok (.getfield 24, 3) := by decide +kernel
theorem dX5_copyFrom_68 : decode cX5_copyFrom 68 = .ok (.iconst 0, 1) := by decide +kernel
theorem dX5_copyFrom_69 : decode cX5_copyFrom 69 = .ok (.bipush 30, 2) := by decide +kernel
theorem dX5_copyFrom_71 : decode cX5_copyFrom 71 = .ok (.invokestatic 27, 3) := by decide +kernel
theorem dX5_copyFrom_74 : decode cX5_copyFrom 74 = .ok (.aload_n 0, 1) := by decide +kernel
theorem dX5_copyFrom_75 : decode cX5_copyFrom 75 = .ok (.aload_n 1, 1) := by decide +kernel
theorem dX5_copyFrom_76 : decode cX5_copyFrom 76 = .ok (.getfield 33, 3) := by decide +kernel
theorem dX5_copyFrom_79 : decode cX5_copyFrom 79 = .ok (.putfield 33, 3) := by decide +kernel
theorem dX5_copyFrom_82 : decode cX5_copyFrom 82 = .ok (.aload_n 0, 1) := by decide +kernel
theorem dX5_copyFrom_83 : decode cX5_copyFrom 83 = .ok (.aload_n 1, 1) := by decide +kernel
theorem dX5_copyFrom_84 : decode cX5_copyFrom 84 = .ok (.getfield 37, 3) := by decide +kernel
theorem dX5_copyFrom_87 : decode cX5_copyFrom 87 = .ok (.putfield 37, 3) := by decide +kernel
theorem dX5_copyFrom_90 : decode cX5_copyFrom 90 = .ok (.return_, 1) := by decide +kernel
theorem dX5_clearAll_0 : decode cX5_clearAll 0 = .ok (.iconst 0, 1) := by decide +kernel
theorem dX5_clearAll_1 : decode cX5_clearAll 1 = .ok (.istore_n 1, 1) := by decide +kernel
theorem dX5_clearAll_2 : decode cX5_clearAll 2 = .ok (.iload_n 1, 1) := by decide +kernel
theorem dX5_clearAll_3 : decode cX5_clearAll 3 = .ok (.bipush 30, 2) := by decide +kernel
theorem dX5_clearAll_5 : decode cX5_clearAll 5 = .ok (.if_icmp .ge 16, 3) := by decide +kernel
theorem dX5_clearAll_8 : decode cX5_clearAll 8 = .ok (.aload_n 0, 1) := by decide +kernel
theorem dX5_clearAll_9 : decode cX5_clearAll 9 = .ok (.getfield 24, 3) := by decide +kernel
theorem dX5_clearAll_12 : decode cX5_clearAll 12 = .ok (.iload_n 1, 1) := by decide +kernel
theorem dX5_clearAll_13 : decode cX5_clearAll 13 = .ok (.iconst 0, 1) := by decide +kernel
theorem dX5_clearAll_14 : decode cX5_clearAll 14 = .ok (.iastore, 1) := by decide +kernel
theorem dX5_clearAll_15 : decode cX5_clearAll 15 = .ok (.iinc 1 1, 3) := by decide +kernel
theorem dX5_clearAll_18 : decode cX5_clearAll 18 = .ok (.goto (-16), 3) := by decide +kernel
theorem dX5_clearAll_21 : decode cX5_clearAll 21 = .ok (.aload_n 0, 1) := by decide +kernel
theorem dX5_clearAll_22 : decode cX5_clearAll 22 = .ok (.invokevirtual 40, 3) := by decide +kernel
theorem dX5_clearAll_25 : decode cX5_clearAll 25 = .ok (.aload_n 0, 1) := by decide +kernel
theorem dX5_clearAll_26 : decode cX5_clearAll 26 = .ok (.iconst 0, 1) := by decide +kernel
theorem dX5_clearAll_27 : decode cX5_clearAll 27 = .ok (.putfield 33, 3) := by decide +kernel
theorem dX5_clearAll_30 : decode cX5_clearAll 30 = .ok (.aload_n 0, 1) := by decide +kernel
theorem dX5_clearAll_31 : decode cX5_clearAll 31 = .ok (.iconst 0, 1) := by decide +kernel
theorem dX5_clearAll_32 : decode cX5_clearAll 32 = .ok (.putfield 37, 3) := by decide +kernel
theorem dX5_clearAll_35 : decode cX5_clearAll 35 = .ok (.return_, 1) := by decide +kernel
theorem dX5_clearHours_0 : decode cX5_clearHours 0 = .ok (.iconst 0, 1) := by decide +kernel
theorem dX5_clearHours_1 : decode cX5_clearHours 1 = .ok (.istore_n 1, 1) := by decide +kernel
theorem dX5_clearHours_2 : decode cX5_clearHours 2 = .ok (.iload_n 1, 1) := by decide +kernel
theorem dX5_clearHours_3 : decode cX5_clearHours 3 = .ok (.bipush 6, 2) := by decide +kernel
theorem dX5_clearHours_5 : decode cX5_clearHours 5 = .ok (.if_icmp .ge 16, 3) := by decide +kernel
theorem dX5_clearHours_8 : decode cX5_clearHours 8 = .ok (.aload_n 0, 1) := by decide +kernel
theorem dX5_clearHours_9 : decode cX5_clearHours 9 = .ok (.getfield 15, 3) := by decide +kernel
theorem dX5_clearHours_12 : decode cX5_clearHours 12 = .ok (.iload_n 1, 1) := by decide +kernel
theorem dX5_clearHours_13 : decode cX5_clearHours 13 = .ok (.iconst 0, 1) := by decide +kernel
theorem dX5_clearHours_14 : decode cX5_clearHours 14 = .ok (.iastore, 1) := by decide +kernel
theorem dX5_clearHours_15 : decode cX5_clearHours 15 = .ok (.iinc 1 1, 3) := by decide +kernel
theorem dX5_clearHours_18 : decode cX5_clearHours 18 = .ok (.goto (-16), 3) := by decide +kernel
theorem dX5_clearHours_21 : decode cX5_clearHours 21 = .ok (.return_, 1) := by decide +kernel
theorem dX5_placeOf_0 : decode cX5_placeOf 0 = .ok (.iconst 0, 1) := by decide +kernel
theorem dX5_placeOf_1 : decode cX5_placeOf 1 = .ok (.istore_n 2, 1) := by decide +kernel
theorem dX5_placeOf_2 : decode cX5_placeOf 2 = .ok (.iload_n 2, 1) := by decide +kernel
theorem dX5_placeOf_3 : decode cX5_placeOf 3 = .ok (.aload_n 0, 1) := by decide +kernel
theorem dX5_placeOf_4 : decode cX5_placeOf 4 = .ok (.getfield 33, 3) := by decide +kernel
theorem dX5_placeOf_7 : decode cX5_placeOf 7 = .ok (.if_icmp .ge 21, 3) := by decide +kernel
theorem dX5_placeOf_10 : decode cX5_placeOf 10 = .ok (.aload_n 0, 1) := by decide +kernel
theorem dX5_placeOf_11 : decode cX5_placeOf 11 = .ok (.getfield 9, 3) := by decide +kernel
theorem dX5_placeOf_14 : decode cX5_placeOf 14 = .ok (.iload_n 2, 1) := by decide +kernel
theorem dX5_placeOf_15 : decode cX5_placeOf 15 = .ok (.iaload, 1) := by decide +kernel
theorem dX5_placeOf_16 : decode cX5_placeOf 16 = .ok (.iload_n 1, 1) := by decide +kernel
theorem dX5_placeOf_17 : decode cX5_placeOf 17 = .ok (.if_icmp .ne 5, 3) := by decide +kernel
theorem dX5_placeOf_20 : decode cX5_placeOf 20 = .ok (.iload_n 2, 1) := by decide +kernel
theorem dX5_placeOf_21 : decode cX5_placeOf 21 = .ok (.ireturn, 1) := by decide +kernel
theorem dX5_placeOf_22 : decode cX5_placeOf 22 = .ok (.iinc 2 1, 3) := by decide +kernel
theorem dX5_placeOf_25 : decode cX5_placeOf 25 = .ok (.goto (-23), 3) := by decide +kernel
theorem dX5_placeOf_28 : decode cX5_placeOf 28 = .ok (.bipush (-9), 2) := by decide +kernel
theorem dX5_placeOf_30 : decode cX5_placeOf 30 = .ok (.ireturn, 1) := by decide +kernel
theorem dX5_isAt_0 : decode cX5_isAt 0 = .ok (.iload_n 1, 1) := by decide +kernel
theorem dX5_isAt_1 : decode cX5_isAt 1 = .ok (.ifCond .lt 25, 3) := by decide +kernel
theorem dX5_isAt_4 : decode cX5_isAt 4 = .ok (.iload_n 1, 1) := by decide +kernel
theorem dX5_isAt_5 : decode cX5_isAt 5 = .ok (.aload_n 0, 1) := by decide +kernel
theorem dX5_isAt_6 : decode cX5_isAt 6 = .ok (.getfield 33, 3) := by decide +kernel
theorem dX5_isAt_9 : decode cX5_isAt 9 = .ok (.if_icmp .ge 17, 3) := by decide +kernel
theorem dX5_isAt_12 : decode cX5_isAt 12 = .ok (.aload_n 0, 1) := by decide +kernel
theorem dX5_isAt_13 : decode cX5_isAt 13 = .ok (.getfield 9, 3) := by decide +kernel
theorem dX5_isAt_16 : decode cX5_isAt 16 = .ok (.iload_n 1, 1) := by decide +kernel
theorem dX5_isAt_17 : decode cX5_isAt 17 = .ok (.iaload, 1) := by decide +kernel
theorem dX5_isAt_18 : decode cX5_isAt 18 = .ok (.iload_n 2, 1) := by decide +kernel
theorem dX5_isAt_19 : decode cX5_isAt 19 = .ok (.if_icmp .ne 7, 3) := by decide +kernel
theorem dX5_isAt_22 : decode cX5_isAt 22 = .ok (.iconst 1, 1) := by decide +kernel
theorem dX5_isAt_23 : decode cX5_isAt 23 = .ok (.goto 4, 3) := by decide +kernel
theorem dX5_isAt_26 : decode cX5_isAt 26 = .ok (.iconst 0, 1) := by decide +kernel
theorem dX5_isAt_27 : decode cX5_isAt 27 = .ok (.ireturn, 1) := by decide +kernel
theorem dX5_turn_0 : decode cX5_turn 0 = .ok (.iload_n 1, 1) := by decide +kernel
theorem dX5_turn_1 : decode cX5_turn 1 = .ok (.ifCond .lt 43, 3) := by decide +kernel
theorem dX5_turn_4 : decode cX5_turn 4 = .ok (.iload_n 1, 1) := by decide +kernel
theorem dX5_turn_5 : decode cX5_turn 5 = .ok (.iconst 1, 1) := by decide +kernel
theorem dX5_turn_6 : decode cX5_turn 6 = .ok (.iadd, 1) := by decide +kernel
theorem dX5_turn_7 : decode cX5_turn 7 = .ok (.aload_n 0, 1) := by decide +kernel
theorem dX5_turn_8 : decode cX5_turn 8 = .ok (.getfield 33, 3) := by decide +kernel
theorem dX5_turn_11 : decode cX5_turn 11 = .ok (.if_icmp .ge 33, 3) := by decide +kernel
theorem dX5_turn_14 : decode cX5_turn 14 = .ok (.aload_n 0, 1) := by decide +kernel
theorem dX5_turn_15 : decode cX5_turn 15 = .ok (.getfield 9, 3) := by decide +kernel
theorem dX5_turn_18 : decode cX5_turn 18 = .ok (.iload_n 1, 1) := by decide +kernel
theorem dX5_turn_19 : decode cX5_turn 19 = .ok (.iaload, 1) := by decide +kernel
theorem dX5_turn_20 : decode cX5_turn 20 = .ok (.istore_n 2, 1) := by decide +kernel
theorem dX5_turn_21 : decode cX5_turn 21 = .ok (.aload_n 0, 1) := by decide +kernel
theorem dX5_turn_22 : decode cX5_turn 22 = .ok (.getfield 9, 3) := by decide +kernel
theorem dX5_turn_25 : decode cX5_turn 25 = .ok (.iload_n 1, 1) := by decide +kernel
theorem dX5_turn_26 : decode cX5_turn 26 = .ok (.aload_n 0, 1) := by decide +kernel
theorem dX5_turn_27 : decode cX5_turn 27 = .ok (.getfield 9, 3) := by decide +kernel
theorem dX5_turn_30 : decode cX5_turn 30 = .ok (.iload_n 1, 1) := by decide +kernel
theorem dX5_turn_31 : decode cX5_turn 31 = .ok (.iconst 1, 1) := by decide +kernel
theorem dX5_turn_32 : decode cX5_turn 32 = .ok (.iadd, 1) := by decide +kernel
theorem dX5_turn_33 : decode cX5_turn 33 = .ok (.iaload, 1) := by decide +kernel
theorem dX5_turn_34 : decode cX5_turn 34 = .ok (.iastore, 1) := by decide +kernel
theorem dX5_turn_35 : decode cX5_turn 35 = .ok (.aload_n 0, 1) := by decide +kernel
theorem dX5_turn_36 : decode cX5_turn 36 = .ok (.getfield 9, 3) := by decide +kernel
theorem dX5_turn_39 : decode cX5_turn 39 = .ok (.iload_n 1, 1) := by decide +kernel
theorem dX5_turn_40 : decode cX5_turn 40 = .ok (.iconst 1, 1) := by decide +kernel
theorem dX5_turn_41 : decode cX5_turn 41 = .ok (.iadd, 1) := by decide +kernel
theorem dX5_turn_42 : decode cX5_turn 42 = .ok (.iload_n 2, 1) := by decide +kernel
theorem dX5_turn_43 : decode cX5_turn 43 = .ok (.iastore, 1) := by decide +kernel
theorem dX5_turn_44 : decode cX5_turn 44 = .ok (.return_, 1) := by decide +kernel
theorem dX5_figures_0 : decode cX5_figures 0 = .ok (.iconst 0, 1) := by decide +kernel
theorem dX5_figures_1 : decode cX5_figures 1 = .ok (.istore_n 1, 1) := by decide +kernel
theorem dX5_figures_2 : decode cX5_figures 2 = .ok (.iconst 0, 1) := by decide +kernel
theorem dX5_figures_3 : decode cX5_figures 3 = .ok (.istore_n 2, 1) := by decide +kernel
theorem dX5_figures_4 : decode cX5_figures 4 = .ok (.iload_n 2, 1) := by decide +kernel
theorem dX5_figures_5 : decode cX5_figures 5 = .ok (.aload_n 0, 1) := by decide +kernel
theorem dX5_figures_6 : decode cX5_figures 6 = .ok (.getfield 33, 3) := by decide +kernel
theorem dX5_figures_9 : decode cX5_figures 9 = .ok (.if_icmp .ge 23, 3) := by decide +kernel
theorem dX5_figures_12 : decode cX5_figures 12 = .ok (.bipush 10, 2) := by decide +kernel
theorem dX5_figures_14 : decode cX5_figures 14 = .ok (.iload_n 1, 1) := by decide +kernel
theorem dX5_figures_15 : decode cX5_figures 15 = .ok (.imul, 1) := by decide +kernel
theorem dX5_figures_16 : decode cX5_figures 16 = .ok (.aload_n 0, 1) := by decide +kernel
theorem dX5_figures_17 : decode cX5_figures 17 = .ok (.getfield 9, 3) := by decide +kernel
theorem dX5_figures_20 : decode cX5_figures 20 = .ok (.iload_n 2, 1) := by decide +kernel
theorem dX5_figures_21 : decode cX5_figures 21 = .ok (.iaload, 1) := by decide +kernel
theorem dX5_figures_22 : decode cX5_figures 22 = .ok (.iadd, 1) := by decide +kernel
theorem dX5_figures_23 : decode cX5_figures 23 = .ok (.iconst 1, 1) := by decide +kernel
theorem dX5_figures_24 : decode cX5_figures 24 = .ok (.iadd, 1) := by decide +kernel
theorem dX5_figures_25 : decode cX5_figures 25 = .ok (.istore_n 1, 1) := by decide +kernel
theorem dX5_figures_26 : decode cX5_figures 26 = .ok (.iinc 2 1, 3) := by decide +kernel
theorem dX5_figures_29 : decode cX5_figures 29 = .ok (.goto (-25), 3) := by decide +kernel
theorem dX5_figures_32 : decode cX5_figures 32 = .ok (.iload_n 1, 1) := by decide +kernel
theorem dX5_figures_33 : decode cX5_figures 33 = .ok (.ireturn, 1) := by decide +kernel
theorem dX5_greatestHour_0 : decode cX5_greatestHour 0 = .ok (.iconst 0, 1) := by decide +kernel
theorem dX5_greatestHour_1 : decode cX5_greatestHour 1 = .ok (.istore_n 1, 1) := by decide +kernel
theorem dX5_greatestHour_2 : decode cX5_greatestHour 2 = .ok (.iconst 0, 1) := by decide +kernel
theorem dX5_greatestHour_3 : decode cX5_greatestHour 3 = .ok (.istore_n 2, 1) := by decide +kernel
theorem dX5_greatestHour_4 : decode cX5_greatestHour 4 = .ok (.iload_n 2, 1) := by decide +kernel
theorem dX5_greatestHour_5 : decode cX5_greatestHour 5 = .ok (.aload_n 0, 1) := by decide +kernel
theorem dX5_greatestHour_6 : decode cX5_greatestHour 6 = .ok (.getfield 33, 3) := by decide +kernel
theorem dX5_greatestHour_9 : decode cX5_greatestHour 9 = .ok (.if_icmp .ge 25, 3) := by decide +kernel
theorem dX5_greatestHour_12 : decode cX5_greatestHour 12 = .ok (.iload_n 1, 1) := by decide +kernel
theorem dX5_greatestHour_13 : decode cX5_greatestHour 13 = .ok (.aload_n 0, 1) := by decide +kernel
theorem dX5_greatestHour_14 : decode cX5_greatestHour 14 = .ok (.getfield 15, 3) := by decide +kernel
theorem dX5_greatestHour_17 : decode cX5_greatestHour 17 = .ok (.aload_n 0, 1) := by decide +kernel
theorem dX5_greatestHour_18 : decode cX5_greatestHour 18 = .ok (.getfield 9, 3) := by decide +kernel
theorem dX5_greatestHour_21 : decode cX5_greatestHour 21 = .ok (.iload_n 2, 1) := by decide +kernel
theorem dX5_greatestHour_22 : decode cX5_greatestHour 22 = .ok (.iaload, 1) := by decide +kernel
theorem dX5_greatestHour_23 : decode cX5_greatestHour 23 = .ok (.iaload, 1) := by decide +kernel
theorem dX5_greatestHour_24 : decode cX5_greatestHour 24 = .ok (.invokestatic 43, 3) := by decide +kernel
theorem dX5_greatestHour_27 : decode cX5_greatestHour 27 = .ok (.istore_n 1, 1) := by decide +kernel
theorem dX5_greatestHour_28 : decode cX5_greatestHour 28 = .ok (.iinc 2 1, 3) := by decide +kernel
theorem dX5_greatestHour_31 : decode cX5_greatestHour 31 = .ok (.goto (-27), 3) := by decide +kernel
theorem dX5_greatestHour_34 : decode cX5_greatestHour 34 = .ok (.iload_n 1, 1) := by decide +kernel
theorem dX5_greatestHour_35 : decode cX5_greatestHour 35 = .ok (.ireturn, 1) := by decide +kernel
theorem dX5_loadsOf_0 : decode cX5_loadsOf 0 = .ok (.aload_n 0, 1) := by decide +kernel
theorem dX5_loadsOf_1 : decode cX5_loadsOf 1 = .ok (.getfield 24, 3) := by decide +kernel
theorem dX5_loadsOf_4 : decode cX5_loadsOf 4 = .ok (.iload_n 2, 1) := by decide +kernel
theorem dX5_loadsOf_5 : decode cX5_loadsOf 5 = .ok (.bipush 6, 2) := by decide +kernel
theorem dX5_loadsOf_7 : decode cX5_loadsOf 7 = .ok (.imul, 1) := by decide +kernel
theorem dX5_loadsOf_8 : decode cX5_loadsOf 8 = .ok (.iload_n 1, 1) := by decide +kernel
theorem dX5_loadsOf_9 : decode cX5_loadsOf 9 = .ok (.iadd, 1) := by decide +kernel
theorem dX5_loadsOf_10 : decode cX5_loadsOf 10 = .ok (.iaload, 1) := by decide +kernel
theorem dX5_loadsOf_11 : decode cX5_loadsOf 11 = .ok (.ireturn, 1) := by decide +kernel
theorem dX5_addLoads_0 : decode cX5_addLoads 0 = .ok (.aload_n 0, 1) := by decide +kernel
theorem dX5_addLoads_1 : decode cX5_addLoads 1 = .ok (.getfield 24, 3) := by decide +kernel
theorem dX5_addLoads_4 : decode cX5_addLoads 4 = .ok (.iload_n 2, 1) := by decide +kernel
theorem dX5_addLoads_5 : decode cX5_addLoads 5 = .ok (.bipush 6, 2) := by decide +kernel
theorem dX5_addLoads_7 : decode cX5_addLoads 7 = .ok (.imul, 1) := by decide +kernel
theorem dX5_addLoads_8 : decode cX5_addLoads 8 = .ok (.iload_n 1, 1) := by decide +kernel
theorem dX5_addLoads_9 : decode cX5_addLoads 9 = .ok (.iadd, 1) := by decide +kernel
theorem dX5_addLoads_10 : decode cX5_addLoads 10 = .ok (.dup2, 1) := by decide +kernel
theorem dX5_addLoads_11 : decode cX5_addLoads 11 = .ok (.iaload, 1) := by decide +kernel
theorem dX5_addLoads_12 : decode cX5_addLoads 12 = .ok (.iload_n 3, 1) := by decide +kernel
theorem dX5_addLoads_13 : decode cX5_addLoads 13 = .ok (.iadd, 1) := by decide +kernel
theorem dX5_addLoads_14 : decode cX5_addLoads 14 = .ok (.iastore, 1) := by decide +kernel
theorem dX5_addLoads_15 : decode cX5_addLoads 15 = .ok (.return_, 1) := by decide +kernel
theorem dX5_loadsAt_0 : decode cX5_loadsAt 0 = .ok (.iconst 0, 1) := by decide +kernel
theorem dX5_loadsAt_1 : decode cX5_loadsAt 1 = .ok (.istore_n 2, 1) := by decide +kernel
theorem dX5_loadsAt_2 : decode cX5_loadsAt 2 = .ok (.iconst 0, 1) := by decide +kernel
theorem dX5_loadsAt_3 : decode cX5_loadsAt 3 = .ok (.istore_n 3, 1) := by decide +kernel
theorem dX5_loadsAt_4 : decode cX5_loadsAt 4 = .ok (.iload_n 3, 1) := by decide +kernel
theorem dX5_loadsAt_5 : decode cX5_loadsAt 5 = .ok (.bipush 6, 2) := by decide +kernel
theorem dX5_loadsAt_7 : decode cX5_loadsAt 7 = .ok (.if_icmp .ge 18, 3) := by decide +kernel
theorem dX5_loadsAt_10 : decode cX5_loadsAt 10 = .ok (.iload_n 2, 1) := by decide +kernel
theorem dX5_loadsAt_11 : decode cX5_loadsAt 11 = .ok (.aload_n 0, 1) := by decide +kernel
theorem dX5_loadsAt_12 : decode cX5_loadsAt 12 = .ok (.iload_n 3, 1) := by decide +kernel
theorem dX5_loadsAt_13 : decode cX5_loadsAt 13 = .ok (.iload_n 1, 1) := by decide +kernel
theorem dX5_loadsAt_14 : decode cX5_loadsAt 14 = .ok (.invokevirtual 49, 3) := by decide +kernel
theorem dX5_loadsAt_17 : decode cX5_loadsAt 17 = .ok (.iadd, 1) := by decide +kernel
theorem dX5_loadsAt_18 : decode cX5_loadsAt 18 = .ok (.istore_n 2, 1) := by decide +kernel
theorem dX5_loadsAt_19 : decode cX5_loadsAt 19 = .ok (.iinc 3 1, 3) := by decide +kernel
theorem dX5_loadsAt_22 : decode cX5_loadsAt 22 = .ok (.goto (-18), 3) := by decide +kernel
theorem dX5_loadsAt_25 : decode cX5_loadsAt 25 = .ok (.iload_n 2, 1) := by decide +kernel
theorem dX5_loadsAt_26 : decode cX5_loadsAt 26 = .ok (.ireturn, 1) := by decide +kernel
theorem dX6_init_0 : decode cX6_init 0 = .ok (.aload_n 0, 1) := by decide +kernel
theorem dX6_init_1 : decode cX6_init 1 = .ok (.invokespecial 3, 3) := by decide +kernel
theorem dX6_init_4 : decode cX6_init 4 = .ok (.aload_n 0, 1) := by decide +kernel
theorem dX6_init_5 : decode cX6_init 5 = .ok (.bipush 40, 2) := by decide +kernel
theorem dX6_init_7 : decode cX6_init 7 = .ok (.newarray .int, 2) := by decide +kernel
theorem dX6_init_9 : decode cX6_init 9 = .ok (.putfield 9, 3) := by decide +kernel
theorem dX6_init_12 : decode cX6_init 12 = .ok (.return_, 1) := by decide +kernel
theorem dX6_append_0 : decode cX6_append 0 = .ok (.aload_n 0, 1) := by decide +kernel
theorem dX6_append_1 : decode cX6_append 1 = .ok (.getfield 15, 3) := by decide +kernel
theorem dX6_append_4 : decode cX6_append 4 = .ok (.bipush 40, 2) := by decide +kernel
theorem dX6_append_6 : decode cX6_append 6 = .ok (.if_icmp .ge 23, 3) := by decide +kernel
theorem dX6_append_9 : decode cX6_append 9 = .ok (.aload_n 0, 1) := by decide +kernel
theorem dX6_append_10 : decode cX6_append 10 = .ok (.getfield 9, 3) := by decide +kernel
theorem dX6_append_13 : decode cX6_append 13 = .ok (.aload_n 0, 1) := by decide +kernel
theorem dX6_append_14 : decode cX6_append 14 = .ok (.getfield 15, 3) := by decide +kernel
theorem dX6_append_17 : decode cX6_append 17 = .ok (.iload_n 1, 1) := by decide +kernel
theorem dX6_append_18 : decode cX6_append 18 = .ok (.iastore, 1) := by decide +kernel
theorem dX6_append_19 : decode cX6_append 19 = .ok (.aload_n 0, 1) := by decide +kernel
theorem dX6_append_20 : decode cX6_append 20 = .ok (.dup, 1) := by decide +kernel
theorem dX6_append_21 : decode cX6_append 21 = .ok (.getfield 15, 3) := by decide +kernel
theorem dX6_append_24 : decode cX6_append 24 = .ok (.iconst 1, 1) := by decide +kernel
theorem dX6_append_25 : decode cX6_append 25 = .ok (.iadd, 1) := by decide +kernel
theorem dX6_append_26 : decode cX6_append 26 = .ok (.putfield 15, 3) := by decide +kernel
theorem dX6_append_29 : decode cX6_append 29 = .ok (.return_, 1) := by decide +kernel
theorem dX6_faultPlace_0 : decode cX6_faultPlace 0 = .ok (.iconst 0, 1) := by decide +kernel
theorem dX6_faultPlace_1 : decode cX6_faultPlace 1 = .ok (.istore_n 1, 1) := by decide +kernel
theorem dX6_faultPlace_2 : decode cX6_faultPlace 2 = .ok (.iconst 0, 1) := by decide +kernel
theorem dX6_faultPlace_3 : decode cX6_faultPlace 3 = .ok (.istore_n 2, 1) := by decide +kernel
theorem dX6_faultPlace_4 : decode cX6_faultPlace 4 = .ok (.iconst 0, 1) := by decide +kernel
theorem dX6_faultPlace_5 : decode cX6_faultPlace 5 = .ok (.istore_n 3, 1) := by decide +kernel
theorem dX6_faultPlace_6 : decode cX6_faultPlace 6 = .ok (.iconst 0, 1) := by decide +kernel
theorem dX6_faultPlace_7 : decode cX6_faultPlace 7 = .ok (.istore 4, 2) := by decide +kernel
theorem dX6_faultPlace_9 : decode cX6_faultPlace 9 = .ok (.iload 4, 2) := by decide +kernel
theorem dX6_faultPlace_11 : decode cX6_faultPlace 11 = .ok (.aload_n 0, 1) := by decide +kernel
theorem dX6_faultPlace_12 : decode cX6_faultPlace 12 = .ok (.getfield 15, 3) := by decide +kernel
theorem dX6_faultPlace_15 : decode cX6_faultPlace 15 = .ok (.if_icmp .ge 75, 3) := by decide +kernel
theorem dX6_faultPlace_18 : decode cX6_faultPlace 18 = .ok (.aload_n 0, 1) := by decide +kernel
theorem dX6_faultPlace_19 : decode cX6_faultPlace 19 = .ok (.getfield 9, 3) := by decide +kernel
theorem dX6_faultPlace_22 : decode cX6_faultPlace 22 = .ok (.iload 4, 2) := by decide +kernel
theorem dX6_faultPlace_24 : decode cX6_faultPlace 24 = .ok (.iaload, 1) := by decide +kernel
theorem dX6_faultPlace_25 : decode cX6_faultPlace 25 = .ok (.istore 5, 2) := by decide +kernel
theorem dX6_faultPlace_27 : decode cX6_faultPlace 27 = .ok (.iload_n 1, 1) := by decide +kernel
theorem dX6_faultPlace_28 : decode cX6_faultPlace 28 = .ok (.iload 5, 2) := by decide +kernel
theorem dX6_faultPlace_30 : decode cX6_faultPlace 30 = .ok (.invokestatic 19, 3) := by decide +kernel
theorem dX6_faultPlace_33 : decode cX6_faultPlace 33 = .ok (.istore_n 1, 1) := by decide +kernel
theorem dX6_faultPlace_34 : decode cX6_faultPlace 34 = .ok (.iload_n 2, 1) := by decide +kernel
theorem dX6_faultPlace_35 : decode cX6_faultPlace 35 = .ok (.iload 5, 2) := by decide +kernel
theorem dX6_faultPlace_37 : decode cX6_faultPlace 37 = .ok (.bipush 75, 2) := by decide +kernel
theorem dX6_faultPlace_39 : decode cX6_faultPlace 39 = .ok (.if_icmp .ne 7, 3) := by decide +kernel
theorem dX6_faultPlace_42 : decode cX6_faultPlace 42 = .ok (.iconst 1, 1) := by decide +kernel
theorem dX6_faultPlace_43 : decode cX6_faultPlace 43 = .ok (.goto 4, 3) := by decide +kernel
theorem dX6_faultPlace_46 : decode cX6_faultPlace 46 = .ok (.iconst 0, 1) := by decide +kernel
theorem dX6_faultPlace_47 : decode cX6_faultPlace 47 = .ok (.iadd, 1) := by decide +kernel
theorem dX6_faultPlace_48 : decode cX6_faultPlace 48 = .ok (.istore_n 2, 1) := by decide +kernel
theorem dX6_faultPlace_49 : decode cX6_faultPlace 49 = .ok (.iload_n 3, 1) := by decide +kernel
theorem dX6_faultPlace_50 : decode cX6_faultPlace 50 = .ok (.iload 5, 2) := by decide +kernel
theorem dX6_faultPlace_52 : decode cX6_faultPlace 52 = .ok (.bipush 66, 2) := by decide +kernel
theorem dX6_faultPlace_54 : decode cX6_faultPlace 54 = .ok (.if_icmp .ne 7, 3) := by decide +kernel
theorem dX6_faultPlace_57 : decode cX6_faultPlace 57 = .ok (.iconst 1, 1) := by decide +kernel
theorem dX6_faultPlace_58 : decode cX6_faultPlace 58 = .ok (.goto 4, 3) := by decide +kernel
theorem dX6_faultPlace_61 : decode cX6_faultPlace 61 = .ok (.iconst 0, 1) := by decide +kernel
theorem dX6_faultPlace_62 : decode cX6_faultPlace 62 = .ok (.iadd, 1) := by decide +kernel
theorem dX6_faultPlace_63 : decode cX6_faultPlace 63 = .ok (.istore_n 3, 1) := by decide +kernel
theorem dX6_faultPlace_64 : decode cX6_faultPlace 64 = .ok (.iload_n 1, 1) := by decide +kernel
theorem dX6_faultPlace_65 : decode cX6_faultPlace 65 = .ok (.bipush 6, 2) := by decide +kernel
theorem dX6_faultPlace_67 : decode cX6_faultPlace 67 = .ok (.if_icmp .eq 14, 3) := by decide +kernel
theorem dX6_faultPlace_70 : decode cX6_faultPlace 70 = .ok (.iload_n 2, 1) := by decide +kernel
theorem dX6_faultPlace_71 : decode cX6_faultPlace 71 = .ok (.iconst 5, 1) := by decide +kernel
theorem dX6_faultPlace_72 : decode cX6_faultPlace 72 = .ok (.if_icmp .gt 9, 3) := by decide +kernel
theorem dX6_faultPlace_75 : decode cX6_faultPlace 75 = .ok (.iload_n 3, 1) := by decide +kernel
theorem dX6_faultPlace_76 : decode cX6_faultPlace 76 = .ok (.bipush 6, 2) := by decide +kernel
theorem dX6_faultPlace_78 : decode cX6_faultPlace 78 = .ok (.if_icmp .le 6, 3) := by decide +kernel
theorem dX6_faultPlace_81 : decode cX6_faultPlace 81 = .ok (.iload 4, 2) := by decide +kernel
theorem dX6_faultPlace_83 : decode cX6_faultPlace 83 = .ok (.ireturn, 1) := by decide +kernel
theorem dX6_faultPlace_84 : decode cX6_faultPlace 84 = .ok (.iinc 4 1, 3) := by decide +kernel
theorem dX6_faultPlace_87 : decode cX6_faultPlace 87 = .ok (.goto (-78), 3) := by decide +kernel
theorem dX6_faultPlace_90 : decode cX6_faultPlace 90 = .ok (.iload_n 1, 1) := by decide +kernel
theorem dX6_faultPlace_91 : decode cX6_faultPlace 91 = .ok (.iconst 1, 1) := by decide +kernel
theorem dX6_faultPlace_92 : decode cX6_faultPlace 92 = .ok (.if_icmp .ne 8, 3) := by decide +kernel
theorem dX6_faultPlace_95 : decode cX6_faultPlace 95 = .ok (.bipush (-9), 2) := by decide +kernel
theorem dX6_faultPlace_97 : decode cX6_faultPlace 97 = .ok (.goto 7, 3) := by decide +kernel
theorem dX6_faultPlace_100 : decode cX6_faultPlace 100 = .ok (.aload_n 0, 1) := by decide +kernel
theorem dX6_faultPlace_101 : decode cX6_faultPlace 101 = .ok (.getfield 15, 3) := by decide +kernel
theorem dX6_faultPlace_104 : decode cX6_faultPlace 104 = .ok (.ireturn, 1) := by decide +kernel
theorem dX6_dueBehind_0 : decode cX6_dueBehind 0 = .ok (.iload_n 0, 1) := by decide +kernel
theorem dX6_dueBehind_1 : decode cX6_dueBehind 1 = .ok (.tableswitch 151 0 5 #[39, 52, 75, 94, 113, 132], 39) := by decide +kernel
theorem dX6_dueBehind_40 : decode cX6_dueBehind 40 = .ok (.iload_n 1, 1) := by decide +kernel
theorem dX6_dueBehind_41 : decode cX6_dueBehind 41 = .ok (.bipush 67, 2) := by decide +kernel
theorem dX6_dueBehind_43 : decode cX6_dueBehind 43 = .ok (.if_icmp .ne 7, 3) := by decide +kernel
theorem dX6_dueBehind_46 : decode cX6_dueBehind 46 = .ok (.iconst 1, 1) := by decide +kernel
theorem dX6_dueBehind_47 : decode cX6_dueBehind 47 = .ok (.goto 5, 3) := by decide +kernel
theorem dX6_dueBehind_50 : decode cX6_dueBehind 50 = .ok (.bipush 6, 2) := by decide +kernel
theorem dX6_dueBehind_52 : decode cX6_dueBehind 52 = .ok (.ireturn, 1) := by decide +kernel
theorem dX6_dueBehind_53 : decode cX6_dueBehind 53 = .ok (.iload_n 1, 1) := by decide +kernel
theorem dX6_dueBehind_54 : decode cX6_dueBehind 54 = .ok (.bipush 75, 2) := by decide +kernel
theorem dX6_dueBehind_56 : decode cX6_dueBehind 56 = .ok (.if_icmp .ne 7, 3) := by decide +kernel
theorem dX6_dueBehind_59 : decode cX6_dueBehind 59 = .ok (.iconst 2, 1) := by decide +kernel
theorem dX6_dueBehind_60 : decode cX6_dueBehind 60 = .ok (.goto 15, 3) := by decide +kernel
theorem dX6_dueBehind_63 : decode cX6_dueBehind 63 = .ok (.iload_n 1, 1) := by decide +kernel
theorem dX6_dueBehind_64 : decode cX6_dueBehind 64 = .ok (.bipush 66, 2) := by decide +kernel
theorem dX6_dueBehind_66 : decode cX6_dueBehind 66 = .ok (.if_icmp .ne 7, 3) := by decide +kernel
theorem dX6_dueBehind_69 : decode cX6_dueBehind 69 = .ok (.iconst 3, 1) := by decide +kernel
theorem dX6_dueBehind_70 : decode cX6_dueBehind 70 = .ok (.goto 5, 3) := by decide +kernel
theorem dX6_dueBehind_73 : decode cX6_dueBehind 73 = .ok (.bipush 6, 2) := by decide +kernel
theorem dX6_dueBehind_75 : decode cX6_dueBehind 75 = .ok (.ireturn, 1) := by decide +kernel
theorem dX6_dueBehind_76 : decode cX6_dueBehind 76 = .ok (.iload_n 1, 1) := by decide +kernel
theorem dX6_dueBehind_77 : decode cX6_dueBehind 77 = .ok (.bipush 48, 2) := by decide +kernel
theorem dX6_dueBehind_79 : decode cX6_dueBehind 79 = .ok (.if_icmp .lt 13, 3) := by decide +kernel
theorem dX6_dueBehind_82 : decode cX6_dueBehind 82 = .ok (.iload_n 1, 1) := by decide +kernel
theorem dX6_dueBehind_83 : decode cX6_dueBehind 83 = .ok (.bipush 51, 2) := by decide +kernel
theorem dX6_dueBehind_85 : decode cX6_dueBehind 85 = .ok (.if_icmp .gt 7, 3) := by decide +kernel
theorem dX6_dueBehind_88 : decode cX6_dueBehind 88 = .ok (.iconst 1, 1) := by decide +kernel
theorem dX6_dueBehind_89 : decode cX6_dueBehind 89 = .ok (.goto 5, 3) := by decide +kernel
theorem dX6_dueBehind_92 : decode cX6_dueBehind 92 = .ok (.bipush 6, 2) := by decide +kernel
theorem dX6_dueBehind_94 : decode cX6_dueBehind 94 = .ok (.ireturn, 1) := by decide +kernel
theorem dX6_dueBehind_95 : decode cX6_dueBehind 95 = .ok (.iload_n 1, 1) := by decide +kernel
theorem dX6_dueBehind_96 : decode cX6_dueBehind 96 = .ok (.bipush 49, 2) := by decide +kernel
theorem dX6_dueBehind_98 : decode cX6_dueBehind 98 = .ok (.if_icmp .eq 9, 3) := by decide +kernel
theorem dX6_dueBehind_101 : decode cX6_dueBehind 101 = .ok (.iload_n 1, 1) := by decide +kernel
theorem dX6_dueBehind_102 : decode cX6_dueBehind 102 = .ok (.bipush 50, 2) := by decide +kernel
theorem dX6_dueBehind_104 : decode cX6_dueBehind 104 = .ok (.if_icmp .ne 7, 3) := by decide +kernel
theorem dX6_dueBehind_107 : decode cX6_dueBehind 107 = .ok (.iconst 4, 1) := by decide +kernel
theorem dX6_dueBehind_108 : decode cX6_dueBehind 108 = .ok (.goto 5, 3) := by decide +kernel
theorem dX6_dueBehind_111 : decode cX6_dueBehind 111 = .ok (.bipush 6, 2) := by decide +kernel
theorem dX6_dueBehind_113 : decode cX6_dueBehind 113 = .ok (.ireturn, 1) := by decide +kernel
theorem dX6_dueBehind_114 : decode cX6_dueBehind 114 = .ok (.iload_n 1, 1) := by decide +kernel
theorem dX6_dueBehind_115 : decode cX6_dueBehind 115 = .ok (.bipush 48, 2) := by decide +kernel
theorem dX6_dueBehind_117 : decode cX6_dueBehind 117 = .ok (.if_icmp .lt 13, 3) := by decide +kernel
theorem dX6_dueBehind_120 : decode cX6_dueBehind 120 = .ok (.iload_n 1, 1) := by decide +kernel
theorem dX6_dueBehind_121 : decode cX6_dueBehind 121 = .ok (.bipush 57, 2) := by decide +kernel
theorem dX6_dueBehind_123 : decode cX6_dueBehind 123 = .ok (.if_icmp .gt 7, 3) := by decide +kernel
theorem dX6_dueBehind_126 : decode cX6_dueBehind 126 = .ok (.iconst 5, 1) := by decide +kernel
theorem dX6_dueBehind_127 : decode cX6_dueBehind 127 = .ok (.goto 5, 3) := by decide +kernel
theorem dX6_dueBehind_130 : decode cX6_dueBehind 130 = .ok (.bipush 6, 2) := by decide +kernel
theorem dX6_dueBehind_132 : decode cX6_dueBehind 132 = .ok (.ireturn, 1) := by decide +kernel
theorem dX6_dueBehind_133 : decode cX6_dueBehind 133 = .ok (.iload_n 1, 1) := by decide +kernel
theorem dX6_dueBehind_134 : decode cX6_dueBehind 134 = .ok (.bipush 48, 2) := by decide +kernel
theorem dX6_dueBehind_136 : decode cX6_dueBehind 136 = .ok (.if_icmp .lt 13, 3) := by decide +kernel
theorem dX6_dueBehind_139 : decode cX6_dueBehind 139 = .ok (.iload_n 1, 1) := by decide +kernel
theorem dX6_dueBehind_140 : decode cX6_dueBehind 140 = .ok (.bipush 57, 2) := by decide +kernel
theorem dX6_dueBehind_142 : decode cX6_dueBehind 142 = .ok (.if_icmp .gt 7, 3) := by decide +kernel
theorem dX6_dueBehind_145 : decode cX6_dueBehind 145 = .ok (.iconst 1, 1) := by decide +kernel
theorem dX6_dueBehind_146 : decode cX6_dueBehind 146 = .ok (.goto 5, 3) := by decide +kernel
theorem dX6_dueBehind_149 : decode cX6_dueBehind 149 = .ok (.bipush 6, 2) := by decide +kernel
theorem dX6_dueBehind_151 : decode cX6_dueBehind 151 = .ok (.ireturn, 1) := by decide +kernel
theorem dX6_dueBehind_152 : decode cX6_dueBehind 152 = .ok (.bipush 6, 2) := by decide +kernel
theorem dX6_dueBehind_154 : decode cX6_dueBehind 154 = .ok (.ireturn, 1) := by decide +kernel
theorem dX6_figureAt_0 : decode cX6_figureAt 0 = .ok (.iload_n 1, 1) := by decide +kernel
theorem dX6_figureAt_1 : decode cX6_figureAt 1 = .ok (.ifCond .lt 23, 3) := by decide +kernel
theorem dX6_figureAt_4 : decode cX6_figureAt 4 = .ok (.iload_n 1, 1) := by decide +kernel
theorem dX6_figureAt_5 : decode cX6_figureAt 5 = .ok (.aload_n 0, 1) := by decide +kernel
theorem dX6_figureAt_6 : decode cX6_figureAt 6 = .ok (.getfield 15, 3) := by decide +kernel
theorem dX6_figureAt_9 : decode cX6_figureAt 9 = .ok (.if_icmp .ge 15, 3) := by decide +kernel
theorem dX6_figureAt_12 : decode cX6_figureAt 12 = .ok (.aload_n 0, 1) := by decide +kernel
theorem dX6_figureAt_13 : decode cX6_figureAt 13 = .ok (.getfield 9, 3) := by decide +kernel
theorem dX6_figureAt_16 : decode cX6_figureAt 16 = .ok (.iload_n 1, 1) := by decide +kernel
theorem dX6_figureAt_17 : decode cX6_figureAt 17 = .ok (.iaload, 1) := by decide +kernel
theorem dX6_figureAt_18 : decode cX6_figureAt 18 = .ok (.bipush 48, 2) := by decide +kernel
theorem dX6_figureAt_20 : decode cX6_figureAt 20 = .ok (.isub, 1) := by decide +kernel
theorem dX6_figureAt_21 : decode cX6_figureAt 21 = .ok (.goto 4, 3) := by decide +kernel
theorem dX6_figureAt_24 : decode cX6_figureAt 24 = .ok (.iconst 0, 1) := by decide +kernel
theorem dX6_figureAt_25 : decode cX6_figureAt 25 = .ok (.ireturn, 1) := by decide +kernel
theorem dJ6_bitCount_0f7a4_0 : decode cJ6_bitCount_0f7a4 0 = .ok (.iload_n 0, 1) := by decide +kernel
theorem dJ6_bitCount_0f7a4_1 : decode cJ6_bitCount_0f7a4 1 = .ok (.iload_n 0, 1) := by decide +kernel
theorem dJ6_bitCount_0f7a4_2 : decode cJ6_bitCount_0f7a4 2 = .ok (.iconst 1, 1) := by decide +kernel
theorem dJ6_bitCount_0f7a4_3 : decode cJ6_bitCount_0f7a4 3 = .ok (.iushr, 1) := by decide +kernel
theorem dJ6_bitCount_0f7a4_4 : decode cJ6_bitCount_0f7a4 4 = .ok (.ldc_w 265, 3) := by decide +kernel
theorem dJ6_bitCount_0f7a4_7 : decode cJ6_bitCount_0f7a4 7 = .ok (.iand, 1) := by decide +kernel
theorem dJ6_bitCount_0f7a4_8 : decode cJ6_bitCount_0f7a4 8 = .ok (.isub, 1) := by decide +kernel
theorem dJ6_bitCount_0f7a4_9 : decode cJ6_bitCount_0f7a4 9 = .ok (.istore_n 0, 1) := by decide +kernel
theorem dJ6_bitCount_0f7a4_10 : decode cJ6_bitCount_0f7a4 10 = .ok (.iload_n 0, 1) := by decide +kernel
theorem dJ6_bitCount_0f7a4_11 : decode cJ6_bitCount_0f7a4 11 = .ok (.ldc_w 266, 3) := by decide +kernel
theorem dJ6_bitCount_0f7a4_14 : decode cJ6_bitCount_0f7a4 14 = .ok (.iand, 1) := by decide +kernel
theorem dJ6_bitCount_0f7a4_15 : decode cJ6_bitCount_0f7a4 15 = .ok (.iload_n 0, 1) := by decide +kernel
theorem dJ6_bitCount_0f7a4_16 : decode cJ6_bitCount_0f7a4 16 = .ok (.iconst 2, 1) := by decide +kernel
theorem dJ6_bitCount_0f7a4_17 : decode cJ6_bitCount_0f7a4 17 = .ok (.iushr, 1) := by decide +kernel
theorem dJ6_bitCount_0f7a4_18 : decode cJ6_bitCount_0f7a4 18 = .ok (.ldc_w 266, 3) := by decide +kernel
theorem dJ6_bitCount_0f7a4_21 : decode cJ6_bitCount_0f7a4 21 = .ok (.iand, 1) := by decide +kernel
theorem dJ6_bitCount_0f7a4_22 : decode cJ6_bitCount_0f7a4 22 = .ok (.iadd, 1) := by decide +kernel
theorem dJ6_bitCount_0f7a4_23 : decode cJ6_bitCount_0f7a4 23 = .ok (.istore_n 0, 1) := by decide +kernel
theorem dJ6_bitCount_0f7a4_24 : decode cJ6_bitCount_0f7a4 24 = .ok (.iload_n 0, 1) := by decide +kernel
theorem dJ6_bitCount_0f7a4_25 : decode cJ6_bitCount_0f7a4 25 = .ok (.iload_n 0, 1) := by decide +kernel
theorem dJ6_bitCount_0f7a4_26 : decode cJ6_bitCount_0f7a4 26 = .ok (.iconst 4, 1) := by decide +kernel
theorem dJ6_bitCount_0f7a4_27 : decode cJ6_bitCount_0f7a4 27 = .ok (.iushr, 1) := by decide +kernel
theorem dJ6_bitCount_0f7a4_28 : decode cJ6_bitCount_0f7a4 28 = .ok (.iadd, 1) := by decide +kernel
theorem dJ6_bitCount_0f7a4_29 : decode cJ6_bitCount_0f7a4 29 = .ok (.ldc_w 267, 3) := by decide +kernel
theorem dJ6_bitCount_0f7a4_32 : decode cJ6_bitCount_0f7a4 32 = .ok (.iand, 1) := by decide +kernel
theorem dJ6_bitCount_0f7a4_33 : decode cJ6_bitCount_0f7a4 33 = .ok (.istore_n 0, 1) := by decide +kernel
theorem dJ6_bitCount_0f7a4_34 : decode cJ6_bitCount_0f7a4 34 = .ok (.iload_n 0, 1) := by decide +kernel
theorem dJ6_bitCount_0f7a4_35 : decode cJ6_bitCount_0f7a4 35 = .ok (.iload_n 0, 1) := by decide +kernel
theorem dJ6_bitCount_0f7a4_36 : decode cJ6_bitCount_0f7a4 36 = .ok (.bipush 8, 2) := by decide +kernel
theorem dJ6_bitCount_0f7a4_38 : decode cJ6_bitCount_0f7a4 38 = .ok (.iushr, 1) := by decide +kernel
theorem dJ6_bitCount_0f7a4_39 : decode cJ6_bitCount_0f7a4 39 = .ok (.iadd, 1) := by decide +kernel
theorem dJ6_bitCount_0f7a4_40 : decode cJ6_bitCount_0f7a4 40 = .ok (.istore_n 0, 1) := by decide +kernel
theorem dJ6_bitCount_0f7a4_41 : decode cJ6_bitCount_0f7a4 41 = .ok (.iload_n 0, 1) := by decide +kernel
theorem dJ6_bitCount_0f7a4_42 : decode cJ6_bitCount_0f7a4 42 = .ok (.iload_n 0, 1) := by decide +kernel
theorem dJ6_bitCount_0f7a4_43 : decode cJ6_bitCount_0f7a4 43 = .ok (.bipush 16, 2) := by decide +kernel
theorem dJ6_bitCount_0f7a4_45 : decode cJ6_bitCount_0f7a4 45 = .ok (.iushr, 1) := by decide +kernel
theorem dJ6_bitCount_0f7a4_46 : decode cJ6_bitCount_0f7a4 46 = .ok (.iadd, 1) := by decide +kernel
theorem dJ6_bitCount_0f7a4_47 : decode cJ6_bitCount_0f7a4 47 = .ok (.istore_n 0, 1) := by decide +kernel
theorem dJ6_bitCount_0f7a4_48 : decode cJ6_bitCount_0f7a4 48 = .ok (.iload_n 0, 1) := by decide +kernel
theorem dJ6_bitCount_0f7a4_49 : decode cJ6_bitCount_0f7a4 49 = .ok (.bipush 63, 2) := by decide +kernel
theorem dJ6_bitCount_0f7a4_51 : decode cJ6_bitCount_0f7a4 51 = .ok (.iand, 1) := by decide +kernel
theorem dJ6_bitCount_0f7a4_52 : decode cJ6_bitCount_0f7a4 52 = .ok (.ireturn, 1) := by decide +kernel
