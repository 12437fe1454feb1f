theorem dX0_init_0 : decode cX0_init 0 = .ok (.aload_n 0, 1) := by decide +kernel
theorem dX0_init_1 : decode cX0_init 1 = .ok (.invokespecial 3, 3) := by decide +kernel
theorem dX0_init_4 : decode cX0_init 4 = .ok (.aload_n 0, 1) := by decide +kernel
theorem dX0_init_5 : decode cX0_init 5 = .ok (.bipush 6, 2) := by decide +kernel
theorem dX0_init_7 : decode cX0_init 7 = .ok (.newarray .int, 2) := by decide +kernel
theorem dX0_init_9 : decode cX0_init 9 = .ok (.putfield 9, 3) := by decide +kernel
theorem dX0_init_12 : decode cX0_init 12 = .ok (.aload_n 0, 1) := by decide +kernel
theorem dX0_init_13 : decode cX0_init 13 = .ok (.bipush 6, 2) := by decide +kernel
theorem dX0_init_15 : decode cX0_init 15 = .ok (.newarray .int, 2) := by decide +kernel
theorem dX0_init_17 : decode cX0_init 17 = .ok (.putfield 15, 3) := by decide +kernel
theorem dX0_init_20 : decode cX0_init 20 = .ok (.aload_n 0, 1) := by decide +kernel
theorem dX0_init_21 : decode cX0_init 21 = .ok (.sipush 384, 3) := by decide +kernel
theorem dX0_init_24 : decode cX0_init 24 = .ok (.newarray .int, 2) := by decide +kernel
theorem dX0_init_26 : decode cX0_init 26 = .ok (.putfield 18, 3) := by decide +kernel
theorem dX0_init_29 : decode cX0_init 29 = .ok (.aload_n 0, 1) := by decide +kernel
theorem dX0_init_30 : decode cX0_init 30 = .ok (.sipush 384, 3) := by decide +kernel
theorem dX0_init_33 : decode cX0_init 33 = .ok (.newarray .int, 2) := by decide +kernel
theorem dX0_init_35 : decode cX0_init 35 = .ok (.putfield 21, 3) := by decide +kernel
theorem dX0_init_38 : decode cX0_init 38 = .ok (.aload_n 0, 1) := by decide +kernel
theorem dX0_init_39 : decode cX0_init 39 = .ok (.aload_n 1, 1) := by decide +kernel
theorem dX0_init_40 : decode cX0_init 40 = .ok (.putfield 24, 3) := by decide +kernel
theorem dX0_init_43 : decode cX0_init 43 = .ok (.return_, 1) := by decide +kernel
theorem dX0_begin_0 : decode cX0_begin 0 = .ok (.aload_n 0, 1) := by decide +kernel
theorem dX0_begin_1 : decode cX0_begin 1 = .ok (.aload_n 1, 1) := by decide +kernel
theorem dX0_begin_2 : decode cX0_begin 2 = .ok (.putfield 24, 3) := by decide +kernel
theorem dX0_begin_5 : decode cX0_begin 5 = .ok (.aload_n 0, 1) := by decide +kernel
theorem dX0_begin_6 : decode cX0_begin 6 = .ok (.iconst (-1), 1) := by decide +kernel
theorem dX0_begin_7 : decode cX0_begin 7 = .ok (.putfield 28, 3) := by decide +kernel
theorem dX0_begin_10 : decode cX0_begin 10 = .ok (.iconst 0, 1) := by decide +kernel
theorem dX0_begin_11 : decode cX0_begin 11 = .ok (.istore_n 2, 1) := by decide +kernel
theorem dX0_begin_12 : decode cX0_begin 12 = .ok (.iload_n 2, 1) := by decide +kernel
theorem dX0_begin_13 : decode cX0_begin 13 = .ok (.iconst 1, 1) := by decide +kernel
theorem dX0_begin_14 : decode cX0_begin 14 = .ok (.aload_n 0, 1) := by decide +kernel
theorem dX0_begin_15 : decode cX0_begin 15 = .ok (.getfield 24, 3) := by decide +kernel
theorem dX0_begin_18 : decode cX0_begin 18 = .ok (.getfield 32, 3) := by decide +kernel
theorem dX0_begin_21 : decode cX0_begin 21 = .ok (.ishl, 1) := by decide +kernel
theorem dX0_begin_22 : decode cX0_begin 22 = .ok (.if_icmp .ge 47, 3) := by decide +kernel
theorem dX0_begin_25 : decode cX0_begin 25 = .ok (.aload_n 0, 1) := by decide +kernel
theorem dX0_begin_26 : decode cX0_begin 26 = .ok (.iload_n 2, 1) := by decide +kernel
theorem dX0_begin_27 : decode cX0_begin 27 = .ok (.bipush 63, 2) := by decide +kernel
theorem dX0_begin_29 : decode cX0_begin 29 = .ok (.invokevirtual 37, 3) := by decide +kernel
theorem dX0_begin_32 : decode cX0_begin 32 = .ok (.aload_n 0, 1) := by decide +kernel
theorem dX0_begin_33 : decode cX0_begin 33 = .ok (.aload_n 0, 1) := by decide +kernel
theorem dX0_begin_34 : decode cX0_begin 34 = .ok (.getfield 24, 3) := by decide +kernel
theorem dX0_begin_37 : decode cX0_begin 37 = .ok (.iload_n 2, 1) := by decide +kernel
theorem dX0_begin_38 : decode cX0_begin 38 = .ok (.invokevirtual 41, 3) := by decide +kernel
theorem dX0_begin_41 : decode cX0_begin 41 = .ok (.iconst (-1), 1) := by decide +kernel
theorem dX0_begin_42 : decode cX0_begin 42 = .ok (.invokevirtual 45, 3) := by decide +kernel
theorem dX0_begin_45 : decode cX0_begin 45 = .ok (.aload_n 0, 1) := by decide +kernel
theorem dX0_begin_46 : decode cX0_begin 46 = .ok (.getfield 15, 3) := by decide +kernel
theorem dX0_begin_49 : decode cX0_begin 49 = .ok (.iconst 0, 1) := by decide +kernel
theorem dX0_begin_50 : decode cX0_begin 50 = .ok (.aload_n 0, 1) := by decide +kernel
theorem dX0_begin_51 : decode cX0_begin 51 = .ok (.getfield 18, 3) := by decide +kernel
theorem dX0_begin_54 : decode cX0_begin 54 = .ok (.iload_n 2, 1) := by decide +kernel
theorem dX0_begin_55 : decode cX0_begin 55 = .ok (.bipush 6, 2) := by decide +kernel
theorem dX0_begin_57 : decode cX0_begin 57 = .ok (.imul, 1) := by decide +kernel
theorem dX0_begin_58 : decode cX0_begin 58 = .ok (.bipush 6, 2) := by decide +kernel
theorem dX0_begin_60 : decode cX0_begin 60 = .ok (.invokestatic 48, 3) := by decide +kernel
theorem dX0_begin_63 : decode cX0_begin 63 = .ok (.iinc 2 1, 3) := by decide +kernel
theorem dX0_begin_66 : decode cX0_begin 66 = .ok (.goto (-54), 3) := by decide +kernel
theorem dX0_begin_69 : decode cX0_begin 69 = .ok (.return_, 1) := by decide +kernel
theorem dX0_causes_0 : decode cX0_causes 0 = .ok (.iconst 0, 1) := by decide +kernel
theorem dX0_causes_1 : decode cX0_causes 1 = .ok (.istore_n 3, 1) := by decide +kernel
theorem dX0_causes_2 : decode cX0_causes 2 = .ok (.iload_n 3, 1) := by decide +kernel
theorem dX0_causes_3 : decode cX0_causes 3 = .ok (.aload_n 0, 1) := by decide +kernel
theorem dX0_causes_4 : decode cX0_causes 4 = .ok (.getfield 24, 3) := by decide +kernel
theorem dX0_causes_7 : decode cX0_causes 7 = .ok (.getfield 32, 3) := by decide +kernel
theorem dX0_causes_10 : decode cX0_causes 10 = .ok (.if_icmp .ge 49, 3) := by decide +kernel
theorem dX0_causes_13 : decode cX0_causes 13 = .ok (.aload_n 0, 1) := by decide +kernel
theorem dX0_causes_14 : decode cX0_causes 14 = .ok (.getfield 24, 3) := by decide +kernel
theorem dX0_causes_17 : decode cX0_causes 17 = .ok (.iload_n 3, 1) := by decide +kernel
theorem dX0_causes_18 : decode cX0_causes 18 = .ok (.iload_n 1, 1) := by decide +kernel
theorem dX0_causes_19 : decode cX0_causes 19 = .ok (.invokevirtual 54, 3) := by decide +kernel
theorem dX0_causes_22 : decode cX0_causes 22 = .ok (.istore 4, 2) := by decide +kernel
theorem dX0_causes_24 : decode cX0_causes 24 = .ok (.aload_n 0, 1) := by decide +kernel
theorem dX0_causes_25 : decode cX0_causes 25 = .ok (.getfield 9, 3) := by decide +kernel
theorem dX0_causes_28 : decode cX0_causes 28 = .ok (.iload_n 3, 1) := by decide +kernel
theorem dX0_causes_29 : decode cX0_causes 29 = .ok (.iload 4, 2) := by decide +kernel
theorem dX0_causes_31 : decode cX0_causes 31 = .ok (.bipush (-2), 2) := by decide +kernel
theorem dX0_causes_33 : decode cX0_causes 33 = .ok (.if_icmp .eq 11, 3) := by decide +kernel
theorem dX0_causes_36 : decode cX0_causes 36 = .ok (.iload_n 2, 1) := by decide +kernel
theorem dX0_causes_37 : decode cX0_causes 37 = .ok (.iload_n 3, 1) := by decide +kernel
theorem dX0_causes_38 : decode cX0_causes 38 = .ok (.ishr, 1) := by decide +kernel
theorem dX0_causes_39 : decode cX0_causes 39 = .ok (.iconst 1, 1) := by decide +kernel
theorem dX0_causes_40 : decode cX0_causes 40 = .ok (.iand, 1) := by decide +kernel
theorem dX0_causes_41 : decode cX0_causes 41 = .ok (.ifCond .ne 9, 3) := by decide +kernel
theorem dX0_causes_44 : decode cX0_causes 44 = .ok (.sipush 1000, 3) := by decide +kernel
theorem dX0_causes_47 : decode cX0_causes 47 = .ok (.goto 5, 3) := by decide +kernel
theorem dX0_causes_50 : decode cX0_causes 50 = .ok (.iload 4, 2) := by decide +kernel
theorem dX0_causes_52 : decode cX0_causes 52 = .ok (.iastore, 1) := by decide +kernel
theorem dX0_causes_53 : decode cX0_causes 53 = .ok (.iinc 3 1, 3) := by decide +kernel
theorem dX0_causes_56 : decode cX0_causes 56 = .ok (.goto (-54), 3) := by decide +kernel
theorem dX0_causes_59 : decode cX0_causes 59 = .ok (.return_, 1) := by decide +kernel
theorem dX0_spread_0 : decode cX0_spread 0 = .ok (.iconst 0, 1) := by decide +kernel
theorem dX0_spread_1 : decode cX0_spread 1 = .ok (.istore_n 3, 1) := by decide +kernel
theorem dX0_spread_2 : decode cX0_spread 2 = .ok (.iload_n 3, 1) := by decide +kernel
theorem dX0_spread_3 : decode cX0_spread 3 = .ok (.bipush 6, 2) := by decide +kernel
theorem dX0_spread_5 : decode cX0_spread 5 = .ok (.if_icmp .ge 38, 3) := by decide +kernel
theorem dX0_spread_8 : decode cX0_spread 8 = .ok (.aload_n 0, 1) := by decide +kernel
theorem dX0_spread_9 : decode cX0_spread 9 = .ok (.getfield 15, 3) := by decide +kernel
theorem dX0_spread_12 : decode cX0_spread 12 = .ok (.iload_n 3, 1) := by decide +kernel
theorem dX0_spread_13 : decode cX0_spread 13 = .ok (.iload_n 3, 1) := by decide +kernel
theorem dX0_spread_14 : decode cX0_spread 14 = .ok (.aload_n 0, 1) := by decide +kernel
theorem dX0_spread_15 : decode cX0_spread 15 = .ok (.getfield 24, 3) := by decide +kernel
theorem dX0_spread_18 : decode cX0_spread 18 = .ok (.getfield 32, 3) := by decide +kernel
theorem dX0_spread_21 : decode cX0_spread 21 = .ok (.if_icmp .ge 12, 3) := by decide +kernel
theorem dX0_spread_24 : decode cX0_spread 24 = .ok (.aload_n 0, 1) := by decide +kernel
theorem dX0_spread_25 : decode cX0_spread 25 = .ok (.getfield 9, 3) := by decide +kernel
theorem dX0_spread_28 : decode cX0_spread 28 = .ok (.iload_n 3, 1) := by decide +kernel
theorem dX0_spread_29 : decode cX0_spread 29 = .ok (.iaload, 1) := by decide +kernel
theorem dX0_spread_30 : decode cX0_spread 30 = .ok (.goto 6, 3) := by decide +kernel
theorem dX0_spread_33 : decode cX0_spread 33 = .ok (.sipush 1000, 3) := by decide +kernel
theorem dX0_spread_36 : decode cX0_spread 36 = .ok (.iastore, 1) := by decide +kernel
theorem dX0_spread_37 : decode cX0_spread 37 = .ok (.iinc 3 1, 3) := by decide +kernel
theorem dX0_spread_40 : decode cX0_spread 40 = .ok (.goto (-38), 3) := by decide +kernel
theorem dX0_spread_43 : decode cX0_spread 43 = .ok (.iconst 1, 1) := by decide +kernel
theorem dX0_spread_44 : decode cX0_spread 44 = .ok (.istore_n 3, 1) := by decide +kernel
theorem dX0_spread_45 : decode cX0_spread 45 = .ok (.iconst 0, 1) := by decide +kernel
theorem dX0_spread_46 : decode cX0_spread 46 = .ok (.istore 4, 2) := by decide +kernel
theorem dX0_spread_48 : decode cX0_spread 48 = .ok (.iload 4, 2) := by decide +kernel
theorem dX0_spread_50 : decode cX0_spread 50 = .ok (.bipush 6, 2) := by decide +kernel
theorem dX0_spread_52 : decode cX0_spread 52 = .ok (.if_icmp .ge 118, 3) := by decide +kernel
theorem dX0_spread_55 : decode cX0_spread 55 = .ok (.iload_n 3, 1) := by decide +kernel
theorem dX0_spread_56 : decode cX0_spread 56 = .ok (.ifCond .eq 114, 3) := by decide +kernel
theorem dX0_spread_59 : decode cX0_spread 59 = .ok (.iconst 0, 1) := by decide +kernel
theorem dX0_spread_60 : decode cX0_spread 60 = .ok (.istore_n 3, 1) := by decide +kernel
theorem dX0_spread_61 : decode cX0_spread 61 = .ok (.iconst 0, 1) := by decide +kernel
theorem dX0_spread_62 : decode cX0_spread 62 = .ok (.istore 5, 2) := by decide +kernel
theorem dX0_spread_64 : decode cX0_spread 64 = .ok (.iload 5, 2) := by decide +kernel
theorem dX0_spread_66 : decode cX0_spread 66 = .ok (.aload_n 0, 1) := by decide +kernel
theorem dX0_spread_67 : decode cX0_spread 67 = .ok (.getfield 24, 3) := by decide +kernel
theorem dX0_spread_70 : decode cX0_spread 70 = .ok (.getfield 58, 3) := by decide +kernel
theorem dX0_spread_73 : decode cX0_spread 73 = .ok (.if_icmp .ge 91, 3) := by decide +kernel
theorem dX0_spread_76 : decode cX0_spread 76 = .ok (.aload_n 0, 1) := by decide +kernel
theorem dX0_spread_77 : decode cX0_spread 77 = .ok (.getfield 24, 3) := by decide +kernel
theorem dX0_spread_80 : decode cX0_spread 80 = .ok (.getfield 61, 3) := by decide +kernel
theorem dX0_spread_83 : decode cX0_spread 83 = .ok (.iload 5, 2) := by decide +kernel
theorem dX0_spread_85 : decode cX0_spread 85 = .ok (.iaload, 1) := by decide +kernel
theorem dX0_spread_86 : decode cX0_spread 86 = .ok (.istore 6, 2) := by decide +kernel
theorem dX0_spread_88 : decode cX0_spread 88 = .ok (.aload_n 0, 1) := by decide +kernel
theorem dX0_spread_89 : decode cX0_spread 89 = .ok (.getfield 24, 3) := by decide +kernel
theorem dX0_spread_92 : decode cX0_spread 92 = .ok (.getfield 64, 3) := by decide +kernel
theorem dX0_spread_95 : decode cX0_spread 95 = .ok (.iload 5, 2) := by decide +kernel
theorem dX0_spread_97 : decode cX0_spread 97 = .ok (.iaload, 1) := by decide +kernel
theorem dX0_spread_98 : decode cX0_spread 98 = .ok (.istore 7, 2) := by decide +kernel
theorem dX0_spread_100 : decode cX0_spread 100 = .ok (.aload_n 0, 1) := by decide +kernel
theorem dX0_spread_101 : decode cX0_spread 101 = .ok (.getfield 15, 3) := by decide +kernel
theorem dX0_spread_104 : decode cX0_spread 104 = .ok (.iload 6, 2) := by decide +kernel
theorem dX0_spread_106 : decode cX0_spread 106 = .ok (.iaload, 1) := by decide +kernel
theorem dX0_spread_107 : decode cX0_spread 107 = .ok (.aload_n 0, 1) := by decide +kernel
theorem dX0_spread_108 : decode cX0_spread 108 = .ok (.getfield 24, 3) := by decide +kernel
theorem dX0_spread_111 : decode cX0_spread 111 = .ok (.getfield 67, 3) := by decide +kernel
theorem dX0_spread_114 : decode cX0_spread 114 = .ok (.iload 5, 2) := by decide +kernel
theorem dX0_spread_116 : decode cX0_spread 116 = .ok (.iaload, 1) := by decide +kernel
theorem dX0_spread_117 : decode cX0_spread 117 = .ok (.iadd, 1) := by decide +kernel
theorem dX0_spread_118 : decode cX0_spread 118 = .ok (.istore 8, 2) := by decide +kernel
theorem dX0_spread_120 : decode cX0_spread 120 = .ok (.iload 5, 2) := by decide +kernel
theorem dX0_spread_122 : decode cX0_spread 122 = .ok (.iload_n 2, 1) := by decide +kernel
theorem dX0_spread_123 : decode cX0_spread 123 = .ok (.if_icmp .eq 35, 3) := by decide +kernel
theorem dX0_spread_126 : decode cX0_spread 126 = .ok (.iload_n 1, 1) := by decide +kernel
theorem dX0_spread_127 : decode cX0_spread 127 = .ok (.iload 6, 2) := by decide +kernel
theorem dX0_spread_129 : decode cX0_spread 129 = .ok (.ishr, 1) := by decide +kernel
theorem dX0_spread_130 : decode cX0_spread 130 = .ok (.iconst 1, 1) := by decide +kernel
theorem dX0_spread_131 : decode cX0_spread 131 = .ok (.iand, 1) := by decide +kernel
theorem dX0_spread_132 : decode cX0_spread 132 = .ok (.ifCond .ne 26, 3) := by decide +kernel
theorem dX0_spread_135 : decode cX0_spread 135 = .ok (.iload 8, 2) := by decide +kernel
theorem dX0_spread_137 : decode cX0_spread 137 = .ok (.aload_n 0, 1) := by decide +kernel
theorem dX0_spread_138 : decode cX0_spread 138 = .ok (.getfield 15, 3) := by decide +kernel
theorem dX0_spread_141 : decode cX0_spread 141 = .ok (.iload 7, 2) := by decide +kernel
theorem dX0_spread_143 : decode cX0_spread 143 = .ok (.iaload, 1) := by decide +kernel
theorem dX0_spread_144 : decode cX0_spread 144 = .ok (.if_icmp .ge 14, 3) := by decide +kernel
theorem dX0_spread_147 : decode cX0_spread 147 = .ok (.aload_n 0, 1) := by decide +kernel
theorem dX0_spread_148 : decode cX0_spread 148 = .ok (.getfield 15, 3) := by decide +kernel
theorem dX0_spread_151 : decode cX0_spread 151 = .ok (.iload 7, 2) := by decide +kernel
theorem dX0_spread_153 : decode cX0_spread 153 = .ok (.iload 8, 2) := by decide +kernel
theorem dX0_spread_155 : decode cX0_spread 155 = .ok (.iastore, 1) := by decide +kernel
theorem dX0_spread_156 : decode cX0_spread 156 = .ok (.iconst 1, 1) := by decide +kernel
theorem dX0_spread_157 : decode cX0_spread 157 = .ok (.istore_n 3, 1) := by decide +kernel
theorem dX0_spread_158 : decode cX0_spread 158 = .ok (.iinc 5 1, 3) := by decide +kernel
theorem dX0_spread_161 : decode cX0_spread 161 = .ok (.goto (-97), 3) := by decide +kernel
theorem dX0_spread_164 : decode cX0_spread 164 = .ok (.iinc 4 1, 3) := by decide +kernel
theorem dX0_spread_167 : decode cX0_spread 167 = .ok (.goto (-119), 3) := by decide +kernel
theorem dX0_spread_170 : decode cX0_spread 170 = .ok (.return_, 1) := by decide +kernel
theorem dX0_guess_0 : decode cX0_guess 0 = .ok (.aload_n 0, 1) := by decide +kernel
theorem dX0_guess_1 : decode cX0_guess 1 = .ok (.iconst 0, 1) := by decide +kernel
theorem dX0_guess_2 : decode cX0_guess 2 = .ok (.bipush 63, 2) := by decide +kernel
theorem dX0_guess_4 : decode cX0_guess 4 = .ok (.invokevirtual 37, 3) := by decide +kernel
theorem dX0_guess_7 : decode cX0_guess 7 = .ok (.iconst 0, 1) := by decide +kernel
theorem dX0_guess_8 : decode cX0_guess 8 = .ok (.istore_n 3, 1) := by decide +kernel
theorem dX0_guess_9 : decode cX0_guess 9 = .ok (.iload_n 3, 1) := by decide +kernel
theorem dX0_guess_10 : decode cX0_guess 10 = .ok (.iload_n 2, 1) := by decide +kernel
theorem dX0_guess_11 : decode cX0_guess 11 = .ok (.if_icmp .ge 51, 3) := by decide +kernel
theorem dX0_guess_14 : decode cX0_guess 14 = .ok (.iload_n 3, 1) := by decide +kernel
theorem dX0_guess_15 : decode cX0_guess 15 = .ok (.aload_n 0, 1) := by decide +kernel
theorem dX0_guess_16 : decode cX0_guess 16 = .ok (.getfield 24, 3) := by decide +kernel
theorem dX0_guess_19 : decode cX0_guess 19 = .ok (.getfield 70, 3) := by decide +kernel
theorem dX0_guess_22 : decode cX0_guess 22 = .ok (.if_icmp .ge 40, 3) := by decide +kernel
theorem dX0_guess_25 : decode cX0_guess 25 = .ok (.aload_n 0, 1) := by decide +kernel
theorem dX0_guess_26 : decode cX0_guess 26 = .ok (.getfield 9, 3) := by decide +kernel
theorem dX0_guess_29 : decode cX0_guess 29 = .ok (.aload_n 0, 1) := by decide +kernel
theorem dX0_guess_30 : decode cX0_guess 30 = .ok (.getfield 24, 3) := by decide +kernel
theorem dX0_guess_33 : decode cX0_guess 33 = .ok (.getfield 73, 3) := by decide +kernel
theorem dX0_guess_36 : decode cX0_guess 36 = .ok (.iload_n 3, 1) := by decide +kernel
theorem dX0_guess_37 : decode cX0_guess 37 = .ok (.iaload, 1) := by decide +kernel
theorem dX0_guess_38 : decode cX0_guess 38 = .ok (.aload_n 1, 1) := by decide +kernel
theorem dX0_guess_39 : decode cX0_guess 39 = .ok (.iload_n 3, 1) := by decide +kernel
theorem dX0_guess_40 : decode cX0_guess 40 = .ok (.iaload, 1) := by decide +kernel
theorem dX0_guess_41 : decode cX0_guess 41 = .ok (.bipush (-2), 2) := by decide +kernel
theorem dX0_guess_43 : decode cX0_guess 43 = .ok (.if_icmp .ne 9, 3) := by decide +kernel
theorem dX0_guess_46 : decode cX0_guess 46 = .ok (.sipush 1000, 3) := by decide +kernel
theorem dX0_guess_49 : decode cX0_guess 49 = .ok (.goto 6, 3) := by decide +kernel
theorem dX0_guess_52 : decode cX0_guess 52 = .ok (.aload_n 1, 1) := by decide +kernel
theorem dX0_guess_53 : decode cX0_guess 53 = .ok (.iload_n 3, 1) := by decide +kernel
theorem dX0_guess_54 : decode cX0_guess 54 = .ok (.iaload, 1) := by decide +kernel
theorem dX0_guess_55 : decode cX0_guess 55 = .ok (.iastore, 1) := by decide +kernel
theorem dX0_guess_56 : decode cX0_guess 56 = .ok (.iinc 3 1, 3) := by decide +kernel
theorem dX0_guess_59 : decode cX0_guess 59 = .ok (.goto (-50), 3) := by decide +kernel
theorem dX0_guess_62 : decode cX0_guess 62 = .ok (.aload_n 0, 1) := by decide +kernel
theorem dX0_guess_63 : decode cX0_guess 63 = .ok (.iconst 0, 1) := by decide +kernel
theorem dX0_guess_64 : decode cX0_guess 64 = .ok (.iconst (-1), 1) := by decide +kernel
theorem dX0_guess_65 : decode cX0_guess 65 = .ok (.invokevirtual 45, 3) := by decide +kernel
theorem dX0_guess_68 : decode cX0_guess 68 = .ok (.return_, 1) := by decide +kernel
theorem dX0_burnWithout_0 : decode cX0_burnWithout 0 = .ok (.aload_n 0, 1) := by decide +kernel
theorem dX0_burnWithout_1 : decode cX0_burnWithout 1 = .ok (.iload_n 1, 1) := by decide +kernel
theorem dX0_burnWithout_2 : decode cX0_burnWithout 2 = .ok (.bipush 63, 2) := by decide +kernel
theorem dX0_burnWithout_4 : decode cX0_burnWithout 4 = .ok (.invokevirtual 37, 3) := by decide +kernel
theorem dX0_burnWithout_7 : decode cX0_burnWithout 7 = .ok (.aload_n 0, 1) := by decide +kernel
theorem dX0_burnWithout_8 : decode cX0_burnWithout 8 = .ok (.aload_n 0, 1) := by decide +kernel
theorem dX0_burnWithout_9 : decode cX0_burnWithout 9 = .ok (.getfield 24, 3) := by decide +kernel
theorem dX0_burnWithout_12 : decode cX0_burnWithout 12 = .ok (.iload_n 1, 1) := by decide +kernel
theorem dX0_burnWithout_13 : decode cX0_burnWithout 13 = .ok (.invokevirtual 41, 3) := by decide +kernel
theorem dX0_burnWithout_16 : decode cX0_burnWithout 16 = .ok (.iload_n 2, 1) := by decide +kernel
theorem dX0_burnWithout_17 : decode cX0_burnWithout 17 = .ok (.invokevirtual 45, 3) := by decide +kernel
theorem dX0_burnWithout_20 : decode cX0_burnWithout 20 = .ok (.iconst 0, 1) := by decide +kernel
theorem dX0_burnWithout_21 : decode cX0_burnWithout 21 = .ok (.istore_n 3, 1) := by decide +kernel
theorem dX0_burnWithout_22 : decode cX0_burnWithout 22 = .ok (.iconst 0, 1) := by decide +kernel
theorem dX0_burnWithout_23 : decode cX0_burnWithout 23 = .ok (.istore 4, 2) := by decide +kernel
theorem dX0_burnWithout_25 : decode cX0_burnWithout 25 = .ok (.iload 4, 2) := by decide +kernel
theorem dX0_burnWithout_27 : decode cX0_burnWithout 27 = .ok (.aload_n 0, 1) := by decide +kernel
theorem dX0_burnWithout_28 : decode cX0_burnWithout 28 = .ok (.getfield 24, 3) := by decide +kernel
theorem dX0_burnWithout_31 : decode cX0_burnWithout 31 = .ok (.getfield 32, 3) := by decide +kernel
theorem dX0_burnWithout_34 : decode cX0_burnWithout 34 = .ok (.if_icmp .ge 25, 3) := by decide +kernel
theorem dX0_burnWithout_37 : decode cX0_burnWithout 37 = .ok (.aload_n 0, 1) := by decide +kernel
theorem dX0_burnWithout_38 : decode cX0_burnWithout 38 = .ok (.getfield 15, 3) := by decide +kernel
theorem dX0_burnWithout_41 : decode cX0_burnWithout 41 = .ok (.iload 4, 2) := by decide +kernel
theorem dX0_burnWithout_43 : decode cX0_burnWithout 43 = .ok (.iaload, 1) := by decide +kernel
theorem dX0_burnWithout_44 : decode cX0_burnWithout 44 = .ok (.sipush 1000, 3) := by decide +kernel
theorem dX0_burnWithout_47 : decode cX0_burnWithout 47 = .ok (.if_icmp .ge 6, 3) := by decide +kernel
theorem dX0_burnWithout_50 : decode cX0_burnWithout 50 = .ok (.iinc 3 1, 3) := by decide +kernel
theorem dX0_burnWithout_53 : decode cX0_burnWithout 53 = .ok (.iinc 4 1, 3) := by decide +kernel
theorem dX0_burnWithout_56 : decode cX0_burnWithout 56 = .ok (.goto (-31), 3) := by decide +kernel
theorem dX0_burnWithout_59 : decode cX0_burnWithout 59 = .ok (.iload_n 3, 1) := by decide +kernel
theorem dX0_burnWithout_60 : decode cX0_burnWithout 60 = .ok (.ireturn, 1) := by decide +kernel
theorem dX0_dayOf_0 : decode cX0_dayOf 0 = .ok (.aload_n 0, 1) := by decide +kernel
theorem dX0_dayOf_1 : decode cX0_dayOf 1 = .ok (.getfield 18, 3) := by decide +kernel
theorem dX0_dayOf_4 : decode cX0_dayOf 4 = .ok (.iload_n 1, 1) := by decide +kernel
theorem dX0_dayOf_5 : decode cX0_dayOf 5 = .ok (.bipush 6, 2) := by decide +kernel
theorem dX0_dayOf_7 : decode cX0_dayOf 7 = .ok (.imul, 1) := by decide +kernel
theorem dX0_dayOf_8 : decode cX0_dayOf 8 = .ok (.iload_n 2, 1) := by decide +kernel
theorem dX0_dayOf_9 : decode cX0_dayOf 9 = .ok (.iadd, 1) := by decide +kernel
theorem dX0_dayOf_10 : decode cX0_dayOf 10 = .ok (.iaload, 1) := by decide +kernel
theorem dX0_dayOf_11 : decode cX0_dayOf 11 = .ok (.ireturn, 1) := by decide +kernel
theorem dX0_burntBy_0 : decode cX0_burntBy 0 = .ok (.aload_n 0, 1) := by decide +kernel
theorem dX0_burntBy_1 : decode cX0_burntBy 1 = .ok (.aload_n 0, 1) := by decide +kernel
theorem dX0_burntBy_2 : decode cX0_burntBy 2 = .ok (.getfield 18, 3) := by decide +kernel
theorem dX0_burntBy_5 : decode cX0_burntBy 5 = .ok (.iload_n 1, 1) := by decide +kernel
theorem dX0_burntBy_6 : decode cX0_burntBy 6 = .ok (.iload_n 2, 1) := by decide +kernel
theorem dX0_burntBy_7 : decode cX0_burntBy 7 = .ok (.invokevirtual 76, 3) := by decide +kernel
theorem dX0_burntBy_10 : decode cX0_burntBy 10 = .ok (.ireturn, 1) := by decide +kernel
theorem dX0_soonest_0 : decode cX0_soonest 0 = .ok (.aload_n 0, 1) := by decide +kernel
theorem dX0_soonest_1 : decode cX0_soonest 1 = .ok (.aload_n 0, 1) := by decide +kernel
theorem dX0_soonest_2 : decode cX0_soonest 2 = .ok (.getfield 18, 3) := by decide +kernel
theorem dX0_soonest_5 : decode cX0_soonest 5 = .ok (.iload_n 1, 1) := by decide +kernel
theorem dX0_soonest_6 : decode cX0_soonest 6 = .ok (.iload_n 2, 1) := by decide +kernel
theorem dX0_soonest_7 : decode cX0_soonest 7 = .ok (.iload_n 3, 1) := by decide +kernel
theorem dX0_soonest_8 : decode cX0_soonest 8 = .ok (.invokevirtual 80, 3) := by decide +kernel
theorem dX0_soonest_11 : decode cX0_soonest 11 = .ok (.ireturn, 1) := by decide +kernel
theorem dX0_agreeing_0 : decode cX0_agreeing 0 = .ok (.iconst 0, 1) := by decide +kernel
theorem dX0_agreeing_1 : decode cX0_agreeing 1 = .ok (.istore 4, 2) := by decide +kernel
theorem dX0_agreeing_3 : decode cX0_agreeing 3 = .ok (.iconst 0, 1) := by decide +kernel
theorem dX0_agreeing_4 : decode cX0_agreeing 4 = .ok (.istore 5, 2) := by decide +kernel
theorem dX0_agreeing_6 : decode cX0_agreeing 6 = .ok (.iload 5, 2) := by decide +kernel
theorem dX0_agreeing_8 : decode cX0_agreeing 8 = .ok (.aload_n 0, 1) := by decide +kernel
theorem dX0_agreeing_9 : decode cX0_agreeing 9 = .ok (.getfield 24, 3) := by decide +kernel
theorem dX0_agreeing_12 : decode cX0_agreeing 12 = .ok (.getfield 32, 3) := by decide +kernel
theorem dX0_agreeing_15 : decode cX0_agreeing 15 = .ok (.if_icmp .ge 46, 3) := by decide +kernel
theorem dX0_agreeing_18 : decode cX0_agreeing 18 = .ok (.aload_n 0, 1) := by decide +kernel
theorem dX0_agreeing_19 : decode cX0_agreeing 19 = .ok (.iload_n 1, 1) := by decide +kernel
theorem dX0_agreeing_20 : decode cX0_agreeing 20 = .ok (.iload 5, 2) := by decide +kernel
theorem dX0_agreeing_22 : decode cX0_agreeing 22 = .ok (.invokevirtual 84, 3) := by decide +kernel
theorem dX0_agreeing_25 : decode cX0_agreeing 25 = .ok (.iload_n 3, 1) := by decide +kernel
theorem dX0_agreeing_26 : decode cX0_agreeing 26 = .ok (.if_icmp .le 29, 3) := by decide +kernel
theorem dX0_agreeing_29 : decode cX0_agreeing 29 = .ok (.aload_n 0, 1) := by decide +kernel
theorem dX0_agreeing_30 : decode cX0_agreeing 30 = .ok (.iload_n 1, 1) := by decide +kernel
theorem dX0_agreeing_31 : decode cX0_agreeing 31 = .ok (.iconst 1, 1) := by decide +kernel
theorem dX0_agreeing_32 : decode cX0_agreeing 32 = .ok (.iload 5, 2) := by decide +kernel
theorem dX0_agreeing_34 : decode cX0_agreeing 34 = .ok (.ishl, 1) := by decide +kernel
theorem dX0_agreeing_35 : decode cX0_agreeing 35 = .ok (.ior, 1) := by decide +kernel
theorem dX0_agreeing_36 : decode cX0_agreeing 36 = .ok (.iload_n 2, 1) := by decide +kernel
theorem dX0_agreeing_37 : decode cX0_agreeing 37 = .ok (.iload_n 3, 1) := by decide +kernel
theorem dX0_agreeing_38 : decode cX0_agreeing 38 = .ok (.invokevirtual 87, 3) := by decide +kernel
theorem dX0_agreeing_41 : decode cX0_agreeing 41 = .ok (.iload 5, 2) := by decide +kernel
theorem dX0_agreeing_43 : decode cX0_agreeing 43 = .ok (.if_icmp .ne 12, 3) := by decide +kernel
theorem dX0_agreeing_46 : decode cX0_agreeing 46 = .ok (.iload 4, 2) := by decide +kernel
theorem dX0_agreeing_48 : decode cX0_agreeing 48 = .ok (.iconst 1, 1) := by decide +kernel
theorem dX0_agreeing_49 : decode cX0_agreeing 49 = .ok (.iload 5, 2) := by decide +kernel
theorem dX0_agreeing_51 : decode cX0_agreeing 51 = .ok (.ishl, 1) := by decide +kernel
theorem dX0_agreeing_52 : decode cX0_agreeing 52 = .ok (.ior, 1) := by decide +kernel
theorem dX0_agreeing_53 : decode cX0_agreeing 53 = .ok (.istore 4, 2) := by decide +kernel
theorem dX0_agreeing_55 : decode cX0_agreeing 55 = .ok (.iinc 5 1, 3) := by decide +kernel
theorem dX0_agreeing_58 : decode cX0_agreeing 58 = .ok (.goto (-52), 3) := by decide +kernel
theorem dX0_agreeing_61 : decode cX0_agreeing 61 = .ok (.iload 4, 2) := by decide +kernel
theorem dX0_agreeing_63 : decode cX0_agreeing 63 = .ok (.ireturn, 1) := by decide +kernel
theorem dX0_lighter_0 : decode cX0_lighter 0 = .ok (.aload_n 0, 1) := by decide +kernel
theorem dX0_lighter_1 : decode cX0_lighter 1 = .ok (.iload_n 1, 1) := by decide +kernel
theorem dX0_lighter_2 : decode cX0_lighter 2 = .ok (.iload_n 2, 1) := by decide +kernel
theorem dX0_lighter_3 : decode cX0_lighter 3 = .ok (.invokevirtual 84, 3) := by decide +kernel
theorem dX0_lighter_6 : decode cX0_lighter 6 = .ok (.istore_n 3, 1) := by decide +kernel
theorem dX0_lighter_7 : decode cX0_lighter 7 = .ok (.iload_n 3, 1) := by decide +kernel
theorem dX0_lighter_8 : decode cX0_lighter 8 = .ok (.sipush 1000, 3) := by decide +kernel
theorem dX0_lighter_11 : decode cX0_lighter 11 = .ok (.if_icmp .ge 16, 3) := by decide +kernel
theorem dX0_lighter_14 : decode cX0_lighter 14 = .ok (.iload_n 3, 1) := by decide +kernel
theorem dX0_lighter_15 : decode cX0_lighter 15 = .ok (.aload_n 0, 1) := by decide +kernel
theorem dX0_lighter_16 : decode cX0_lighter 16 = .ok (.getfield 24, 3) := by decide +kernel
theorem dX0_lighter_19 : decode cX0_lighter 19 = .ok (.iload_n 2, 1) := by decide +kernel
theorem dX0_lighter_20 : decode cX0_lighter 20 = .ok (.iload_n 1, 1) := by decide +kernel
theorem dX0_lighter_21 : decode cX0_lighter 21 = .ok (.invokevirtual 54, 3) := by decide +kernel
theorem dX0_lighter_24 : decode cX0_lighter 24 = .ok (.if_icmp .ne 6, 3) := by decide +kernel
theorem dX0_lighter_27 : decode cX0_lighter 27 = .ok (.bipush (-2), 2) := by decide +kernel
theorem dX0_lighter_29 : decode cX0_lighter 29 = .ok (.ireturn, 1) := by decide +kernel
theorem dX0_lighter_30 : decode cX0_lighter 30 = .ok (.aload_n 0, 1) := by decide +kernel
theorem dX0_lighter_31 : decode cX0_lighter 31 = .ok (.getfield 24, 3) := by decide +kernel
theorem dX0_lighter_34 : decode cX0_lighter 34 = .ok (.iload_n 1, 1) := by decide +kernel
theorem dX0_lighter_35 : decode cX0_lighter 35 = .ok (.invokevirtual 41, 3) := by decide +kernel
theorem dX0_lighter_38 : decode cX0_lighter 38 = .ok (.istore 4, 2) := by decide +kernel
theorem dX0_lighter_40 : decode cX0_lighter 40 = .ok (.iconst 0, 1) := by decide +kernel
theorem dX0_lighter_41 : decode cX0_lighter 41 = .ok (.istore 5, 2) := by decide +kernel
theorem dX0_lighter_43 : decode cX0_lighter 43 = .ok (.iload 5, 2) := by decide +kernel
theorem dX0_lighter_45 : decode cX0_lighter 45 = .ok (.aload_n 0, 1) := by decide +kernel
theorem dX0_lighter_46 : decode cX0_lighter 46 = .ok (.getfield 24, 3) := by decide +kernel
theorem dX0_lighter_49 : decode cX0_lighter 49 = .ok (.getfield 32, 3) := by decide +kernel
theorem dX0_lighter_52 : decode cX0_lighter 52 = .ok (.if_icmp .ge 36, 3) := by decide +kernel
theorem dX0_lighter_55 : decode cX0_lighter 55 = .ok (.aload_n 0, 1) := by decide +kernel
theorem dX0_lighter_56 : decode cX0_lighter 56 = .ok (.iload_n 1, 1) := by decide +kernel
theorem dX0_lighter_57 : decode cX0_lighter 57 = .ok (.iload 5, 2) := by decide +kernel
theorem dX0_lighter_59 : decode cX0_lighter 59 = .ok (.invokevirtual 84, 3) := by decide +kernel
theorem dX0_lighter_62 : decode cX0_lighter 62 = .ok (.aload_n 0, 1) := by decide +kernel
theorem dX0_lighter_63 : decode cX0_lighter 63 = .ok (.getfield 24, 3) := by decide +kernel
theorem dX0_lighter_66 : decode cX0_lighter 66 = .ok (.iload 5, 2) := by decide +kernel
theorem dX0_lighter_68 : decode cX0_lighter 68 = .ok (.iload_n 2, 1) := by decide +kernel
theorem dX0_lighter_69 : decode cX0_lighter 69 = .ok (.iload 4, 2) := by decide +kernel
theorem dX0_lighter_71 : decode cX0_lighter 71 = .ok (.invokevirtual 91, 3) := by decide +kernel
theorem dX0_lighter_74 : decode cX0_lighter 74 = .ok (.iadd, 1) := by decide +kernel
theorem dX0_lighter_75 : decode cX0_lighter 75 = .ok (.iload_n 3, 1) := by decide +kernel
theorem dX0_lighter_76 : decode cX0_lighter 76 = .ok (.if_icmp .ne 6, 3) := by decide +kernel
theorem dX0_lighter_79 : decode cX0_lighter 79 = .ok (.iload 5, 2) := by decide +kernel
theorem dX0_lighter_81 : decode cX0_lighter 81 = .ok (.ireturn, 1) := by decide +kernel
theorem dX0_lighter_82 : decode cX0_lighter 82 = .ok (.iinc 5 1, 3) := by decide +kernel
theorem dX0_lighter_85 : decode cX0_lighter 85 = .ok (.goto (-42), 3) := by decide +kernel
theorem dX0_lighter_88 : decode cX0_lighter 88 = .ok (.bipush (-2), 2) := by decide +kernel
theorem dX0_lighter_90 : decode cX0_lighter 90 = .ok (.ireturn, 1) := by decide +kernel
theorem dX0_burntIf_0 : decode cX0_burntIf 0 = .ok (.aload_n 0, 1) := by decide +kernel
theorem dX0_burntIf_1 : decode cX0_burntIf 1 = .ok (.getfield 28, 3) := by decide +kernel
theorem dX0_burntIf_4 : decode cX0_burntIf 4 = .ok (.iload_n 2, 1) := by decide +kernel
theorem dX0_burntIf_5 : decode cX0_burntIf 5 = .ok (.if_icmp .eq 8, 3) := by decide +kernel
theorem dX0_burntIf_8 : decode cX0_burntIf 8 = .ok (.aload_n 0, 1) := by decide +kernel
theorem dX0_burntIf_9 : decode cX0_burntIf 9 = .ok (.iload_n 2, 1) := by decide +kernel
theorem dX0_burntIf_10 : decode cX0_burntIf 10 = .ok (.invokevirtual 94, 3) := by decide +kernel
theorem dX0_burntIf_13 : decode cX0_burntIf 13 = .ok (.aload_n 0, 1) := by decide +kernel
theorem dX0_burntIf_14 : decode cX0_burntIf 14 = .ok (.aload_n 0, 1) := by decide +kernel
theorem dX0_burntIf_15 : decode cX0_burntIf 15 = .ok (.getfield 21, 3) := by decide +kernel
theorem dX0_burntIf_18 : decode cX0_burntIf 18 = .ok (.iload_n 1, 1) := by decide +kernel
theorem dX0_burntIf_19 : decode cX0_burntIf 19 = .ok (.iload_n 3, 1) := by decide +kernel
theorem dX0_burntIf_20 : decode cX0_burntIf 20 = .ok (.invokevirtual 76, 3) := by decide +kernel
theorem dX0_burntIf_23 : decode cX0_burntIf 23 = .ok (.ireturn, 1) := by decide +kernel
theorem dX0_makeCome_0 : decode cX0_makeCome 0 = .ok (.aload_n 0, 1) := by decide +kernel
theorem dX0_makeCome_1 : decode cX0_makeCome 1 = .ok (.iload_n 1, 1) := by decide +kernel
theorem dX0_makeCome_2 : decode cX0_makeCome 2 = .ok (.putfield 28, 3) := by decide +kernel
theorem dX0_makeCome_5 : decode cX0_makeCome 5 = .ok (.iconst 0, 1) := by decide +kernel
theorem dX0_makeCome_6 : decode cX0_makeCome 6 = .ok (.istore_n 2, 1) := by decide +kernel
theorem dX0_makeCome_7 : decode cX0_makeCome 7 = .ok (.iload_n 2, 1) := by decide +kernel
theorem dX0_makeCome_8 : decode cX0_makeCome 8 = .ok (.iconst 1, 1) := by decide +kernel
theorem dX0_makeCome_9 : decode cX0_makeCome 9 = .ok (.aload_n 0, 1) := by decide +kernel
theorem dX0_makeCome_10 : decode cX0_makeCome 10 = .ok (.getfield 24, 3) := by decide +kernel
theorem dX0_makeCome_13 : decode cX0_makeCome 13 = .ok (.getfield 32, 3) := by decide +kernel
theorem dX0_makeCome_16 : decode cX0_makeCome 16 = .ok (.ishl, 1) := by decide +kernel
theorem dX0_makeCome_17 : decode cX0_makeCome 17 = .ok (.if_icmp .ge 46, 3) := by decide +kernel
theorem dX0_makeCome_20 : decode cX0_makeCome 20 = .ok (.aload_n 0, 1) := by decide +kernel
theorem dX0_makeCome_21 : decode cX0_makeCome 21 = .ok (.iload_n 1, 1) := by decide +kernel
theorem dX0_makeCome_22 : decode cX0_makeCome 22 = .ok (.iload_n 2, 1) := by decide +kernel
theorem dX0_makeCome_23 : decode cX0_makeCome 23 = .ok (.invokevirtual 37, 3) := by decide +kernel
theorem dX0_makeCome_26 : decode cX0_makeCome 26 = .ok (.aload_n 0, 1) := by decide +kernel
theorem dX0_makeCome_27 : decode cX0_makeCome 27 = .ok (.aload_n 0, 1) := by decide +kernel
theorem dX0_makeCome_28 : decode cX0_makeCome 28 = .ok (.getfield 24, 3) := by decide +kernel
theorem dX0_makeCome_31 : decode cX0_makeCome 31 = .ok (.iload_n 1, 1) := by decide +kernel
theorem dX0_makeCome_32 : decode cX0_makeCome 32 = .ok (.invokevirtual 41, 3) := by decide +kernel
theorem dX0_makeCome_35 : decode cX0_makeCome 35 = .ok (.iconst (-1), 1) := by decide +kernel
theorem dX0_makeCome_36 : decode cX0_makeCome 36 = .ok (.invokevirtual 45, 3) := by decide +kernel
theorem dX0_makeCome_39 : decode cX0_makeCome 39 = .ok (.aload_n 0, 1) := by decide +kernel
theorem dX0_makeCome_40 : decode cX0_makeCome 40 = .ok (.getfield 15, 3) := by decide +kernel
theorem dX0_makeCome_43 : decode cX0_makeCome 43 = .ok (.iconst 0, 1) := by decide +kernel
theorem dX0_makeCome_44 : decode cX0_makeCome 44 = .ok (.aload_n 0, 1) := by decide +kernel
theorem dX0_makeCome_45 : decode cX0_makeCome 45 = .ok (.getfield 21, 3) := by decide +kernel
theorem dX0_makeCome_48 : decode cX0_makeCome 48 = .ok (.iload_n 2, 1) := by decide +kernel
theorem dX0_makeCome_49 : decode cX0_makeCome 49 = .ok (.bipush 6, 2) := by decide +kernel
theorem dX0_makeCome_51 : decode cX0_makeCome 51 = .ok (.imul, 1) := by decide +kernel
theorem dX0_makeCome_52 : decode cX0_makeCome 52 = .ok (.bipush 6, 2) := by decide +kernel
theorem dX0_makeCome_54 : decode cX0_makeCome 54 = .ok (.invokestatic 48, 3) := by decide +kernel
theorem dX0_makeCome_57 : decode cX0_makeCome 57 = .ok (.iinc 2 1, 3) := by decide +kernel
theorem dX0_makeCome_60 : decode cX0_makeCome 60 = .ok (.goto (-53), 3) := by decide +kernel
theorem dX0_makeCome_63 : decode cX0_makeCome 63 = .ok (.return_, 1) := by decide +kernel
theorem dX0_weight_0 : decode cX0_weight 0 = .ok (.lconst 1, 1) := by decide +kernel
theorem dX0_weight_1 : decode cX0_weight 1 = .ok (.lstore_n 3, 1) := by decide +kernel
theorem dX0_weight_2 : decode cX0_weight 2 = .ok (.iconst 0, 1) := by decide +kernel
theorem dX0_weight_3 : decode cX0_weight 3 = .ok (.istore 5, 2) := by decide +kernel
theorem dX0_weight_5 : decode cX0_weight 5 = .ok (.iload 5, 2) := by decide +kernel
theorem dX0_weight_7 : decode cX0_weight 7 = .ok (.bipush 6, 2) := by decide +kernel
theorem dX0_weight_9 : decode cX0_weight 9 = .ok (.if_icmp .ge 99, 3) := by decide +kernel
theorem dX0_weight_12 : decode cX0_weight 12 = .ok (.iload_n 1, 1) := by decide +kernel
theorem dX0_weight_13 : decode cX0_weight 13 = .ok (.iload 5, 2) := by decide +kernel
theorem dX0_weight_15 : decode cX0_weight 15 = .ok (.ishr, 1) := by decide +kernel
theorem dX0_weight_16 : decode cX0_weight 16 = .ok (.iconst 1, 1) := by decide +kernel
theorem dX0_weight_17 : decode cX0_weight 17 = .ok (.iand, 1) := by decide +kernel
theorem dX0_weight_18 : decode cX0_weight 18 = .ok (.iconst 1, 1) := by decide +kernel
theorem dX0_weight_19 : decode cX0_weight 19 = .ok (.if_icmp .ne 7, 3) := by decide +kernel
theorem dX0_weight_22 : decode cX0_weight 22 = .ok (.iconst 1, 1) := by decide +kernel
theorem dX0_weight_23 : decode cX0_weight 23 = .ok (.goto 4, 3) := by decide +kernel
theorem dX0_weight_26 : decode cX0_weight 26 = .ok (.iconst 0, 1) := by decide +kernel
theorem dX0_weight_27 : decode cX0_weight 27 = .ok (.istore 6, 2) := by decide +kernel
theorem dX0_weight_29 : decode cX0_weight 29 = .ok (.iload 5, 2) := by decide +kernel
theorem dX0_weight_31 : decode cX0_weight 31 = .ok (.aload_n 0, 1) := by decide +kernel
theorem dX0_weight_32 : decode cX0_weight 32 = .ok (.getfield 24, 3) := by decide +kernel
theorem dX0_weight_35 : decode cX0_weight 35 = .ok (.getfield 32, 3) := by decide +kernel
theorem dX0_weight_38 : decode cX0_weight 38 = .ok (.if_icmp .ge 57, 3) := by decide +kernel
theorem dX0_weight_41 : decode cX0_weight 41 = .ok (.aload_n 0, 1) := by decide +kernel
theorem dX0_weight_42 : decode cX0_weight 42 = .ok (.getfield 24, 3) := by decide +kernel
theorem dX0_weight_45 : decode cX0_weight 45 = .ok (.iload 5, 2) := by decide +kernel
theorem dX0_weight_47 : decode cX0_weight 47 = .ok (.iload_n 2, 1) := by decide +kernel
theorem dX0_weight_48 : decode cX0_weight 48 = .ok (.invokevirtual 54, 3) := by decide +kernel
theorem dX0_weight_51 : decode cX0_weight 51 = .ok (.bipush (-2), 2) := by decide +kernel
theorem dX0_weight_53 : decode cX0_weight 53 = .ok (.if_icmp .eq 42, 3) := by decide +kernel
theorem dX0_weight_56 : decode cX0_weight 56 = .ok (.lload_n 3, 1) := by decide +kernel
theorem dX0_weight_57 : decode cX0_weight 57 = .ok (.iload 6, 2) := by decide +kernel
theorem dX0_weight_59 : decode cX0_weight 59 = .ok (.ifCond .eq 17, 3) := by decide +kernel
theorem dX0_weight_62 : decode cX0_weight 62 = .ok (.aload_n 0, 1) := by decide +kernel
theorem dX0_weight_63 : decode cX0_weight 63 = .ok (.getfield 24, 3) := by decide +kernel
theorem dX0_weight_66 : decode cX0_weight 66 = .ok (.getfield 98, 3) := by decide +kernel
theorem dX0_weight_69 : decode cX0_weight 69 = .ok (.iload 5, 2) := by decide +kernel
theorem dX0_weight_71 : decode cX0_weight 71 = .ok (.iaload, 1) := by decide +kernel
theorem dX0_weight_72 : decode cX0_weight 72 = .ok (.i2l, 1) := by decide +kernel
theorem dX0_weight_73 : decode cX0_weight 73 = .ok (.goto 17, 3) := by decide +kernel
theorem dX0_weight_76 : decode cX0_weight 76 = .ok (.bipush 100, 2) := by decide +kernel
theorem dX0_weight_78 : decode cX0_weight 78 = .ok (.aload_n 0, 1) := by decide +kernel
theorem dX0_weight_79 : decode cX0_weight 79 = .ok (.getfield 24, 3) := by decide +kernel
theorem dX0_weight_82 : decode cX0_weight 82 = .ok (.getfield 98, 3) := by decide +kernel
theorem dX0_weight_85 : decode cX0_weight 85 = .ok (.iload 5, 2) := by decide +kernel
theorem dX0_weight_87 : decode cX0_weight 87 = .ok (.iaload, 1) := by decide +kernel
theorem dX0_weight_88 : decode cX0_weight 88 = .ok (.isub, 1) := by decide +kernel
theorem dX0_weight_89 : decode cX0_weight 89 = .ok (.i2l, 1) := by decide +kernel
theorem dX0_weight_90 : decode cX0_weight 90 = .ok (.lmul, 1) := by decide +kernel
theorem dX0_weight_91 : decode cX0_weight 91 = .ok (.lstore_n 3, 1) := by decide +kernel
theorem dX0_weight_92 : decode cX0_weight 92 = .ok (.goto 10, 3) := by decide +kernel
theorem dX0_weight_95 : decode cX0_weight 95 = .ok (.iload 6, 2) := by decide +kernel
theorem dX0_weight_97 : decode cX0_weight 97 = .ok (.ifCond .eq 5, 3) := by decide +kernel
theorem dX0_weight_100 : decode cX0_weight 100 = .ok (.lconst 0, 1) := by decide +kernel
theorem dX0_weight_101 : decode cX0_weight 101 = .ok (.lreturn, 1) := by decide +kernel
theorem dX0_weight_102 : decode cX0_weight 102 = .ok (.iinc 5 1, 3) := by decide +kernel
theorem dX0_weight_105 : decode cX0_weight 105 = .ok (.goto (-100), 3) := by decide +kernel
theorem dX0_weight_108 : decode cX0_weight 108 = .ok (.lload_n 3, 1) := by decide +kernel
theorem dX0_weight_109 : decode cX0_weight 109 = .ok (.lreturn, 1) := by decide +kernel
theorem dX0_wholeWeight_0 : decode cX0_wholeWeight 0 = .ok (.lconst 1, 1) := by decide +kernel
theorem dX0_wholeWeight_1 : decode cX0_wholeWeight 1 = .ok (.lstore_n 2, 1) := by decide +kernel
theorem dX0_wholeWeight_2 : decode cX0_wholeWeight 2 = .ok (.iconst 0, 1) := by decide +kernel
theorem dX0_wholeWeight_3 : decode cX0_wholeWeight 3 = .ok (.istore 4, 2) := by decide +kernel
theorem dX0_wholeWeight_5 : decode cX0_wholeWeight 5 = .ok (.iload 4, 2) := by decide +kernel
theorem dX0_wholeWeight_7 : decode cX0_wholeWeight 7 = .ok (.aload_n 0, 1) := by decide +kernel
theorem dX0_wholeWeight_8 : decode cX0_wholeWeight 8 = .ok (.getfield 24, 3) := by decide +kernel
theorem dX0_wholeWeight_11 : decode cX0_wholeWeight 11 = .ok (.getfield 32, 3) := by decide +kernel
theorem dX0_wholeWeight_14 : decode cX0_wholeWeight 14 = .ok (.if_icmp .ge 30, 3) := by decide +kernel
theorem dX0_wholeWeight_17 : decode cX0_wholeWeight 17 = .ok (.aload_n 0, 1) := by decide +kernel
theorem dX0_wholeWeight_18 : decode cX0_wholeWeight 18 = .ok (.getfield 24, 3) := by decide +kernel
theorem dX0_wholeWeight_21 : decode cX0_wholeWeight 21 = .ok (.iload 4, 2) := by decide +kernel
theorem dX0_wholeWeight_23 : decode cX0_wholeWeight 23 = .ok (.iload_n 1, 1) := by decide +kernel
theorem dX0_wholeWeight_24 : decode cX0_wholeWeight 24 = .ok (.invokevirtual 54, 3) := by decide +kernel
theorem dX0_wholeWeight_27 : decode cX0_wholeWeight 27 = .ok (.bipush (-2), 2) := by decide +kernel
theorem dX0_wholeWeight_29 : decode cX0_wholeWeight 29 = .ok (.if_icmp .eq 9, 3) := by decide +kernel
theorem dX0_wholeWeight_32 : decode cX0_wholeWeight 32 = .ok (.lload_n 2, 1) := by decide +kernel
theorem dX0_wholeWeight_33 : decode cX0_wholeWeight 33 = .ok (.ldc2_w 101, 3) := by decide +kernel
theorem dX0_wholeWeight_36 : decode cX0_wholeWeight 36 = .ok (.lmul, 1) := by decide +kernel
theorem dX0_wholeWeight_37 : decode cX0_wholeWeight 37 = .ok (.lstore_n 2, 1) := by decide +kernel
theorem dX0_wholeWeight_38 : decode cX0_wholeWeight 38 = .ok (.iinc 4 1, 3) := by decide +kernel
theorem dX0_wholeWeight_41 : decode cX0_wholeWeight 41 = .ok (.goto (-36), 3) := by decide +kernel
theorem dX0_wholeWeight_44 : decode cX0_wholeWeight 44 = .ok (.lload_n 2, 1) := by decide +kernel
theorem dX0_wholeWeight_45 : decode cX0_wholeWeight 45 = .ok (.lreturn, 1) := by decide +kernel
theorem dX0_draw_0 : decode cX0_draw 0 = .ok (.iconst 0, 1) := by decide +kernel
theorem dX0_draw_1 : decode cX0_draw 1 = .ok (.istore_n 2, 1) := by decide +kernel
theorem dX0_draw_2 : decode cX0_draw 2 = .ok (.iconst 0, 1) := by decide +kernel
theorem dX0_draw_3 : decode cX0_draw 3 = .ok (.istore_n 3, 1) := by decide +kernel
theorem dX0_draw_4 : decode cX0_draw 4 = .ok (.iload_n 3, 1) := by decide +kernel
theorem dX0_draw_5 : decode cX0_draw 5 = .ok (.aload_n 0, 1) := by decide +kernel
theorem dX0_draw_6 : decode cX0_draw 6 = .ok (.getfield 24, 3) := by decide +kernel
theorem dX0_draw_9 : decode cX0_draw 9 = .ok (.getfield 32, 3) := by decide +kernel
theorem dX0_draw_12 : decode cX0_draw 12 = .ok (.if_icmp .ge 65, 3) := by decide +kernel
theorem dX0_draw_15 : decode cX0_draw 15 = .ok (.aload_n 0, 1) := by decide +kernel
theorem dX0_draw_16 : decode cX0_draw 16 = .ok (.getfield 24, 3) := by decide +kernel
theorem dX0_draw_19 : decode cX0_draw 19 = .ok (.iload_n 3, 1) := by decide +kernel
theorem dX0_draw_20 : decode cX0_draw 20 = .ok (.iload_n 1, 1) := by decide +kernel
theorem dX0_draw_21 : decode cX0_draw 21 = .ok (.invokevirtual 54, 3) := by decide +kernel
theorem dX0_draw_24 : decode cX0_draw 24 = .ok (.bipush (-2), 2) := by decide +kernel
theorem dX0_draw_26 : decode cX0_draw 26 = .ok (.if_icmp .eq 45, 3) := by decide +kernel
theorem dX0_draw_29 : decode cX0_draw 29 = .ok (.aload_n 0, 1) := by decide +kernel
theorem dX0_draw_30 : decode cX0_draw 30 = .ok (.bipush 75, 2) := by decide +kernel
theorem dX0_draw_32 : decode cX0_draw 32 = .ok (.aload_n 0, 1) := by decide +kernel
theorem dX0_draw_33 : decode cX0_draw 33 = .ok (.getfield 103, 3) := by decide +kernel
theorem dX0_draw_36 : decode cX0_draw 36 = .ok (.imul, 1) := by decide +kernel
theorem dX0_draw_37 : decode cX0_draw 37 = .ok (.bipush 74, 2) := by decide +kernel
theorem dX0_draw_39 : decode cX0_draw 39 = .ok (.iadd, 1) := by decide +kernel
theorem dX0_draw_40 : decode cX0_draw 40 = .ok (.ldc 106, 2) := by decide +kernel
theorem dX0_draw_42 : decode cX0_draw 42 = .ok (.irem, 1) := by decide +kernel
theorem dX0_draw_43 : decode cX0_draw 43 = .ok (.putfield 103, 3) := by decide +kernel
theorem dX0_draw_46 : decode cX0_draw 46 = .ok (.aload_n 0, 1) := by decide +kernel
theorem dX0_draw_47 : decode cX0_draw 47 = .ok (.getfield 103, 3) := by decide +kernel
theorem dX0_draw_50 : decode cX0_draw 50 = .ok (.bipush 100, 2) := by decide +kernel
theorem dX0_draw_52 : decode cX0_draw 52 = .ok (.irem, 1) := by decide +kernel
theorem dX0_draw_53 : decode cX0_draw 53 = .ok (.aload_n 0, 1) := by decide +kernel
theorem dX0_draw_54 : decode cX0_draw 54 = .ok (.getfield 24, 3) := by decide +kernel
theorem dX0_draw_57 : decode cX0_draw 57 = .ok (.getfield 98, 3) := by decide +kernel
theorem dX0_draw_60 : decode cX0_draw 60 = .ok (.iload_n 3, 1) := by decide +kernel
theorem dX0_draw_61 : decode cX0_draw 61 = .ok (.iaload, 1) := by decide +kernel
theorem dX0_draw_62 : decode cX0_draw 62 = .ok (.if_icmp .ge 9, 3) := by decide +kernel
theorem dX0_draw_65 : decode cX0_draw 65 = .ok (.iload_n 2, 1) := by decide +kernel
theorem dX0_draw_66 : decode cX0_draw 66 = .ok (.iconst 1, 1) := by decide +kernel
theorem dX0_draw_67 : decode cX0_draw 67 = .ok (.iload_n 3, 1) := by decide +kernel
theorem dX0_draw_68 : decode cX0_draw 68 = .ok (.ishl, 1) := by decide +kernel
theorem dX0_draw_69 : decode cX0_draw 69 = .ok (.ior, 1) := by decide +kernel
theorem dX0_draw_70 : decode cX0_draw 70 = .ok (.istore_n 2, 1) := by decide +kernel
theorem dX0_draw_71 : decode cX0_draw 71 = .ok (.iinc 3 1, 3) := by decide +kernel
theorem dX0_draw_74 : decode cX0_draw 74 = .ok (.goto (-70), 3) := by decide +kernel
theorem dX0_draw_77 : decode cX0_draw 77 = .ok (.iload_n 2, 1) := by decide +kernel
theorem dX0_draw_78 : decode cX0_draw 78 = .ok (.ireturn, 1) := by decide +kernel
theorem dX0_bitsBy_0 : decode cX0_bitsBy 0 = .ok (.iconst 0, 1) := by decide +kernel
theorem dX0_bitsBy_1 : decode cX0_bitsBy 1 = .ok (.istore 4, 2) := by decide +kernel
theorem dX0_bitsBy_3 : decode cX0_bitsBy 3 = .ok (.iconst 0, 1) := by decide +kernel
theorem dX0_bitsBy_4 : decode cX0_bitsBy 4 = .ok (.istore 5, 2) := by decide +kernel
theorem dX0_bitsBy_6 : decode cX0_bitsBy 6 = .ok (.iload 5, 2) := by decide +kernel
theorem dX0_bitsBy_8 : decode cX0_bitsBy 8 = .ok (.aload_n 0, 1) := by decide +kernel
theorem dX0_bitsBy_9 : decode cX0_bitsBy 9 = .ok (.getfield 24, 3) := by decide +kernel
theorem dX0_bitsBy_12 : decode cX0_bitsBy 12 = .ok (.getfield 32, 3) := by decide +kernel
theorem dX0_bitsBy_15 : decode cX0_bitsBy 15 = .ok (.if_icmp .ge 31, 3) := by decide +kernel
theorem dX0_bitsBy_18 : decode cX0_bitsBy 18 = .ok (.aload_n 1, 1) := by decide +kernel
theorem dX0_bitsBy_19 : decode cX0_bitsBy 19 = .ok (.iload_n 2, 1) := by decide +kernel
theorem dX0_bitsBy_20 : decode cX0_bitsBy 20 = .ok (.bipush 6, 2) := by decide +kernel
theorem dX0_bitsBy_22 : decode cX0_bitsBy 22 = .ok (.imul, 1) := by decide +kernel
theorem dX0_bitsBy_23 : decode cX0_bitsBy 23 = .ok (.iload 5, 2) := by decide +kernel
theorem dX0_bitsBy_25 : decode cX0_bitsBy 25 = .ok (.iadd, 1) := by decide +kernel
theorem dX0_bitsBy_26 : decode cX0_bitsBy 26 = .ok (.iaload, 1) := by decide +kernel
theorem dX0_bitsBy_27 : decode cX0_bitsBy 27 = .ok (.iload_n 3, 1) := by decide +kernel
theorem dX0_bitsBy_28 : decode cX0_bitsBy 28 = .ok (.if_icmp .gt 12, 3) := by decide +kernel
theorem dX0_bitsBy_31 : decode cX0_bitsBy 31 = .ok (.iload 4, 2) := by decide +kernel
theorem dX0_bitsBy_33 : decode cX0_bitsBy 33 = .ok (.iconst 1, 1) := by decide +kernel
theorem dX0_bitsBy_34 : decode cX0_bitsBy 34 = .ok (.iload 5, 2) := by decide +kernel
theorem dX0_bitsBy_36 : decode cX0_bitsBy 36 = .ok (.ishl, 1) := by decide +kernel
theorem dX0_bitsBy_37 : decode cX0_bitsBy 37 = .ok (.ior, 1) := by decide +kernel
theorem dX0_bitsBy_38 : decode cX0_bitsBy 38 = .ok (.istore 4, 2) := by decide +kernel
theorem dX0_bitsBy_40 : decode cX0_bitsBy 40 = .ok (.iinc 5 1, 3) := by decide +kernel
theorem dX0_bitsBy_43 : decode cX0_bitsBy 43 = .ok (.goto (-37), 3) := by decide +kernel
theorem dX0_bitsBy_46 : decode cX0_bitsBy 46 = .ok (.iload 4, 2) := by decide +kernel
theorem dX0_bitsBy_48 : decode cX0_bitsBy 48 = .ok (.ireturn, 1) := by decide +kernel
theorem dX0_soonestIn_0 : decode cX0_soonestIn 0 = .ok (.bipush (-2), 2) := by decide +kernel
theorem dX0_soonestIn_2 : decode cX0_soonestIn 2 = .ok (.istore 5, 2) := by decide +kernel
theorem dX0_soonestIn_4 : decode cX0_soonestIn 4 = .ok (.sipush 1000, 3) := by decide +kernel
theorem dX0_soonestIn_7 : decode cX0_soonestIn 7 = .ok (.istore 6, 2) := by decide +kernel
theorem dX0_soonestIn_9 : decode cX0_soonestIn 9 = .ok (.iconst 0, 1) := by decide +kernel
theorem dX0_soonestIn_10 : decode cX0_soonestIn 10 = .ok (.istore 7, 2) := by decide +kernel
theorem dX0_soonestIn_12 : decode cX0_soonestIn 12 = .ok (.iload 7, 2) := by decide +kernel
theorem dX0_soonestIn_14 : decode cX0_soonestIn 14 = .ok (.aload_n 0, 1) := by decide +kernel
theorem dX0_soonestIn_15 : decode cX0_soonestIn 15 = .ok (.getfield 24, 3) := by decide +kernel
theorem dX0_soonestIn_18 : decode cX0_soonestIn 18 = .ok (.getfield 32, 3) := by decide +kernel
theorem dX0_soonestIn_21 : decode cX0_soonestIn 21 = .ok (.if_icmp .ge 51, 3) := by decide +kernel
theorem dX0_soonestIn_24 : decode cX0_soonestIn 24 = .ok (.aload_n 1, 1) := by decide +kernel
theorem dX0_soonestIn_25 : decode cX0_soonestIn 25 = .ok (.iload_n 2, 1) := by decide +kernel
theorem dX0_soonestIn_26 : decode cX0_soonestIn 26 = .ok (.bipush 6, 2) := by decide +kernel
theorem dX0_soonestIn_28 : decode cX0_soonestIn 28 = .ok (.imul, 1) := by decide +kernel
theorem dX0_soonestIn_29 : decode cX0_soonestIn 29 = .ok (.iload 7, 2) := by decide +kernel
theorem dX0_soonestIn_31 : decode cX0_soonestIn 31 = .ok (.iadd, 1) := by decide +kernel
theorem dX0_soonestIn_32 : decode cX0_soonestIn 32 = .ok (.iaload, 1) := by decide +kernel
theorem dX0_soonestIn_33 : decode cX0_soonestIn 33 = .ok (.istore 8, 2) := by decide +kernel
theorem dX0_soonestIn_35 : decode cX0_soonestIn 35 = .ok (.iload_n 3, 1) := by decide +kernel
theorem dX0_soonestIn_36 : decode cX0_soonestIn 36 = .ok (.iload 7, 2) := by decide +kernel
theorem dX0_soonestIn_38 : decode cX0_soonestIn 38 = .ok (.ishr, 1) := by decide +kernel
theorem dX0_soonestIn_39 : decode cX0_soonestIn 39 = .ok (.iconst 1, 1) := by decide +kernel
theorem dX0_soonestIn_40 : decode cX0_soonestIn 40 = .ok (.iand, 1) := by decide +kernel
theorem dX0_soonestIn_41 : decode cX0_soonestIn 41 = .ok (.ifCond .ne 25, 3) := by decide +kernel
theorem dX0_soonestIn_44 : decode cX0_soonestIn 44 = .ok (.iload 8, 2) := by decide +kernel
theorem dX0_soonestIn_46 : decode cX0_soonestIn 46 = .ok (.iload 4, 2) := by decide +kernel
theorem dX0_soonestIn_48 : decode cX0_soonestIn 48 = .ok (.if_icmp .le 18, 3) := by decide +kernel
theorem dX0_soonestIn_51 : decode cX0_soonestIn 51 = .ok (.iload 8, 2) := by decide +kernel
theorem dX0_soonestIn_53 : decode cX0_soonestIn 53 = .ok (.iload 6, 2) := by decide +kernel
theorem dX0_soonestIn_55 : decode cX0_soonestIn 55 = .ok (.if_icmp .ge 11, 3) := by decide +kernel
theorem dX0_soonestIn_58 : decode cX0_soonestIn 58 = .ok (.iload 8, 2) := by decide +kernel
theorem dX0_soonestIn_60 : decode cX0_soonestIn 60 = .ok (.istore 6, 2) := by decide +kernel
theorem dX0_soonestIn_62 : decode cX0_soonestIn 62 = .ok (.iload 7, 2) := by decide +kernel
theorem dX0_soonestIn_64 : decode cX0_soonestIn 64 = .ok (.istore 5, 2) := by decide +kernel
theorem dX0_soonestIn_66 : decode cX0_soonestIn 66 = .ok (.iinc 7 1, 3) := by decide +kernel
theorem dX0_soonestIn_69 : decode cX0_soonestIn 69 = .ok (.goto (-57), 3) := by decide +kernel
theorem dX0_soonestIn_72 : decode cX0_soonestIn 72 = .ok (.iload 5, 2) := by decide +kernel
theorem dX0_soonestIn_74 : decode cX0_soonestIn 74 = .ok (.ireturn, 1) := by decide +kernel
theorem dX1_init_0 : decode cX1_init 0 = .ok (.aload_n 0, 1) := by decide +kernel
theorem dX1_init_1 : decode cX1_init 1 = .ok (.invokespecial 3, 3) := by decide +kernel
theorem dX1_init_4 : decode cX1_init 4 = .ok (.aload_n 0, 1) := by decide +kernel
theorem dX1_init_5 : decode cX1_init 5 = .ok (.iconst 2, 1) := by decide +kernel
theorem dX1_init_6 : decode cX1_init 6 = .ok (.newarray .int, 2) := by decide +kernel
theorem dX1_init_8 : decode cX1_init 8 = .ok (.putfield 9, 3) := by decide +kernel
theorem dX1_init_11 : decode cX1_init 11 = .ok (.aload_n 0, 1) := by decide +kernel
theorem dX1_init_12 : decode cX1_init 12 = .ok (.bipush 7, 2) := by decide +kernel
theorem dX1_init_14 : decode cX1_init 14 = .ok (.newarray .int, 2) := by decide +kernel
theorem dX1_init_16 : decode cX1_init 16 = .ok (.putfield 15, 3) := by decide +kernel
theorem dX1_init_19 : decode cX1_init 19 = .ok (.aload_n 0, 1) := by decide +kernel
theorem dX1_init_20 : decode cX1_init 20 = .ok (.sipush 726, 3) := by decide +kernel
theorem dX1_init_23 : decode cX1_init 23 = .ok (.newarray .int, 2) := by decide +kernel
theorem dX1_init_25 : decode cX1_init 25 = .ok (.putfield 18, 3) := by decide +kernel
theorem dX1_init_28 : decode cX1_init 28 = .ok (.aload_n 0, 1) := by decide +kernel
theorem dX1_init_29 : decode cX1_init 29 = .ok (.bipush 121, 2) := by decide +kernel
theorem dX1_init_31 : decode cX1_init 31 = .ok (.newarray .int, 2) := by decide +kernel
theorem dX1_init_33 : decode cX1_init 33 = .ok (.putfield 21, 3) := by decide +kernel
theorem dX1_init_36 : decode cX1_init 36 = .ok (.aload_n 0, 1) := by decide +kernel
theorem dX1_init_37 : decode cX1_init 37 = .ok (.aload_n 1, 1) := by decide +kernel
theorem dX1_init_38 : decode cX1_init 38 = .ok (.putfield 24, 3) := by decide +kernel
theorem dX1_init_41 : decode cX1_init 41 = .ok (.return_, 1) := by decide +kernel
theorem dX1_make_0 : decode cX1_make 0 = .ok (.aload_n 0, 1) := by decide +kernel
theorem dX1_make_1 : decode cX1_make 1 = .ok (.getfield 28, 3) := by decide +kernel
theorem dX1_make_4 : decode cX1_make 4 = .ok (.ifCond .eq 4, 3) := by decide +kernel
theorem dX1_make_7 : decode cX1_make 7 = .ok (.return_, 1) := by decide +kernel
theorem dX1_make_8 : decode cX1_make 8 = .ok (.aload_n 0, 1) := by decide +kernel
theorem dX1_make_9 : decode cX1_make 9 = .ok (.iconst 1, 1) := by decide +kernel
theorem dX1_make_10 : decode cX1_make 10 = .ok (.putfield 28, 3) := by decide +kernel
theorem dX1_make_13 : decode cX1_make 13 = .ok (.aload_n 0, 1) := by decide +kernel
theorem dX1_make_14 : decode cX1_make 14 = .ok (.iconst 0, 1) := by decide +kernel
theorem dX1_make_15 : decode cX1_make 15 = .ok (.putfield 32, 3) := by decide +kernel
theorem dX1_make_18 : decode cX1_make 18 = .ok (.iconst 1, 1) := by decide +kernel
theorem dX1_make_19 : decode cX1_make 19 = .ok (.istore_n 1, 1) := by decide +kernel
theorem dX1_make_20 : decode cX1_make 20 = .ok (.iconst 0, 1) := by decide +kernel
theorem dX1_make_21 : decode cX1_make 21 = .ok (.istore_n 2, 1) := by decide +kernel
theorem dX1_make_22 : decode cX1_make 22 = .ok (.iload_n 2, 1) := by decide +kernel
theorem dX1_make_23 : decode cX1_make 23 = .ok (.aload_n 0, 1) := by decide +kernel
theorem dX1_make_24 : decode cX1_make 24 = .ok (.getfield 24, 3) := by decide +kernel
theorem dX1_make_27 : decode cX1_make 27 = .ok (.getfield 36, 3) := by decide +kernel
theorem dX1_make_30 : decode cX1_make 30 = .ok (.getfield 42, 3) := by decide +kernel
theorem dX1_make_33 : decode cX1_make 33 = .ok (.if_icmp .ge 14, 3) := by decide +kernel
theorem dX1_make_36 : decode cX1_make 36 = .ok (.iload_n 1, 1) := by decide +kernel
theorem dX1_make_37 : decode cX1_make 37 = .ok (.bipush 11, 2) := by decide +kernel
theorem dX1_make_39 : decode cX1_make 39 = .ok (.imul, 1) := by decide +kernel
theorem dX1_make_40 : decode cX1_make 40 = .ok (.istore_n 1, 1) := by decide +kernel
theorem dX1_make_41 : decode cX1_make 41 = .ok (.iinc 2 1, 3) := by decide +kernel
theorem dX1_make_44 : decode cX1_make 44 = .ok (.goto (-22), 3) := by decide +kernel
theorem dX1_make_47 : decode cX1_make 47 = .ok (.iconst 0, 1) := by decide +kernel
theorem dX1_make_48 : decode cX1_make 48 = .ok (.istore_n 2, 1) := by decide +kernel
theorem dX1_make_49 : decode cX1_make 49 = .ok (.iload_n 2, 1) := by decide +kernel
theorem dX1_make_50 : decode cX1_make 50 = .ok (.iload_n 1, 1) := by decide +kernel
theorem dX1_make_51 : decode cX1_make 51 = .ok (.if_icmp .ge 124, 3) := by decide +kernel
theorem dX1_make_54 : decode cX1_make 54 = .ok (.aload_n 0, 1) := by decide +kernel
theorem dX1_make_55 : decode cX1_make 55 = .ok (.getfield 32, 3) := by decide +kernel
theorem dX1_make_58 : decode cX1_make 58 = .ok (.bipush 121, 2) := by decide +kernel
theorem dX1_make_60 : decode cX1_make 60 = .ok (.if_icmp .ge 115, 3) := by decide +kernel
theorem dX1_make_63 : decode cX1_make 63 = .ok (.iconst 0, 1) := by decide +kernel
theorem dX1_make_64 : decode cX1_make 64 = .ok (.istore_n 3, 1) := by decide +kernel
theorem dX1_make_65 : decode cX1_make 65 = .ok (.iload_n 3, 1) := by decide +kernel
theorem dX1_make_66 : decode cX1_make 66 = .ok (.aload_n 0, 1) := by decide +kernel
theorem dX1_make_67 : decode cX1_make 67 = .ok (.getfield 24, 3) := by decide +kernel
theorem dX1_make_70 : decode cX1_make 70 = .ok (.getfield 36, 3) := by decide +kernel
theorem dX1_make_73 : decode cX1_make 73 = .ok (.getfield 42, 3) := by decide +kernel
theorem dX1_make_76 : decode cX1_make 76 = .ok (.if_icmp .ge 21, 3) := by decide +kernel
theorem dX1_make_79 : decode cX1_make 79 = .ok (.aload_n 0, 1) := by decide +kernel
theorem dX1_make_80 : decode cX1_make 80 = .ok (.getfield 9, 3) := by decide +kernel
theorem dX1_make_83 : decode cX1_make 83 = .ok (.iload_n 3, 1) := by decide +kernel
theorem dX1_make_84 : decode cX1_make 84 = .ok (.aload_n 0, 1) := by decide +kernel
theorem dX1_make_85 : decode cX1_make 85 = .ok (.iload_n 2, 1) := by decide +kernel
theorem dX1_make_86 : decode cX1_make 86 = .ok (.iload_n 3, 1) := by decide +kernel
theorem dX1_make_87 : decode cX1_make 87 = .ok (.invokevirtual 47, 3) := by decide +kernel
theorem dX1_make_90 : decode cX1_make 90 = .ok (.iastore, 1) := by decide +kernel
theorem dX1_make_91 : decode cX1_make 91 = .ok (.iinc 3 1, 3) := by decide +kernel
theorem dX1_make_94 : decode cX1_make 94 = .ok (.goto (-29), 3) := by decide +kernel
theorem dX1_make_97 : decode cX1_make 97 = .ok (.aload_n 0, 1) := by decide +kernel
theorem dX1_make_98 : decode cX1_make 98 = .ok (.getfield 24, 3) := by decide +kernel
theorem dX1_make_101 : decode cX1_make 101 = .ok (.aload_n 0, 1) := by decide +kernel
theorem dX1_make_102 : decode cX1_make 102 = .ok (.getfield 9, 3) := by decide +kernel
theorem dX1_make_105 : decode cX1_make 105 = .ok (.aload_n 0, 1) := by decide +kernel
theorem dX1_make_106 : decode cX1_make 106 = .ok (.getfield 24, 3) := by decide +kernel
theorem dX1_make_109 : decode cX1_make 109 = .ok (.getfield 36, 3) := by decide +kernel
theorem dX1_make_112 : decode cX1_make 112 = .ok (.getfield 42, 3) := by decide +kernel
theorem dX1_make_115 : decode cX1_make 115 = .ok (.invokevirtual 51, 3) := by decide +kernel
theorem dX1_make_118 : decode cX1_make 118 = .ok (.aload_n 0, 1) := by decide +kernel
theorem dX1_make_119 : decode cX1_make 119 = .ok (.invokevirtual 54, 3) := by decide +kernel
theorem dX1_make_122 : decode cX1_make 122 = .ok (.ifCond .eq 47, 3) := by decide +kernel
theorem dX1_make_125 : decode cX1_make 125 = .ok (.aload_n 0, 1) := by decide +kernel
theorem dX1_make_126 : decode cX1_make 126 = .ok (.getfield 21, 3) := by decide +kernel
theorem dX1_make_129 : decode cX1_make 129 = .ok (.aload_n 0, 1) := by decide +kernel
theorem dX1_make_130 : decode cX1_make 130 = .ok (.getfield 32, 3) := by decide +kernel
theorem dX1_make_133 : decode cX1_make 133 = .ok (.iload_n 2, 1) := by decide +kernel
theorem dX1_make_134 : decode cX1_make 134 = .ok (.iastore, 1) := by decide +kernel
theorem dX1_make_135 : decode cX1_make 135 = .ok (.aload_n 0, 1) := by decide +kernel
theorem dX1_make_136 : decode cX1_make 136 = .ok (.getfield 24, 3) := by decide +kernel
theorem dX1_make_139 : decode cX1_make 139 = .ok (.getfield 58, 3) := by decide +kernel
theorem dX1_make_142 : decode cX1_make 142 = .ok (.iconst 0, 1) := by decide +kernel
theorem dX1_make_143 : decode cX1_make 143 = .ok (.aload_n 0, 1) := by decide +kernel
theorem dX1_make_144 : decode cX1_make 144 = .ok (.getfield 18, 3) := by decide +kernel
theorem dX1_make_147 : decode cX1_make 147 = .ok (.aload_n 0, 1) := by decide +kernel
theorem dX1_make_148 : decode cX1_make 148 = .ok (.getfield 32, 3) := by decide +kernel
theorem dX1_make_151 : decode cX1_make 151 = .ok (.bipush 6, 2) := by decide +kernel
theorem dX1_make_153 : decode cX1_make 153 = .ok (.imul, 1) := by decide +kernel
theorem dX1_make_154 : decode cX1_make 154 = .ok (.bipush 6, 2) := by decide +kernel
theorem dX1_make_156 : decode cX1_make 156 = .ok (.invokestatic 61, 3) := by decide +kernel
theorem dX1_make_159 : decode cX1_make 159 = .ok (.aload_n 0, 1) := by decide +kernel
theorem dX1_make_160 : decode cX1_make 160 = .ok (.dup, 1) := by decide +kernel
theorem dX1_make_161 : decode cX1_make 161 = .ok (.getfield 32, 3) := by decide +kernel
theorem dX1_make_164 : decode cX1_make 164 = .ok (.iconst 1, 1) := by decide +kernel
theorem dX1_make_165 : decode cX1_make 165 = .ok (.iadd, 1) := by decide +kernel
theorem dX1_make_166 : decode cX1_make 166 = .ok (.putfield 32, 3) := by decide +kernel
theorem dX1_make_169 : decode cX1_make 169 = .ok (.iinc 2 1, 3) := by decide +kernel
theorem dX1_make_172 : decode cX1_make 172 = .ok (.goto (-123), 3) := by decide +kernel
theorem dX1_make_175 : decode cX1_make 175 = .ok (.aload_n 0, 1) := by decide +kernel
theorem dX1_make_176 : decode cX1_make 176 = .ok (.invokevirtual 67, 3) := by decide +kernel
theorem dX1_make_179 : decode cX1_make 179 = .ok (.return_, 1) := by decide +kernel
theorem dX1_guessed_0 : decode cX1_guessed 0 = .ok (.iload_n 2, 1) := by decide +kernel
theorem dX1_guessed_1 : decode cX1_guessed 1 = .ok (.iconst 1, 1) := by decide +kernel
theorem dX1_guessed_2 : decode cX1_guessed 2 = .ok (.iadd, 1) := by decide +kernel
theorem dX1_guessed_3 : decode cX1_guessed 3 = .ok (.aload_n 0, 1) := by decide +kernel
theorem dX1_guessed_4 : decode cX1_guessed 4 = .ok (.getfield 24, 3) := by decide +kernel
theorem dX1_guessed_7 : decode cX1_guessed 7 = .ok (.getfield 36, 3) := by decide +kernel
theorem dX1_guessed_10 : decode cX1_guessed 10 = .ok (.getfield 42, 3) := by decide +kernel
theorem dX1_guessed_13 : decode cX1_guessed 13 = .ok (.if_icmp .ge 10, 3) := by decide +kernel
theorem dX1_guessed_16 : decode cX1_guessed 16 = .ok (.iload_n 1, 1) := by decide +kernel
theorem dX1_guessed_17 : decode cX1_guessed 17 = .ok (.bipush 11, 2) := by decide +kernel
theorem dX1_guessed_19 : decode cX1_guessed 19 = .ok (.idiv, 1) := by decide +kernel
theorem dX1_guessed_20 : decode cX1_guessed 20 = .ok (.goto 7, 3) := by decide +kernel
theorem dX1_guessed_23 : decode cX1_guessed 23 = .ok (.iload_n 1, 1) := by decide +kernel
theorem dX1_guessed_24 : decode cX1_guessed 24 = .ok (.bipush 11, 2) := by decide +kernel
theorem dX1_guessed_26 : decode cX1_guessed 26 = .ok (.irem, 1) := by decide +kernel
theorem dX1_guessed_27 : decode cX1_guessed 27 = .ok (.istore_n 3, 1) := by decide +kernel
theorem dX1_guessed_28 : decode cX1_guessed 28 = .ok (.iload_n 3, 1) := by decide +kernel
theorem dX1_guessed_29 : decode cX1_guessed 29 = .ok (.bipush 10, 2) := by decide +kernel
theorem dX1_guessed_31 : decode cX1_guessed 31 = .ok (.if_icmp .ne 8, 3) := by decide +kernel
theorem dX1_guessed_34 : decode cX1_guessed 34 = .ok (.bipush (-2), 2) := by decide +kernel
theorem dX1_guessed_36 : decode cX1_guessed 36 = .ok (.goto 4, 3) := by decide +kernel
theorem dX1_guessed_39 : decode cX1_guessed 39 = .ok (.iload_n 3, 1) := by decide +kernel
theorem dX1_guessed_40 : decode cX1_guessed 40 = .ok (.ireturn, 1) := by decide +kernel
theorem dX1_isAsRung_0 : decode cX1_isAsRung 0 = .ok (.iconst 0, 1) := by decide +kernel
theorem dX1_isAsRung_1 : decode cX1_isAsRung 1 = .ok (.istore_n 1, 1) := by decide +kernel
theorem dX1_isAsRung_2 : decode cX1_isAsRung 2 = .ok (.iload_n 1, 1) := by decide +kernel
theorem dX1_isAsRung_3 : decode cX1_isAsRung 3 = .ok (.aload_n 0, 1) := by decide +kernel
theorem dX1_isAsRung_4 : decode cX1_isAsRung 4 = .ok (.getfield 24, 3) := by decide +kernel
theorem dX1_isAsRung_7 : decode cX1_isAsRung 7 = .ok (.getfield 36, 3) := by decide +kernel
theorem dX1_isAsRung_10 : decode cX1_isAsRung 10 = .ok (.getfield 70, 3) := by decide +kernel
theorem dX1_isAsRung_13 : decode cX1_isAsRung 13 = .ok (.if_icmp .ge 63, 3) := by decide +kernel
theorem dX1_isAsRung_16 : decode cX1_isAsRung 16 = .ok (.aload_n 0, 1) := by decide +kernel
theorem dX1_isAsRung_17 : decode cX1_isAsRung 17 = .ok (.getfield 24, 3) := by decide +kernel
theorem dX1_isAsRung_20 : decode cX1_isAsRung 20 = .ok (.aload_n 0, 1) := by decide +kernel
theorem dX1_isAsRung_21 : decode cX1_isAsRung 21 = .ok (.getfield 24, 3) := by decide +kernel
theorem dX1_isAsRung_24 : decode cX1_isAsRung 24 = .ok (.getfield 58, 3) := by decide +kernel
theorem dX1_isAsRung_27 : decode cX1_isAsRung 27 = .ok (.iconst 0, 1) := by decide +kernel
theorem dX1_isAsRung_28 : decode cX1_isAsRung 28 = .ok (.aload_n 0, 1) := by decide +kernel
theorem dX1_isAsRung_29 : decode cX1_isAsRung 29 = .ok (.getfield 24, 3) := by decide +kernel
theorem dX1_isAsRung_32 : decode cX1_isAsRung 32 = .ok (.getfield 36, 3) := by decide +kernel
theorem dX1_isAsRung_35 : decode cX1_isAsRung 35 = .ok (.getfield 73, 3) := by decide +kernel
theorem dX1_isAsRung_38 : decode cX1_isAsRung 38 = .ok (.aload_n 0, 1) := by decide +kernel
theorem dX1_isAsRung_39 : decode cX1_isAsRung 39 = .ok (.getfield 24, 3) := by decide +kernel
theorem dX1_isAsRung_42 : decode cX1_isAsRung 42 = .ok (.getfield 36, 3) := by decide +kernel
theorem dX1_isAsRung_45 : decode cX1_isAsRung 45 = .ok (.getfield 76, 3) := by decide +kernel
theorem dX1_isAsRung_48 : decode cX1_isAsRung 48 = .ok (.iload_n 1, 1) := by decide +kernel
theorem dX1_isAsRung_49 : decode cX1_isAsRung 49 = .ok (.iaload, 1) := by decide +kernel
theorem dX1_isAsRung_50 : decode cX1_isAsRung 50 = .ok (.invokevirtual 79, 3) := by decide +kernel
theorem dX1_isAsRung_53 : decode cX1_isAsRung 53 = .ok (.aload_n 0, 1) := by decide +kernel
theorem dX1_isAsRung_54 : decode cX1_isAsRung 54 = .ok (.getfield 24, 3) := by decide +kernel
theorem dX1_isAsRung_57 : decode cX1_isAsRung 57 = .ok (.getfield 36, 3) := by decide +kernel
theorem dX1_isAsRung_60 : decode cX1_isAsRung 60 = .ok (.getfield 83, 3) := by decide +kernel
theorem dX1_isAsRung_63 : decode cX1_isAsRung 63 = .ok (.iload_n 1, 1) := by decide +kernel
theorem dX1_isAsRung_64 : decode cX1_isAsRung 64 = .ok (.iaload, 1) := by decide +kernel
theorem dX1_isAsRung_65 : decode cX1_isAsRung 65 = .ok (.if_icmp .eq 5, 3) := by decide +kernel
theorem dX1_isAsRung_68 : decode cX1_isAsRung 68 = .ok (.iconst 0, 1) := by decide +kernel
theorem dX1_isAsRung_69 : decode cX1_isAsRung 69 = .ok (.ireturn, 1) := by decide +kernel
theorem dX1_isAsRung_70 : decode cX1_isAsRung 70 = .ok (.iinc 1 1, 3) := by decide +kernel
theorem dX1_isAsRung_73 : decode cX1_isAsRung 73 = .ok (.goto (-71), 3) := by decide +kernel
theorem dX1_isAsRung_76 : decode cX1_isAsRung 76 = .ok (.iconst 1, 1) := by decide +kernel
theorem dX1_isAsRung_77 : decode cX1_isAsRung 77 = .ok (.ireturn, 1) := by decide +kernel
theorem dX1_soonest_0 : decode cX1_soonest 0 = .ok (.aload_n 0, 1) := by decide +kernel
theorem dX1_soonest_1 : decode cX1_soonest 1 = .ok (.getfield 24, 3) := by decide +kernel
theorem dX1_soonest_4 : decode cX1_soonest 4 = .ok (.aload_n 0, 1) := by decide +kernel
theorem dX1_soonest_5 : decode cX1_soonest 5 = .ok (.getfield 18, 3) := by decide +kernel
theorem dX1_soonest_8 : decode cX1_soonest 8 = .ok (.iload_n 1, 1) := by decide +kernel
theorem dX1_soonest_9 : decode cX1_soonest 9 = .ok (.aload_n 0, 1) := by decide +kernel
theorem dX1_soonest_10 : decode cX1_soonest 10 = .ok (.getfield 24, 3) := by decide +kernel
theorem dX1_soonest_13 : decode cX1_soonest 13 = .ok (.getfield 36, 3) := by decide +kernel
theorem dX1_soonest_16 : decode cX1_soonest 16 = .ok (.getfield 73, 3) := by decide +kernel
theorem dX1_soonest_19 : decode cX1_soonest 19 = .ok (.iload_n 2, 1) := by decide +kernel
theorem dX1_soonest_20 : decode cX1_soonest 20 = .ok (.invokevirtual 79, 3) := by decide +kernel
theorem dX1_soonest_23 : decode cX1_soonest 23 = .ok (.ireturn, 1) := by decide +kernel
theorem dX1_makeTry_0 : decode cX1_makeTry 0 = .ok (.aload_n 0, 1) := by decide +kernel
theorem dX1_makeTry_1 : decode cX1_makeTry 1 = .ok (.bipush (-2), 2) := by decide +kernel
theorem dX1_makeTry_3 : decode cX1_makeTry 3 = .ok (.putfield 86, 3) := by decide +kernel
theorem dX1_makeTry_6 : decode cX1_makeTry 6 = .ok (.aload_n 0, 1) := by decide +kernel
theorem dX1_makeTry_7 : decode cX1_makeTry 7 = .ok (.bipush (-2), 2) := by decide +kernel
theorem dX1_makeTry_9 : decode cX1_makeTry 9 = .ok (.putfield 89, 3) := by decide +kernel
theorem dX1_makeTry_12 : decode cX1_makeTry 12 = .ok (.iconst 0, 1) := by decide +kernel
theorem dX1_makeTry_13 : decode cX1_makeTry 13 = .ok (.istore_n 1, 1) := by decide +kernel
theorem dX1_makeTry_14 : decode cX1_makeTry 14 = .ok (.iload_n 1, 1) := by decide +kernel
theorem dX1_makeTry_15 : decode cX1_makeTry 15 = .ok (.bipush 20, 2) := by decide +kernel
theorem dX1_makeTry_17 : decode cX1_makeTry 17 = .ok (.if_icmp .gt 49, 3) := by decide +kernel
theorem dX1_makeTry_20 : decode cX1_makeTry 20 = .ok (.aload_n 0, 1) := by decide +kernel
theorem dX1_makeTry_21 : decode cX1_makeTry 21 = .ok (.getfield 32, 3) := by decide +kernel
theorem dX1_makeTry_24 : decode cX1_makeTry 24 = .ok (.ifCond .le 42, 3) := by decide +kernel
theorem dX1_makeTry_27 : decode cX1_makeTry 27 = .ok (.aload_n 0, 1) := by decide +kernel
theorem dX1_makeTry_28 : decode cX1_makeTry 28 = .ok (.iload_n 1, 1) := by decide +kernel
theorem dX1_makeTry_29 : decode cX1_makeTry 29 = .ok (.invokevirtual 92, 3) := by decide +kernel
theorem dX1_makeTry_32 : decode cX1_makeTry 32 = .ok (.istore_n 2, 1) := by decide +kernel
theorem dX1_makeTry_33 : decode cX1_makeTry 33 = .ok (.aload_n 0, 1) := by decide +kernel
theorem dX1_makeTry_34 : decode cX1_makeTry 34 = .ok (.getfield 86, 3) := by decide +kernel
theorem dX1_makeTry_37 : decode cX1_makeTry 37 = .ok (.bipush (-2), 2) := by decide +kernel
theorem dX1_makeTry_39 : decode cX1_makeTry 39 = .ok (.if_icmp .eq 11, 3) := by decide +kernel
theorem dX1_makeTry_42 : decode cX1_makeTry 42 = .ok (.iload_n 2, 1) := by decide +kernel
theorem dX1_makeTry_43 : decode cX1_makeTry 43 = .ok (.aload_n 0, 1) := by decide +kernel
theorem dX1_makeTry_44 : decode cX1_makeTry 44 = .ok (.getfield 89, 3) := by decide +kernel
theorem dX1_makeTry_47 : decode cX1_makeTry 47 = .ok (.if_icmp .ge 13, 3) := by decide +kernel
theorem dX1_makeTry_50 : decode cX1_makeTry 50 = .ok (.aload_n 0, 1) := by decide +kernel
theorem dX1_makeTry_51 : decode cX1_makeTry 51 = .ok (.iload_n 1, 1) := by decide +kernel
theorem dX1_makeTry_52 : decode cX1_makeTry 52 = .ok (.putfield 86, 3) := by decide +kernel
theorem dX1_makeTry_55 : decode cX1_makeTry 55 = .ok (.aload_n 0, 1) := by decide +kernel
theorem dX1_makeTry_56 : decode cX1_makeTry 56 = .ok (.iload_n 2, 1) := by decide +kernel
theorem dX1_makeTry_57 : decode cX1_makeTry 57 = .ok (.putfield 89, 3) := by decide +kernel
theorem dX1_makeTry_60 : decode cX1_makeTry 60 = .ok (.iinc 1 1, 3) := by decide +kernel
theorem dX1_makeTry_63 : decode cX1_makeTry 63 = .ok (.goto (-49), 3) := by decide +kernel
theorem dX1_makeTry_66 : decode cX1_makeTry 66 = .ok (.return_, 1) := by decide +kernel
theorem dX1_mostLeft_0 : decode cX1_mostLeft 0 = .ok (.iconst 0, 1) := by decide +kernel
theorem dX1_mostLeft_1 : decode cX1_mostLeft 1 = .ok (.istore_n 2, 1) := by decide +kernel
theorem dX1_mostLeft_2 : decode cX1_mostLeft 2 = .ok (.iload_n 2, 1) := by decide +kernel
theorem dX1_mostLeft_3 : decode cX1_mostLeft 3 = .ok (.bipush 6, 2) := by decide +kernel
theorem dX1_mostLeft_5 : decode cX1_mostLeft 5 = .ok (.if_icmp .gt 16, 3) := by decide +kernel
theorem dX1_mostLeft_8 : decode cX1_mostLeft 8 = .ok (.aload_n 0, 1) := by decide +kernel
theorem dX1_mostLeft_9 : decode cX1_mostLeft 9 = .ok (.getfield 15, 3) := by decide +kernel
theorem dX1_mostLeft_12 : decode cX1_mostLeft 12 = .ok (.iload_n 2, 1) := by decide +kernel
theorem dX1_mostLeft_13 : decode cX1_mostLeft 13 = .ok (.iconst 0, 1) := by decide +kernel
theorem dX1_mostLeft_14 : decode cX1_mostLeft 14 = .ok (.iastore, 1) := by decide +kernel
theorem dX1_mostLeft_15 : decode cX1_mostLeft 15 = .ok (.iinc 2 1, 3) := by decide +kernel
theorem dX1_mostLeft_18 : decode cX1_mostLeft 18 = .ok (.goto (-16), 3) := by decide +kernel
theorem dX1_mostLeft_21 : decode cX1_mostLeft 21 = .ok (.iconst 0, 1) := by decide +kernel
theorem dX1_mostLeft_22 : decode cX1_mostLeft 22 = .ok (.istore_n 2, 1) := by decide +kernel
theorem dX1_mostLeft_23 : decode cX1_mostLeft 23 = .ok (.iconst 0, 1) := by decide +kernel
theorem dX1_mostLeft_24 : decode cX1_mostLeft 24 = .ok (.istore_n 3, 1) := by decide +kernel
theorem dX1_mostLeft_25 : decode cX1_mostLeft 25 = .ok (.iload_n 3, 1) := by decide +kernel
theorem dX1_mostLeft_26 : decode cX1_mostLeft 26 = .ok (.aload_n 0, 1) := by decide +kernel
theorem dX1_mostLeft_27 : decode cX1_mostLeft 27 = .ok (.getfield 32, 3) := by decide +kernel
theorem dX1_mostLeft_30 : decode cX1_mostLeft 30 = .ok (.if_icmp .ge 56, 3) := by decide +kernel
theorem dX1_mostLeft_33 : decode cX1_mostLeft 33 = .ok (.aload_n 0, 1) := by decide +kernel
theorem dX1_mostLeft_34 : decode cX1_mostLeft 34 = .ok (.iload_n 3, 1) := by decide +kernel
theorem dX1_mostLeft_35 : decode cX1_mostLeft 35 = .ok (.iload_n 1, 1) := by decide +kernel
theorem dX1_mostLeft_36 : decode cX1_mostLeft 36 = .ok (.invokevirtual 96, 3) := by decide +kernel
theorem dX1_mostLeft_39 : decode cX1_mostLeft 39 = .ok (.istore 4, 2) := by decide +kernel
theorem dX1_mostLeft_41 : decode cX1_mostLeft 41 = .ok (.iload 4, 2) := by decide +kernel
theorem dX1_mostLeft_43 : decode cX1_mostLeft 43 = .ok (.bipush (-2), 2) := by decide +kernel
theorem dX1_mostLeft_45 : decode cX1_mostLeft 45 = .ok (.if_icmp .ne 8, 3) := by decide +kernel
theorem dX1_mostLeft_48 : decode cX1_mostLeft 48 = .ok (.bipush 6, 2) := by decide +kernel
theorem dX1_mostLeft_50 : decode cX1_mostLeft 50 = .ok (.goto 5, 3) := by decide +kernel
theorem dX1_mostLeft_53 : decode cX1_mostLeft 53 = .ok (.iload 4, 2) := by decide +kernel
theorem dX1_mostLeft_55 : decode cX1_mostLeft 55 = .ok (.istore 5, 2) := by decide +kernel
theorem dX1_mostLeft_57 : decode cX1_mostLeft 57 = .ok (.aload_n 0, 1) := by decide +kernel
theorem dX1_mostLeft_58 : decode cX1_mostLeft 58 = .ok (.getfield 15, 3) := by decide +kernel
theorem dX1_mostLeft_61 : decode cX1_mostLeft 61 = .ok (.iload 5, 2) := by decide +kernel
theorem dX1_mostLeft_63 : decode cX1_mostLeft 63 = .ok (.dup2, 1) := by decide +kernel
theorem dX1_mostLeft_64 : decode cX1_mostLeft 64 = .ok (.iaload, 1) := by decide +kernel
theorem dX1_mostLeft_65 : decode cX1_mostLeft 65 = .ok (.iconst 1, 1) := by decide +kernel
theorem dX1_mostLeft_66 : decode cX1_mostLeft 66 = .ok (.iadd, 1) := by decide +kernel
theorem dX1_mostLeft_67 : decode cX1_mostLeft 67 = .ok (.iastore, 1) := by decide +kernel
theorem dX1_mostLeft_68 : decode cX1_mostLeft 68 = .ok (.iload_n 2, 1) := by decide +kernel
theorem dX1_mostLeft_69 : decode cX1_mostLeft 69 = .ok (.aload_n 0, 1) := by decide +kernel
theorem dX1_mostLeft_70 : decode cX1_mostLeft 70 = .ok (.getfield 15, 3) := by decide +kernel
theorem dX1_mostLeft_73 : decode cX1_mostLeft 73 = .ok (.iload 5, 2) := by decide +kernel
theorem dX1_mostLeft_75 : decode cX1_mostLeft 75 = .ok (.iaload, 1) := by decide +kernel
theorem dX1_mostLeft_76 : decode cX1_mostLeft 76 = .ok (.invokestatic 99, 3) := by decide +kernel
theorem dX1_mostLeft_79 : decode cX1_mostLeft 79 = .ok (.istore_n 2, 1) := by decide +kernel
theorem dX1_mostLeft_80 : decode cX1_mostLeft 80 = .ok (.iinc 3 1, 3) := by decide +kernel
theorem dX1_mostLeft_83 : decode cX1_mostLeft 83 = .ok (.goto (-58), 3) := by decide +kernel
theorem dX1_mostLeft_86 : decode cX1_mostLeft 86 = .ok (.iload_n 2, 1) := by decide +kernel
theorem dX1_mostLeft_87 : decode cX1_mostLeft 87 = .ok (.ireturn, 1) := by decide +kernel
theorem dX2_init_0 : decode cX2_init 0 = .ok (.aload_n 0, 1) := by decide +kernel
theorem dX2_init_1 : decode cX2_init 1 = .ok (.invokespecial 3, 3) := by decide +kernel
theorem dX2_init_4 : decode cX2_init 4 = .ok (.aload_n 0, 1) := by decide +kernel
theorem dX2_init_5 : decode cX2_init 5 = .ok (.bipush 6, 2) := by decide +kernel
theorem dX2_init_7 : decode cX2_init 7 = .ok (.newarray .long, 2) := by decide +kernel
theorem dX2_init_9 : decode cX2_init 9 = .ok (.putfield 9, 3) := by decide +kernel
theorem dX2_init_12 : decode cX2_init 12 = .ok (.aload_n 0, 1) := by decide +kernel
theorem dX2_init_13 : decode cX2_init 13 = .ok (.aload_n 1, 1) := by decide +kernel
theorem dX2_init_14 : decode cX2_init 14 = .ok (.putfield 15, 3) := by decide +kernel
theorem dX2_init_17 : decode cX2_init 17 = .ok (.aload_n 0, 1) := by decide +kernel
theorem dX2_init_18 : decode cX2_init 18 = .ok (.aload_n 2, 1) := by decide +kernel
theorem dX2_init_19 : decode cX2_init 19 = .ok (.putfield 19, 3) := by decide +kernel
theorem dX2_init_22 : decode cX2_init 22 = .ok (.return_, 1) := by decide +kernel
theorem dX2_read_0 : decode cX2_read 0 = .ok (.aload_n 0, 1) := by decide +kernel
theorem dX2_read_1 : decode cX2_read 1 = .ok (.aload_n 1, 1) := by decide +kernel
theorem dX2_read_2 : decode cX2_read 2 = .ok (.putfield 19, 3) := by decide +kernel
theorem dX2_read_5 : decode cX2_read 5 = .ok (.aload_n 0, 1) := by decide +kernel
theorem dX2_read_6 : decode cX2_read 6 = .ok (.getfield 19, 3) := by decide +kernel
theorem dX2_read_9 : decode cX2_read 9 = .ok (.invokevirtual 23, 3) := by decide +kernel
theorem dX2_read_12 : decode cX2_read 12 = .ok (.aload_n 0, 1) := by decide +kernel
theorem dX2_read_13 : decode cX2_read 13 = .ok (.iload_n 2, 1) := by decide +kernel
theorem dX2_read_14 : decode cX2_read 14 = .ok (.putfield 28, 3) := by decide +kernel
theorem dX2_read_17 : decode cX2_read 17 = .ok (.aload_n 0, 1) := by decide +kernel
theorem dX2_read_18 : decode cX2_read 18 = .ok (.iconst 0, 1) := by decide +kernel
theorem dX2_read_19 : decode cX2_read 19 = .ok (.putfield 32, 3) := by decide +kernel
theorem dX2_read_22 : decode cX2_read 22 = .ok (.aload_n 0, 1) := by decide +kernel
theorem dX2_read_23 : decode cX2_read 23 = .ok (.iconst 0, 1) := by decide +kernel
theorem dX2_read_24 : decode cX2_read 24 = .ok (.putfield 36, 3) := by decide +kernel
theorem dX2_read_27 : decode cX2_read 27 = .ok (.aload_n 0, 1) := by decide +kernel
theorem dX2_read_28 : decode cX2_read 28 = .ok (.iconst (-1), 1) := by decide +kernel
theorem dX2_read_29 : decode cX2_read 29 = .ok (.putfield 39, 3) := by decide +kernel
theorem dX2_read_32 : decode cX2_read 32 = .ok (.aload_n 0, 1) := by decide +kernel
theorem dX2_read_33 : decode cX2_read 33 = .ok (.iconst 0, 1) := by decide +kernel
theorem dX2_read_34 : decode cX2_read 34 = .ok (.putfield 42, 3) := by decide +kernel
theorem dX2_read_37 : decode cX2_read 37 = .ok (.aload_n 0, 1) := by decide +kernel
theorem dX2_read_38 : decode cX2_read 38 = .ok (.invokevirtual 45, 3) := by decide +kernel
theorem dX2_read_41 : decode cX2_read 41 = .ok (.iconst 0, 1) := by decide +kernel
theorem dX2_read_42 : decode cX2_read 42 = .ok (.istore_n 3, 1) := by decide +kernel
theorem dX2_read_43 : decode cX2_read 43 = .ok (.iload_n 3, 1) := by decide +kernel
theorem dX2_read_44 : decode cX2_read 44 = .ok (.sipush 900, 3) := by decide +kernel
theorem dX2_read_47 : decode cX2_read 47 = .ok (.if_icmp .gt 68, 3) := by decide +kernel
theorem dX2_read_50 : decode cX2_read 50 = .ok (.aload_n 0, 1) := by decide +kernel
theorem dX2_read_51 : decode cX2_read 51 = .ok (.invokevirtual 48, 3) := by decide +kernel
theorem dX2_read_54 : decode cX2_read 54 = .ok (.ifCond .ne 5, 3) := by decide +kernel
theorem dX2_read_57 : decode cX2_read 57 = .ok (.iconst 0, 1) := by decide +kernel
theorem dX2_read_58 : decode cX2_read 58 = .ok (.ireturn, 1) := by decide +kernel
theorem dX2_read_59 : decode cX2_read 59 = .ok (.aload_n 0, 1) := by decide +kernel
theorem dX2_read_60 : decode cX2_read 60 = .ok (.getfield 52, 3) := by decide +kernel
theorem dX2_read_63 : decode cX2_read 63 = .ok (.ifCond .ne 28, 3) := by decide +kernel
theorem dX2_read_66 : decode cX2_read 66 = .ok (.aload_n 0, 1) := by decide +kernel
theorem dX2_read_67 : decode cX2_read 67 = .ok (.getfield 19, 3) := by decide +kernel
theorem dX2_read_70 : decode cX2_read 70 = .ok (.getfield 55, 3) := by decide +kernel
theorem dX2_read_73 : decode cX2_read 73 = .ok (.ifCond .gt 12, 3) := by decide +kernel
theorem dX2_read_76 : decode cX2_read 76 = .ok (.aload_n 0, 1) := by decide +kernel
theorem dX2_read_77 : decode cX2_read 77 = .ok (.bipush 6, 2) := by decide +kernel
theorem dX2_read_79 : decode cX2_read 79 = .ok (.invokevirtual 58, 3) := by decide +kernel
theorem dX2_read_82 : decode cX2_read 82 = .ok (.ifCond .eq 7, 3) := by decide +kernel
theorem dX2_read_85 : decode cX2_read 85 = .ok (.iconst 1, 1) := by decide +kernel
theorem dX2_read_86 : decode cX2_read 86 = .ok (.goto 4, 3) := by decide +kernel
theorem dX2_read_89 : decode cX2_read 89 = .ok (.iconst 0, 1) := by decide +kernel
theorem dX2_read_90 : decode cX2_read 90 = .ok (.ireturn, 1) := by decide +kernel
theorem dX2_read_91 : decode cX2_read 91 = .ok (.aload_n 0, 1) := by decide +kernel
theorem dX2_read_92 : decode cX2_read 92 = .ok (.getfield 52, 3) := by decide +kernel
theorem dX2_read_95 : decode cX2_read 95 = .ok (.iconst 3, 1) := by decide +kernel
theorem dX2_read_96 : decode cX2_read 96 = .ok (.if_icmp .eq 9, 3) := by decide +kernel
theorem dX2_read_99 : decode cX2_read 99 = .ok (.aload_n 0, 1) := by decide +kernel
theorem dX2_read_100 : decode cX2_read 100 = .ok (.iconst 1, 1) := by decide +kernel
theorem dX2_read_101 : decode cX2_read 101 = .ok (.invokevirtual 58, 3) := by decide +kernel
theorem dX2_read_104 : decode cX2_read 104 = .ok (.ireturn, 1) := by decide +kernel
theorem dX2_read_105 : decode cX2_read 105 = .ok (.aload_n 0, 1) := by decide +kernel
theorem dX2_read_106 : decode cX2_read 106 = .ok (.invokevirtual 45, 3) := by decide +kernel
theorem dX2_read_109 : decode cX2_read 109 = .ok (.iinc 3 1, 3) := by decide +kernel
theorem dX2_read_112 : decode cX2_read 112 = .ok (.goto (-69), 3) := by decide +kernel
theorem dX2_read_115 : decode cX2_read 115 = .ok (.aload_n 0, 1) := by decide +kernel
theorem dX2_read_116 : decode cX2_read 116 = .ok (.iconst 1, 1) := by decide +kernel
theorem dX2_read_117 : decode cX2_read 117 = .ok (.invokevirtual 58, 3) := by decide +kernel
theorem dX2_read_120 : decode cX2_read 120 = .ok (.ireturn, 1) := by decide +kernel
theorem dX2_fail_0 : decode cX2_fail 0 = .ok (.aload_n 0, 1) := by decide +kernel
theorem dX2_fail_1 : decode cX2_fail 1 = .ok (.iload_n 1, 1) := by decide +kernel
theorem dX2_fail_2 : decode cX2_fail 2 = .ok (.putfield 36, 3) := by decide +kernel
theorem dX2_fail_5 : decode cX2_fail 5 = .ok (.aload_n 0, 1) := by decide +kernel
theorem dX2_fail_6 : decode cX2_fail 6 = .ok (.aload_n 0, 1) := by decide +kernel
theorem dX2_fail_7 : decode cX2_fail 7 = .ok (.getfield 62, 3) := by decide +kernel
theorem dX2_fail_10 : decode cX2_fail 10 = .ok (.putfield 39, 3) := by decide +kernel
theorem dX2_fail_13 : decode cX2_fail 13 = .ok (.iconst 0, 1) := by decide +kernel
theorem dX2_fail_14 : decode cX2_fail 14 = .ok (.ireturn, 1) := by decide +kernel
theorem dX2_step_0 : decode cX2_step 0 = .ok (.aload_n 0, 1) := by decide +kernel
theorem dX2_step_1 : decode cX2_step 1 = .ok (.aload_n 0, 1) := by decide +kernel
theorem dX2_step_2 : decode cX2_step 2 = .ok (.getfield 42, 3) := by decide +kernel
theorem dX2_step_5 : decode cX2_step 5 = .ok (.putfield 62, 3) := by decide +kernel
theorem dX2_step_8 : decode cX2_step 8 = .ok (.aload_n 0, 1) := by decide +kernel
theorem dX2_step_9 : decode cX2_step 9 = .ok (.getfield 62, 3) := by decide +kernel
theorem dX2_step_12 : decode cX2_step 12 = .ok (.aload_n 0, 1) := by decide +kernel
theorem dX2_step_13 : decode cX2_step 13 = .ok (.getfield 28, 3) := by decide +kernel
theorem dX2_step_16 : decode cX2_step 16 = .ok (.if_icmp .ge 32, 3) := by decide +kernel
theorem dX2_step_19 : decode cX2_step 19 = .ok (.aload_n 0, 1) := by decide +kernel
theorem dX2_step_20 : decode cX2_step 20 = .ok (.getfield 15, 3) := by decide +kernel
theorem dX2_step_23 : decode cX2_step 23 = .ok (.aload_n 0, 1) := by decide +kernel
theorem dX2_step_24 : decode cX2_step 24 = .ok (.getfield 62, 3) := by decide +kernel
theorem dX2_step_27 : decode cX2_step 27 = .ok (.invokevirtual 65, 3) := by decide +kernel
theorem dX2_step_30 : decode cX2_step 30 = .ok (.bipush 32, 2) := by decide +kernel
theorem dX2_step_32 : decode cX2_step 32 = .ok (.if_icmp .ne 16, 3) := by decide +kernel
theorem dX2_step_35 : decode cX2_step 35 = .ok (.aload_n 0, 1) := by decide +kernel
theorem dX2_step_36 : decode cX2_step 36 = .ok (.dup, 1) := by decide +kernel
theorem dX2_step_37 : decode cX2_step 37 = .ok (.getfield 62, 3) := by decide +kernel
theorem dX2_step_40 : decode cX2_step 40 = .ok (.iconst 1, 1) := by decide +kernel
theorem dX2_step_41 : decode cX2_step 41 = .ok (.iadd, 1) := by decide +kernel
theorem dX2_step_42 : decode cX2_step 42 = .ok (.putfield 62, 3) := by decide +kernel
theorem dX2_step_45 : decode cX2_step 45 = .ok (.goto (-37), 3) := by decide +kernel
theorem dX2_step_48 : decode cX2_step 48 = .ok (.aload_n 0, 1) := by decide +kernel
theorem dX2_step_49 : decode cX2_step 49 = .ok (.aload_n 0, 1) := by decide +kernel
theorem dX2_step_50 : decode cX2_step 50 = .ok (.getfield 62, 3) := by decide +kernel
theorem dX2_step_53 : decode cX2_step 53 = .ok (.putfield 42, 3) := by decide +kernel
theorem dX2_step_56 : decode cX2_step 56 = .ok (.aload_n 0, 1) := by decide +kernel
theorem dX2_step_57 : decode cX2_step 57 = .ok (.getfield 62, 3) := by decide +kernel
theorem dX2_step_60 : decode cX2_step 60 = .ok (.aload_n 0, 1) := by decide +kernel
theorem dX2_step_61 : decode cX2_step 61 = .ok (.getfield 28, 3) := by decide +kernel
theorem dX2_step_64 : decode cX2_step 64 = .ok (.if_icmp .lt 11, 3) := by decide +kernel
theorem dX2_step_67 : decode cX2_step 67 = .ok (.aload_n 0, 1) := by decide +kernel
theorem dX2_step_68 : decode cX2_step 68 = .ok (.iconst 0, 1) := by decide +kernel
theorem dX2_step_69 : decode cX2_step 69 = .ok (.putfield 52, 3) := by decide +kernel
theorem dX2_step_72 : decode cX2_step 72 = .ok (.goto 205, 3) := by decide +kernel
theorem dX2_step_75 : decode cX2_step 75 = .ok (.aload_n 0, 1) := by decide +kernel
theorem dX2_step_76 : decode cX2_step 76 = .ok (.getfield 15, 3) := by decide +kernel
theorem dX2_step_79 : decode cX2_step 79 = .ok (.aload_n 0, 1) := by decide +kernel
theorem dX2_step_80 : decode cX2_step 80 = .ok (.getfield 62, 3) := by decide +kernel
theorem dX2_step_83 : decode cX2_step 83 = .ok (.invokevirtual 65, 3) := by decide +kernel
theorem dX2_step_86 : decode cX2_step 86 = .ok (.invokestatic 71, 3) := by decide +kernel
theorem dX2_step_89 : decode cX2_step 89 = .ok (.ifCond .eq 70, 3) := by decide +kernel
theorem dX2_step_92 : decode cX2_step 92 = .ok (.aload_n 0, 1) := by decide +kernel
theorem dX2_step_93 : decode cX2_step 93 = .ok (.getfield 42, 3) := by decide +kernel
theorem dX2_step_96 : decode cX2_step 96 = .ok (.aload_n 0, 1) := by decide +kernel
theorem dX2_step_97 : decode cX2_step 97 = .ok (.getfield 28, 3) := by decide +kernel
theorem dX2_step_100 : decode cX2_step 100 = .ok (.if_icmp .ge 33, 3) := by decide +kernel
theorem dX2_step_103 : decode cX2_step 103 = .ok (.aload_n 0, 1) := by decide +kernel
theorem dX2_step_104 : decode cX2_step 104 = .ok (.getfield 15, 3) := by decide +kernel
theorem dX2_step_107 : decode cX2_step 107 = .ok (.aload_n 0, 1) := by decide +kernel
theorem dX2_step_108 : decode cX2_step 108 = .ok (.getfield 42, 3) := by decide +kernel
theorem dX2_step_111 : decode cX2_step 111 = .ok (.invokevirtual 65, 3) := by decide +kernel
theorem dX2_step_114 : decode cX2_step 114 = .ok (.invokestatic 71, 3) := by decide +kernel
theorem dX2_step_117 : decode cX2_step 117 = .ok (.ifCond .eq 16, 3) := by decide +kernel
theorem dX2_step_120 : decode cX2_step 120 = .ok (.aload_n 0, 1) := by decide +kernel
theorem dX2_step_121 : decode cX2_step 121 = .ok (.dup, 1) := by decide +kernel
theorem dX2_step_122 : decode cX2_step 122 = .ok (.getfield 42, 3) := by decide +kernel
theorem dX2_step_125 : decode cX2_step 125 = .ok (.iconst 1, 1) := by decide +kernel
theorem dX2_step_126 : decode cX2_step 126 = .ok (.iadd, 1) := by decide +kernel
theorem dX2_step_127 : decode cX2_step 127 = .ok (.putfield 42, 3) := by decide +kernel
theorem dX2_step_130 : decode cX2_step 130 = .ok (.goto (-38), 3) := by decide +kernel
theorem dX2_step_133 : decode cX2_step 133 = .ok (.aload_n 0, 1) := by decide +kernel
theorem dX2_step_134 : decode cX2_step 134 = .ok (.aload_n 0, 1) := by decide +kernel
theorem dX2_step_135 : decode cX2_step 135 = .ok (.getfield 42, 3) := by decide +kernel
theorem dX2_step_138 : decode cX2_step 138 = .ok (.aload_n 0, 1) := by decide +kernel
theorem dX2_step_139 : decode cX2_step 139 = .ok (.getfield 62, 3) := by decide +kernel
theorem dX2_step_142 : decode cX2_step 142 = .ok (.isub, 1) := by decide +kernel
theorem dX2_step_143 : decode cX2_step 143 = .ok (.bipush 8, 2) := by decide +kernel
theorem dX2_step_145 : decode cX2_step 145 = .ok (.if_icmp .gt 7, 3) := by decide +kernel
theorem dX2_step_148 : decode cX2_step 148 = .ok (.iconst 1, 1) := by decide +kernel
theorem dX2_step_149 : decode cX2_step 149 = .ok (.goto 4, 3) := by decide +kernel
theorem dX2_step_152 : decode cX2_step 152 = .ok (.iconst 4, 1) := by decide +kernel
theorem dX2_step_153 : decode cX2_step 153 = .ok (.putfield 52, 3) := by decide +kernel
theorem dX2_step_156 : decode cX2_step 156 = .ok (.goto 121, 3) := by decide +kernel
theorem dX2_step_159 : decode cX2_step 159 = .ok (.aload_n 0, 1) := by decide +kernel
theorem dX2_step_160 : decode cX2_step 160 = .ok (.getfield 15, 3) := by decide +kernel
theorem dX2_step_163 : decode cX2_step 163 = .ok (.aload_n 0, 1) := by decide +kernel
theorem dX2_step_164 : decode cX2_step 164 = .ok (.getfield 62, 3) := by decide +kernel
theorem dX2_step_167 : decode cX2_step 167 = .ok (.invokevirtual 65, 3) := by decide +kernel
theorem dX2_step_170 : decode cX2_step 170 = .ok (.invokestatic 74, 3) := by decide +kernel
theorem dX2_step_173 : decode cX2_step 173 = .ok (.ifCond .eq 69, 3) := by decide +kernel
theorem dX2_step_176 : decode cX2_step 176 = .ok (.aload_n 0, 1) := by decide +kernel
theorem dX2_step_177 : decode cX2_step 177 = .ok (.getfield 42, 3) := by decide +kernel
theorem dX2_step_180 : decode cX2_step 180 = .ok (.aload_n 0, 1) := by decide +kernel
theorem dX2_step_181 : decode cX2_step 181 = .ok (.getfield 28, 3) := by decide +kernel
theorem dX2_step_184 : decode cX2_step 184 = .ok (.if_icmp .ge 33, 3) := by decide +kernel
theorem dX2_step_187 : decode cX2_step 187 = .ok (.aload_n 0, 1) := by decide +kernel
theorem dX2_step_188 : decode cX2_step 188 = .ok (.getfield 15, 3) := by decide +kernel
theorem dX2_step_191 : decode cX2_step 191 = .ok (.aload_n 0, 1) := by decide +kernel
theorem dX2_step_192 : decode cX2_step 192 = .ok (.getfield 42, 3) := by decide +kernel
theorem dX2_step_195 : decode cX2_step 195 = .ok (.invokevirtual 65, 3) := by decide +kernel
theorem dX2_step_198 : decode cX2_step 198 = .ok (.invokestatic 74, 3) := by decide +kernel
theorem dX2_step_201 : decode cX2_step 201 = .ok (.ifCond .eq 16, 3) := by decide +kernel
theorem dX2_step_204 : decode cX2_step 204 = .ok (.aload_n 0, 1) := by decide +kernel
theorem dX2_step_205 : decode cX2_step 205 = .ok (.dup, 1) := by decide +kernel
theorem dX2_step_206 : decode cX2_step 206 = .ok (.getfield 42, 3) := by decide +kernel
theorem dX2_step_209 : decode cX2_step 209 = .ok (.iconst 1, 1) := by decide +kernel
theorem dX2_step_210 : decode cX2_step 210 = .ok (.iadd, 1) := by decide +kernel
theorem dX2_step_211 : decode cX2_step 211 = .ok (.putfield 42, 3) := by decide +kernel
theorem dX2_step_214 : decode cX2_step 214 = .ok (.goto (-38), 3) := by decide +kernel
theorem dX2_step_217 : decode cX2_step 217 = .ok (.aload_n 0, 1) := by decide +kernel
theorem dX2_step_218 : decode cX2_step 218 = .ok (.aload_n 0, 1) := by decide +kernel
theorem dX2_step_219 : decode cX2_step 219 = .ok (.getfield 42, 3) := by decide +kernel
theorem dX2_step_222 : decode cX2_step 222 = .ok (.aload_n 0, 1) := by decide +kernel
theorem dX2_step_223 : decode cX2_step 223 = .ok (.getfield 62, 3) := by decide +kernel
theorem dX2_step_226 : decode cX2_step 226 = .ok (.isub, 1) := by decide +kernel
theorem dX2_step_227 : decode cX2_step 227 = .ok (.iconst 3, 1) := by decide +kernel
theorem dX2_step_228 : decode cX2_step 228 = .ok (.if_icmp .gt 7, 3) := by decide +kernel
theorem dX2_step_231 : decode cX2_step 231 = .ok (.iconst 2, 1) := by decide +kernel
theorem dX2_step_232 : decode cX2_step 232 = .ok (.goto 4, 3) := by decide +kernel
theorem dX2_step_235 : decode cX2_step 235 = .ok (.iconst 4, 1) := by decide +kernel
theorem dX2_step_236 : decode cX2_step 236 = .ok (.putfield 52, 3) := by decide +kernel
theorem dX2_step_239 : decode cX2_step 239 = .ok (.goto 38, 3) := by decide +kernel
theorem dX2_step_242 : decode cX2_step 242 = .ok (.aload_n 0, 1) := by decide +kernel
theorem dX2_step_243 : decode cX2_step 243 = .ok (.aload_n 0, 1) := by decide +kernel
theorem dX2_step_244 : decode cX2_step 244 = .ok (.getfield 15, 3) := by decide +kernel
theorem dX2_step_247 : decode cX2_step 247 = .ok (.aload_n 0, 1) := by decide +kernel
theorem dX2_step_248 : decode cX2_step 248 = .ok (.getfield 62, 3) := by decide +kernel
theorem dX2_step_251 : decode cX2_step 251 = .ok (.invokevirtual 65, 3) := by decide +kernel
theorem dX2_step_254 : decode cX2_step 254 = .ok (.bipush 59, 2) := by decide +kernel
theorem dX2_step_256 : decode cX2_step 256 = .ok (.if_icmp .ne 7, 3) := by decide +kernel
theorem dX2_step_259 : decode cX2_step 259 = .ok (.iconst 3, 1) := by decide +kernel
theorem dX2_step_260 : decode cX2_step 260 = .ok (.goto 4, 3) := by decide +kernel
theorem dX2_step_263 : decode cX2_step 263 = .ok (.iconst 4, 1) := by decide +kernel
theorem dX2_step_264 : decode cX2_step 264 = .ok (.putfield 52, 3) := by decide +kernel
theorem dX2_step_267 : decode cX2_step 267 = .ok (.aload_n 0, 1) := by decide +kernel
theorem dX2_step_268 : decode cX2_step 268 = .ok (.dup, 1) := by decide +kernel
theorem dX2_step_269 : decode cX2_step 269 = .ok (.getfield 42, 3) := by decide +kernel
theorem dX2_step_272 : decode cX2_step 272 = .ok (.iconst 1, 1) := by decide +kernel
theorem dX2_step_273 : decode cX2_step 273 = .ok (.iadd, 1) := by decide +kernel
theorem dX2_step_274 : decode cX2_step 274 = .ok (.putfield 42, 3) := by decide +kernel
theorem dX2_step_277 : decode cX2_step 277 = .ok (.return_, 1) := by decide +kernel
theorem dX2_isLetter_0 : decode cX2_isLetter 0 = .ok (.iload_n 0, 1) := by decide +kernel
theorem dX2_isLetter_1 : decode cX2_isLetter 1 = .ok (.bipush 97, 2) := by decide +kernel
theorem dX2_isLetter_3 : decode cX2_isLetter 3 = .ok (.if_icmp .lt 13, 3) := by decide +kernel
theorem dX2_isLetter_6 : decode cX2_isLetter 6 = .ok (.iload_n 0, 1) := by decide +kernel
theorem dX2_isLetter_7 : decode cX2_isLetter 7 = .ok (.bipush 122, 2) := by decide +kernel
theorem dX2_isLetter_9 : decode cX2_isLetter 9 = .ok (.if_icmp .gt 7, 3) := by decide +kernel
theorem dX2_isLetter_12 : decode cX2_isLetter 12 = .ok (.iconst 1, 1) := by decide +kernel
theorem dX2_isLetter_13 : decode cX2_isLetter 13 = .ok (.goto 4, 3) := by decide +kernel
theorem dX2_isLetter_16 : decode cX2_isLetter 16 = .ok (.iconst 0, 1) := by decide +kernel
theorem dX2_isLetter_17 : decode cX2_isLetter 17 = .ok (.ireturn, 1) := by decide +kernel
theorem dX2_isDigit_0 : decode cX2_isDigit 0 = .ok (.iload_n 0, 1) := by decide +kernel
theorem dX2_isDigit_1 : decode cX2_isDigit 1 = .ok (.bipush 48, 2) := by decide +kernel
theorem dX2_isDigit_3 : decode cX2_isDigit 3 = .ok (.if_icmp .lt 13, 3) := by decide +kernel
theorem dX2_isDigit_6 : decode cX2_isDigit 6 = .ok (.iload_n 0, 1) := by decide +kernel
theorem dX2_isDigit_7 : decode cX2_isDigit 7 = .ok (.bipush 57, 2) := by decide +kernel
theorem dX2_isDigit_9 : decode cX2_isDigit 9 = .ok (.if_icmp .gt 7, 3) := by decide +kernel
theorem dX2_isDigit_12 : decode cX2_isDigit 12 = .ok (.iconst 1, 1) := by decide +kernel
theorem dX2_isDigit_13 : decode cX2_isDigit 13 = .ok (.goto 4, 3) := by decide +kernel
theorem dX2_isDigit_16 : decode cX2_isDigit 16 = .ok (.iconst 0, 1) := by decide +kernel
theorem dX2_isDigit_17 : decode cX2_isDigit 17 = .ok (.ireturn, 1) := by decide +kernel
theorem dX2_isWord_0 : decode cX2_isWord 0 = .ok (.aload_n 0, 1) := by decide +kernel
theorem dX2_isWord_1 : decode cX2_isWord 1 = .ok (.getfield 52, 3) := by decide +kernel
theorem dX2_isWord_4 : decode cX2_isWord 4 = .ok (.iconst 1, 1) := by decide +kernel
theorem dX2_isWord_5 : decode cX2_isWord 5 = .ok (.if_icmp .ne 19, 3) := by decide +kernel
theorem dX2_isWord_8 : decode cX2_isWord 8 = .ok (.aload_n 1, 1) := by decide +kernel
theorem dX2_isWord_9 : decode cX2_isWord 9 = .ok (.invokevirtual 77, 3) := by decide +kernel
theorem dX2_isWord_12 : decode cX2_isWord 12 = .ok (.aload_n 0, 1) := by decide +kernel
theorem dX2_isWord_13 : decode cX2_isWord 13 = .ok (.getfield 42, 3) := by decide +kernel
theorem dX2_isWord_16 : decode cX2_isWord 16 = .ok (.aload_n 0, 1) := by decide +kernel
theorem dX2_isWord_17 : decode cX2_isWord 17 = .ok (.getfield 62, 3) := by decide +kernel
theorem dX2_isWord_20 : decode cX2_isWord 20 = .ok (.isub, 1) := by decide +kernel
theorem dX2_isWord_21 : decode cX2_isWord 21 = .ok (.if_icmp .eq 5, 3) := by decide +kernel
theorem dX2_isWord_24 : decode cX2_isWord 24 = .ok (.iconst 0, 1) := by decide +kernel
theorem dX2_isWord_25 : decode cX2_isWord 25 = .ok (.ireturn, 1) := by decide +kernel
theorem dX2_isWord_26 : decode cX2_isWord 26 = .ok (.iconst 0, 1) := by decide +kernel
theorem dX2_isWord_27 : decode cX2_isWord 27 = .ok (.istore_n 2, 1) := by decide +kernel
theorem dX2_isWord_28 : decode cX2_isWord 28 = .ok (.iload_n 2, 1) := by decide +kernel
theorem dX2_isWord_29 : decode cX2_isWord 29 = .ok (.aload_n 1, 1) := by decide +kernel
theorem dX2_isWord_30 : decode cX2_isWord 30 = .ok (.invokevirtual 77, 3) := by decide +kernel
theorem dX2_isWord_33 : decode cX2_isWord 33 = .ok (.if_icmp .ge 32, 3) := by decide +kernel
theorem dX2_isWord_36 : decode cX2_isWord 36 = .ok (.aload_n 1, 1) := by decide +kernel
theorem dX2_isWord_37 : decode cX2_isWord 37 = .ok (.iload_n 2, 1) := by decide +kernel
theorem dX2_isWord_38 : decode cX2_isWord 38 = .ok (.invokevirtual 83, 3) := by decide +kernel
theorem dX2_isWord_41 : decode cX2_isWord 41 = .ok (.aload_n 0, 1) := by decide +kernel
theorem dX2_isWord_42 : decode cX2_isWord 42 = .ok (.getfield 15, 3) := by decide +kernel
theorem dX2_isWord_45 : decode cX2_isWord 45 = .ok (.aload_n 0, 1) := by decide +kernel
theorem dX2_isWord_46 : decode cX2_isWord 46 = .ok (.getfield 62, 3) := by decide +kernel
theorem dX2_isWord_49 : decode cX2_isWord 49 = .ok (.iload_n 2, 1) := by decide +kernel
theorem dX2_isWord_50 : decode cX2_isWord 50 = .ok (.iadd, 1) := by decide +kernel
theorem dX2_isWord_51 : decode cX2_isWord 51 = .ok (.invokevirtual 65, 3) := by decide +kernel
theorem dX2_isWord_54 : decode cX2_isWord 54 = .ok (.if_icmp .eq 5, 3) := by decide +kernel
theorem dX2_isWord_57 : decode cX2_isWord 57 = .ok (.iconst 0, 1) := by decide +kernel
theorem dX2_isWord_58 : decode cX2_isWord 58 = .ok (.ireturn, 1) := by decide +kernel
theorem dX2_isWord_59 : decode cX2_isWord 59 = .ok (.iinc 2 1, 3) := by decide +kernel
theorem dX2_isWord_62 : decode cX2_isWord 62 = .ok (.goto (-34), 3) := by decide +kernel
theorem dX2_isWord_65 : decode cX2_isWord 65 = .ok (.iconst 1, 1) := by decide +kernel
theorem dX2_isWord_66 : decode cX2_isWord 66 = .ok (.ireturn, 1) := by decide +kernel
theorem dX2_reserved_0 : decode cX2_reserved 0 = .ok (.aload_n 0, 1) := by decide +kernel
theorem dX2_reserved_1 : decode cX2_reserved 1 = .ok (.ldc 87, 2) := by decide +kernel
theorem dX2_reserved_3 : decode cX2_reserved 3 = .ok (.invokevirtual 89, 3) := by decide +kernel
theorem dX2_reserved_6 : decode cX2_reserved 6 = .ok (.ifCond .eq 5, 3) := by decide +kernel
theorem dX2_reserved_9 : decode cX2_reserved 9 = .ok (.iconst 0, 1) := by decide +kernel
theorem dX2_reserved_10 : decode cX2_reserved 10 = .ok (.ireturn, 1) := by decide +kernel
theorem dX2_reserved_11 : decode cX2_reserved 11 = .ok (.aload_n 0, 1) := by decide +kernel
theorem dX2_reserved_12 : decode cX2_reserved 12 = .ok (.ldc 93, 2) := by decide +kernel
theorem dX2_reserved_14 : decode cX2_reserved 14 = .ok (.invokevirtual 89, 3) := by decide +kernel
theorem dX2_reserved_17 : decode cX2_reserved 17 = .ok (.ifCond .eq 5, 3) := by decide +kernel
theorem dX2_reserved_20 : decode cX2_reserved 20 = .ok (.iconst 1, 1) := by decide +kernel
theorem dX2_reserved_21 : decode cX2_reserved 21 = .ok (.ireturn, 1) := by decide +kernel
theorem dX2_reserved_22 : decode cX2_reserved 22 = .ok (.aload_n 0, 1) := by decide +kernel
theorem dX2_reserved_23 : decode cX2_reserved 23 = .ok (.ldc 95, 2) := by decide +kernel
theorem dX2_reserved_25 : decode cX2_reserved 25 = .ok (.invokevirtual 89, 3) := by decide +kernel
theorem dX2_reserved_28 : decode cX2_reserved 28 = .ok (.ifCond .eq 5, 3) := by decide +kernel
theorem dX2_reserved_31 : decode cX2_reserved 31 = .ok (.iconst 2, 1) := by decide +kernel
theorem dX2_reserved_32 : decode cX2_reserved 32 = .ok (.ireturn, 1) := by decide +kernel
theorem dX2_reserved_33 : decode cX2_reserved 33 = .ok (.aload_n 0, 1) := by decide +kernel
theorem dX2_reserved_34 : decode cX2_reserved 34 = .ok (.ldc 97, 2) := by decide +kernel
theorem dX2_reserved_36 : decode cX2_reserved 36 = .ok (.invokevirtual 89, 3) := by decide +kernel
theorem dX2_reserved_39 : decode cX2_reserved 39 = .ok (.ifCond .eq 5, 3) := by decide +kernel
theorem dX2_reserved_42 : decode cX2_reserved 42 = .ok (.iconst 3, 1) := by decide +kernel
theorem dX2_reserved_43 : decode cX2_reserved 43 = .ok (.ireturn, 1) := by decide +kernel
theorem dX2_reserved_44 : decode cX2_reserved 44 = .ok (.aload_n 0, 1) := by decide +kernel
theorem dX2_reserved_45 : decode cX2_reserved 45 = .ok (.ldc 99, 2) := by decide +kernel
theorem dX2_reserved_47 : decode cX2_reserved 47 = .ok (.invokevirtual 89, 3) := by decide +kernel
theorem dX2_reserved_50 : decode cX2_reserved 50 = .ok (.ifCond .eq 5, 3) := by decide +kernel
theorem dX2_reserved_53 : decode cX2_reserved 53 = .ok (.iconst 4, 1) := by decide +kernel
theorem dX2_reserved_54 : decode cX2_reserved 54 = .ok (.ireturn, 1) := by decide +kernel
theorem dX2_reserved_55 : decode cX2_reserved 55 = .ok (.aload_n 0, 1) := by decide +kernel
theorem dX2_reserved_56 : decode cX2_reserved 56 = .ok (.ldc 101, 2) := by decide +kernel
theorem dX2_reserved_58 : decode cX2_reserved 58 = .ok (.invokevirtual 89, 3) := by decide +kernel
theorem dX2_reserved_61 : decode cX2_reserved 61 = .ok (.ifCond .eq 5, 3) := by decide +kernel
theorem dX2_reserved_64 : decode cX2_reserved 64 = .ok (.iconst 5, 1) := by decide +kernel
theorem dX2_reserved_65 : decode cX2_reserved 65 = .ok (.ireturn, 1) := by decide +kernel
theorem dX2_reserved_66 : decode cX2_reserved 66 = .ok (.aload_n 0, 1) := by decide +kernel
theorem dX2_reserved_67 : decode cX2_reserved 67 = .ok (.ldc 103, 2) := by decide +kernel
theorem dX2_reserved_69 : decode cX2_reserved 69 = .ok (.invokevirtual 89, 3) := by decide +kernel
theorem dX2_reserved_72 : decode cX2_reserved 72 = .ok (.ifCond .eq 6, 3) := by decide +kernel
theorem dX2_reserved_75 : decode cX2_reserved 75 = .ok (.bipush 6, 2) := by decide +kernel
theorem dX2_reserved_77 : decode cX2_reserved 77 = .ok (.ireturn, 1) := by decide +kernel
theorem dX2_reserved_78 : decode cX2_reserved 78 = .ok (.aload_n 0, 1) := by decide +kernel
theorem dX2_reserved_79 : decode cX2_reserved 79 = .ok (.ldc 105, 2) := by decide +kernel
theorem dX2_reserved_81 : decode cX2_reserved 81 = .ok (.invokevirtual 89, 3) := by decide +kernel
theorem dX2_reserved_84 : decode cX2_reserved 84 = .ok (.ifCond .eq 6, 3) := by decide +kernel
theorem dX2_reserved_87 : decode cX2_reserved 87 = .ok (.bipush 7, 2) := by decide +kernel
theorem dX2_reserved_89 : decode cX2_reserved 89 = .ok (.ireturn, 1) := by decide +kernel
theorem dX2_reserved_90 : decode cX2_reserved 90 = .ok (.aload_n 0, 1) := by decide +kernel
theorem dX2_reserved_91 : decode cX2_reserved 91 = .ok (.ldc 107, 2) := by decide +kernel
theorem dX2_reserved_93 : decode cX2_reserved 93 = .ok (.invokevirtual 89, 3) := by decide +kernel
theorem dX2_reserved_96 : decode cX2_reserved 96 = .ok (.ifCond .eq 8, 3) := by decide +kernel
theorem dX2_reserved_99 : decode cX2_reserved 99 = .ok (.bipush 8, 2) := by decide +kernel
theorem dX2_reserved_101 : decode cX2_reserved 101 = .ok (.goto 4, 3) := by decide +kernel
theorem dX2_reserved_104 : decode cX2_reserved 104 = .ok (.iconst (-1), 1) := by decide +kernel
theorem dX2_reserved_105 : decode cX2_reserved 105 = .ok (.ireturn, 1) := by decide +kernel
theorem dX2_nameHere_0 : decode cX2_nameHere 0 = .ok (.lconst 0, 1) := by decide +kernel
theorem dX2_nameHere_1 : decode cX2_nameHere 1 = .ok (.lstore_n 1, 1) := by decide +kernel
theorem dX2_nameHere_2 : decode cX2_nameHere 2 = .ok (.aload_n 0, 1) := by decide +kernel
theorem dX2_nameHere_3 : decode cX2_nameHere 3 = .ok (.getfield 62, 3) := by decide +kernel
theorem dX2_nameHere_6 : decode cX2_nameHere 6 = .ok (.istore_n 3, 1) := by decide +kernel
theorem dX2_nameHere_7 : decode cX2_nameHere 7 = .ok (.iload_n 3, 1) := by decide +kernel
theorem dX2_nameHere_8 : decode cX2_nameHere 8 = .ok (.aload_n 0, 1) := by decide +kernel
theorem dX2_nameHere_9 : decode cX2_nameHere 9 = .ok (.getfield 42, 3) := by decide +kernel
theorem dX2_nameHere_12 : decode cX2_nameHere 12 = .ok (.if_icmp .ge 31, 3) := by decide +kernel
theorem dX2_nameHere_15 : decode cX2_nameHere 15 = .ok (.lload_n 1, 1) := by decide +kernel
theorem dX2_nameHere_16 : decode cX2_nameHere 16 = .ok (.ldc2_w 109, 3) := by decide +kernel
theorem dX2_nameHere_19 : decode cX2_nameHere 19 = .ok (.lmul, 1) := by decide +kernel
theorem dX2_nameHere_20 : decode cX2_nameHere 20 = .ok (.aload_n 0, 1) := by decide +kernel
theorem dX2_nameHere_21 : decode cX2_nameHere 21 = .ok (.getfield 15, 3) := by decide +kernel
theorem dX2_nameHere_24 : decode cX2_nameHere 24 = .ok (.iload_n 3, 1) := by decide +kernel
theorem dX2_nameHere_25 : decode cX2_nameHere 25 = .ok (.invokevirtual 65, 3) := by decide +kernel
theorem dX2_nameHere_28 : decode cX2_nameHere 28 = .ok (.i2l, 1) := by decide +kernel
theorem dX2_nameHere_29 : decode cX2_nameHere 29 = .ok (.ladd, 1) := by decide +kernel
theorem dX2_nameHere_30 : decode cX2_nameHere 30 = .ok (.ldc2_w 111, 3) := by decide +kernel
theorem dX2_nameHere_33 : decode cX2_nameHere 33 = .ok (.lsub, 1) := by decide +kernel
theorem dX2_nameHere_34 : decode cX2_nameHere 34 = .ok (.lconst 1, 1) := by decide +kernel
theorem dX2_nameHere_35 : decode cX2_nameHere 35 = .ok (.ladd, 1) := by decide +kernel
theorem dX2_nameHere_36 : decode cX2_nameHere 36 = .ok (.lstore_n 1, 1) := by decide +kernel
theorem dX2_nameHere_37 : decode cX2_nameHere 37 = .ok (.iinc 3 1, 3) := by decide +kernel
theorem dX2_nameHere_40 : decode cX2_nameHere 40 = .ok (.goto (-33), 3) := by decide +kernel
theorem dX2_nameHere_43 : decode cX2_nameHere 43 = .ok (.lload_n 1, 1) := by decide +kernel
theorem dX2_nameHere_44 : decode cX2_nameHere 44 = .ok (.lreturn, 1) := by decide +kernel
theorem dX2_takeWord_0 : decode cX2_takeWord 0 = .ok (.aload_n 0, 1) := by decide +kernel
theorem dX2_takeWord_1 : decode cX2_takeWord 1 = .ok (.aload_n 1, 1) := by decide +kernel
theorem dX2_takeWord_2 : decode cX2_takeWord 2 = .ok (.invokevirtual 89, 3) := by decide +kernel
theorem dX2_takeWord_5 : decode cX2_takeWord 5 = .ok (.ifCond .ne 9, 3) := by decide +kernel
theorem dX2_takeWord_8 : decode cX2_takeWord 8 = .ok (.aload_n 0, 1) := by decide +kernel
theorem dX2_takeWord_9 : decode cX2_takeWord 9 = .ok (.iconst 1, 1) := by decide +kernel
theorem dX2_takeWord_10 : decode cX2_takeWord 10 = .ok (.invokevirtual 58, 3) := by decide +kernel
theorem dX2_takeWord_13 : decode cX2_takeWord 13 = .ok (.ireturn, 1) := by decide +kernel
theorem dX2_takeWord_14 : decode cX2_takeWord 14 = .ok (.aload_n 0, 1) := by decide +kernel
theorem dX2_takeWord_15 : decode cX2_takeWord 15 = .ok (.invokevirtual 45, 3) := by decide +kernel
theorem dX2_takeWord_18 : decode cX2_takeWord 18 = .ok (.iconst 1, 1) := by decide +kernel
theorem dX2_takeWord_19 : decode cX2_takeWord 19 = .ok (.ireturn, 1) := by decide +kernel
theorem dX2_takeWhole_0 : decode cX2_takeWhole 0 = .ok (.aload_n 0, 1) := by decide +kernel
theorem dX2_takeWhole_1 : decode cX2_takeWhole 1 = .ok (.getfield 52, 3) := by decide +kernel
theorem dX2_takeWhole_4 : decode cX2_takeWhole 4 = .ok (.iconst 2, 1) := by decide +kernel
theorem dX2_takeWhole_5 : decode cX2_takeWhole 5 = .ok (.if_icmp .eq 9, 3) := by decide +kernel
theorem dX2_takeWhole_8 : decode cX2_takeWhole 8 = .ok (.aload_n 0, 1) := by decide +kernel
theorem dX2_takeWhole_9 : decode cX2_takeWhole 9 = .ok (.iconst 1, 1) := by decide +kernel
theorem dX2_takeWhole_10 : decode cX2_takeWhole 10 = .ok (.invokevirtual 58, 3) := by decide +kernel
theorem dX2_takeWhole_13 : decode cX2_takeWhole 13 = .ok (.ireturn, 1) := by decide +kernel
theorem dX2_takeWhole_14 : decode cX2_takeWhole 14 = .ok (.aload_n 0, 1) := by decide +kernel
theorem dX2_takeWhole_15 : decode cX2_takeWhole 15 = .ok (.iconst 0, 1) := by decide +kernel
theorem dX2_takeWhole_16 : decode cX2_takeWhole 16 = .ok (.putfield 113, 3) := by decide +kernel
theorem dX2_takeWhole_19 : decode cX2_takeWhole 19 = .ok (.aload_n 0, 1) := by decide +kernel
theorem dX2_takeWhole_20 : decode cX2_takeWhole 20 = .ok (.getfield 62, 3) := by decide +kernel
theorem dX2_takeWhole_23 : decode cX2_takeWhole 23 = .ok (.istore_n 3, 1) := by decide +kernel
theorem dX2_takeWhole_24 : decode cX2_takeWhole 24 = .ok (.iload_n 3, 1) := by decide +kernel
theorem dX2_takeWhole_25 : decode cX2_takeWhole 25 = .ok (.aload_n 0, 1) := by decide +kernel
theorem dX2_takeWhole_26 : decode cX2_takeWhole 26 = .ok (.getfield 42, 3) := by decide +kernel
theorem dX2_takeWhole_29 : decode cX2_takeWhole 29 = .ok (.if_icmp .ge 32, 3) := by decide +kernel
theorem dX2_takeWhole_32 : decode cX2_takeWhole 32 = .ok (.aload_n 0, 1) := by decide +kernel
theorem dX2_takeWhole_33 : decode cX2_takeWhole 33 = .ok (.aload_n 0, 1) := by decide +kernel
theorem dX2_takeWhole_34 : decode cX2_takeWhole 34 = .ok (.getfield 113, 3) := by decide +kernel
theorem dX2_takeWhole_37 : decode cX2_takeWhole 37 = .ok (.bipush 10, 2) := by decide +kernel
theorem dX2_takeWhole_39 : decode cX2_takeWhole 39 = .ok (.imul, 1) := by decide +kernel
theorem dX2_takeWhole_40 : decode cX2_takeWhole 40 = .ok (.aload_n 0, 1) := by decide +kernel
theorem dX2_takeWhole_41 : decode cX2_takeWhole 41 = .ok (.getfield 15, 3) := by decide +kernel
theorem dX2_takeWhole_44 : decode cX2_takeWhole 44 = .ok (.iload_n 3, 1) := by decide +kernel
theorem dX2_takeWhole_45 : decode cX2_takeWhole 45 = .ok (.invokevirtual 65, 3) := by decide +kernel
theorem dX2_takeWhole_48 : decode cX2_takeWhole 48 = .ok (.iadd, 1) := by decide +kernel
theorem dX2_takeWhole_49 : decode cX2_takeWhole 49 = .ok (.bipush 48, 2) := by decide +kernel
theorem dX2_takeWhole_51 : decode cX2_takeWhole 51 = .ok (.isub, 1) := by decide +kernel
theorem dX2_takeWhole_52 : decode cX2_takeWhole 52 = .ok (.putfield 113, 3) := by decide +kernel
theorem dX2_takeWhole_55 : decode cX2_takeWhole 55 = .ok (.iinc 3 1, 3) := by decide +kernel
theorem dX2_takeWhole_58 : decode cX2_takeWhole 58 = .ok (.goto (-34), 3) := by decide +kernel
theorem dX2_takeWhole_61 : decode cX2_takeWhole 61 = .ok (.aload_n 0, 1) := by decide +kernel
theorem dX2_takeWhole_62 : decode cX2_takeWhole 62 = .ok (.getfield 113, 3) := by decide +kernel
theorem dX2_takeWhole_65 : decode cX2_takeWhole 65 = .ok (.iload_n 1, 1) := by decide +kernel
theorem dX2_takeWhole_66 : decode cX2_takeWhole 66 = .ok (.if_icmp .lt 11, 3) := by decide +kernel
theorem dX2_takeWhole_69 : decode cX2_takeWhole 69 = .ok (.aload_n 0, 1) := by decide +kernel
theorem dX2_takeWhole_70 : decode cX2_takeWhole 70 = .ok (.getfield 113, 3) := by decide +kernel
theorem dX2_takeWhole_73 : decode cX2_takeWhole 73 = .ok (.iload_n 2, 1) := by decide +kernel
theorem dX2_takeWhole_74 : decode cX2_takeWhole 74 = .ok (.if_icmp .le 9, 3) := by decide +kernel
theorem dX2_takeWhole_77 : decode cX2_takeWhole 77 = .ok (.aload_n 0, 1) := by decide +kernel
theorem dX2_takeWhole_78 : decode cX2_takeWhole 78 = .ok (.iconst 4, 1) := by decide +kernel
theorem dX2_takeWhole_79 : decode cX2_takeWhole 79 = .ok (.invokevirtual 58, 3) := by decide +kernel
theorem dX2_takeWhole_82 : decode cX2_takeWhole 82 = .ok (.ireturn, 1) := by decide +kernel
theorem dX2_takeWhole_83 : decode cX2_takeWhole 83 = .ok (.aload_n 0, 1) := by decide +kernel
theorem dX2_takeWhole_84 : decode cX2_takeWhole 84 = .ok (.invokevirtual 45, 3) := by decide +kernel
theorem dX2_takeWhole_87 : decode cX2_takeWhole 87 = .ok (.iconst 1, 1) := by decide +kernel
theorem dX2_takeWhole_88 : decode cX2_takeWhole 88 = .ok (.ireturn, 1) := by decide +kernel
theorem dX2_named_0 : decode cX2_named 0 = .ok (.iconst 0, 1) := by decide +kernel
theorem dX2_named_1 : decode cX2_named 1 = .ok (.istore_n 3, 1) := by decide +kernel
theorem dX2_named_2 : decode cX2_named 2 = .ok (.iload_n 3, 1) := by decide +kernel
theorem dX2_named_3 : decode cX2_named 3 = .ok (.aload_n 0, 1) := by decide +kernel
theorem dX2_named_4 : decode cX2_named 4 = .ok (.getfield 19, 3) := by decide +kernel
theorem dX2_named_7 : decode cX2_named 7 = .ok (.getfield 55, 3) := by decide +kernel
theorem dX2_named_10 : decode cX2_named 10 = .ok (.if_icmp .ge 22, 3) := by decide +kernel
theorem dX2_named_13 : decode cX2_named 13 = .ok (.aload_n 0, 1) := by decide +kernel
theorem dX2_named_14 : decode cX2_named 14 = .ok (.getfield 9, 3) := by decide +kernel
theorem dX2_named_17 : decode cX2_named 17 = .ok (.iload_n 3, 1) := by decide +kernel
theorem dX2_named_18 : decode cX2_named 18 = .ok (.laload, 1) := by decide +kernel
theorem dX2_named_19 : decode cX2_named 19 = .ok (.lload_n 1, 1) := by decide +kernel
theorem dX2_named_20 : decode cX2_named 20 = .ok (.lcmp, 1) := by decide +kernel
theorem dX2_named_21 : decode cX2_named 21 = .ok (.ifCond .ne 5, 3) := by decide +kernel
theorem dX2_named_24 : decode cX2_named 24 = .ok (.iload_n 3, 1) := by decide +kernel
theorem dX2_named_25 : decode cX2_named 25 = .ok (.ireturn, 1) := by decide +kernel
theorem dX2_named_26 : decode cX2_named 26 = .ok (.iinc 3 1, 3) := by decide +kernel
theorem dX2_named_29 : decode cX2_named 29 = .ok (.goto (-27), 3) := by decide +kernel
theorem dX2_named_32 : decode cX2_named 32 = .ok (.iconst (-1), 1) := by decide +kernel
theorem dX2_named_33 : decode cX2_named 33 = .ok (.ireturn, 1) := by decide +kernel
theorem dX2_houseHere_0 : decode cX2_houseHere 0 = .ok (.aload_n 0, 1) := by decide +kernel
theorem dX2_houseHere_1 : decode cX2_houseHere 1 = .ok (.getfield 52, 3) := by decide +kernel
theorem dX2_houseHere_4 : decode cX2_houseHere 4 = .ok (.iconst 1, 1) := by decide +kernel
theorem dX2_houseHere_5 : decode cX2_houseHere 5 = .ok (.if_icmp .ne 11, 3) := by decide +kernel
theorem dX2_houseHere_8 : decode cX2_houseHere 8 = .ok (.aload_n 0, 1) := by decide +kernel
theorem dX2_houseHere_9 : decode cX2_houseHere 9 = .ok (.invokevirtual 116, 3) := by decide +kernel
theorem dX2_houseHere_12 : decode cX2_houseHere 12 = .ok (.iconst (-1), 1) := by decide +kernel
theorem dX2_houseHere_13 : decode cX2_houseHere 13 = .ok (.if_icmp .eq 11, 3) := by decide +kernel
theorem dX2_houseHere_16 : decode cX2_houseHere 16 = .ok (.aload_n 0, 1) := by decide +kernel
theorem dX2_houseHere_17 : decode cX2_houseHere 17 = .ok (.iconst 1, 1) := by decide +kernel
theorem dX2_houseHere_18 : decode cX2_houseHere 18 = .ok (.invokevirtual 58, 3) := by decide +kernel
theorem dX2_houseHere_21 : decode cX2_houseHere 21 = .ok (.pop, 1) := by decide +kernel
theorem dX2_houseHere_22 : decode cX2_houseHere 22 = .ok (.iconst (-1), 1) := by decide +kernel
theorem dX2_houseHere_23 : decode cX2_houseHere 23 = .ok (.ireturn, 1) := by decide +kernel
theorem dX2_houseHere_24 : decode cX2_houseHere 24 = .ok (.aload_n 0, 1) := by decide +kernel
theorem dX2_houseHere_25 : decode cX2_houseHere 25 = .ok (.aload_n 0, 1) := by decide +kernel
theorem dX2_houseHere_26 : decode cX2_houseHere 26 = .ok (.invokevirtual 119, 3) := by decide +kernel
theorem dX2_houseHere_29 : decode cX2_houseHere 29 = .ok (.invokevirtual 123, 3) := by decide +kernel
theorem dX2_houseHere_32 : decode cX2_houseHere 32 = .ok (.istore_n 1, 1) := by decide +kernel
theorem dX2_houseHere_33 : decode cX2_houseHere 33 = .ok (.iload_n 1, 1) := by decide +kernel
theorem dX2_houseHere_34 : decode cX2_houseHere 34 = .ok (.iconst (-1), 1) := by decide +kernel
theorem dX2_houseHere_35 : decode cX2_houseHere 35 = .ok (.if_icmp .ne 9, 3) := by decide +kernel
theorem dX2_houseHere_38 : decode cX2_houseHere 38 = .ok (.aload_n 0, 1) := by decide +kernel
theorem dX2_houseHere_39 : decode cX2_houseHere 39 = .ok (.iconst 2, 1) := by decide +kernel
theorem dX2_houseHere_40 : decode cX2_houseHere 40 = .ok (.invokevirtual 58, 3) := by decide +kernel
theorem dX2_houseHere_43 : decode cX2_houseHere 43 = .ok (.pop, 1) := by decide +kernel
theorem dX2_houseHere_44 : decode cX2_houseHere 44 = .ok (.iload_n 1, 1) := by decide +kernel
theorem dX2_houseHere_45 : decode cX2_houseHere 45 = .ok (.ireturn, 1) := by decide +kernel
theorem dX2_line_0 : decode cX2_line 0 = .ok (.aload_n 0, 1) := by decide +kernel
theorem dX2_line_1 : decode cX2_line 1 = .ok (.getfield 52, 3) := by decide +kernel
theorem dX2_line_4 : decode cX2_line 4 = .ok (.iconst 1, 1) := by decide +kernel
theorem dX2_line_5 : decode cX2_line 5 = .ok (.if_icmp .ne 10, 3) := by decide +kernel
theorem dX2_line_8 : decode cX2_line 8 = .ok (.aload_n 0, 1) := by decide +kernel
theorem dX2_line_9 : decode cX2_line 9 = .ok (.invokevirtual 116, 3) := by decide +kernel
theorem dX2_line_12 : decode cX2_line 12 = .ok (.goto 4, 3) := by decide +kernel
theorem dX2_line_15 : decode cX2_line 15 = .ok (.iconst (-1), 1) := by decide +kernel
theorem dX2_line_16 : decode cX2_line 16 = .ok (.istore_n 1, 1) := by decide +kernel
theorem dX2_line_17 : decode cX2_line 17 = .ok (.iload_n 1, 1) := by decide +kernel
theorem dX2_line_18 : decode cX2_line 18 = .ok (.ifCond .lt 9, 3) := by decide +kernel
theorem dX2_line_21 : decode cX2_line 21 = .ok (.iload_n 1, 1) := by decide +kernel
theorem dX2_line_22 : decode cX2_line 22 = .ok (.bipush 7, 2) := by decide +kernel
theorem dX2_line_24 : decode cX2_line 24 = .ok (.if_icmp .le 9, 3) := by decide +kernel
theorem dX2_line_27 : decode cX2_line 27 = .ok (.aload_n 0, 1) := by decide +kernel
theorem dX2_line_28 : decode cX2_line 28 = .ok (.iconst 1, 1) := by decide +kernel
theorem dX2_line_29 : decode cX2_line 29 = .ok (.invokevirtual 58, 3) := by decide +kernel
theorem dX2_line_32 : decode cX2_line 32 = .ok (.ireturn, 1) := by decide +kernel
theorem dX2_line_33 : decode cX2_line 33 = .ok (.iload_n 1, 1) := by decide +kernel
theorem dX2_line_34 : decode cX2_line 34 = .ok (.ifCond .ne 16, 3) := by decide +kernel
theorem dX2_line_37 : decode cX2_line 37 = .ok (.aload_n 0, 1) := by decide +kernel
theorem dX2_line_38 : decode cX2_line 38 = .ok (.getfield 32, 3) := by decide +kernel
theorem dX2_line_41 : decode cX2_line 41 = .ok (.ifCond .eq 9, 3) := by decide +kernel
theorem dX2_line_44 : decode cX2_line 44 = .ok (.aload_n 0, 1) := by decide +kernel
theorem dX2_line_45 : decode cX2_line 45 = .ok (.iconst 3, 1) := by decide +kernel
theorem dX2_line_46 : decode cX2_line 46 = .ok (.invokevirtual 58, 3) := by decide +kernel
theorem dX2_line_49 : decode cX2_line 49 = .ok (.ireturn, 1) := by decide +kernel
theorem dX2_line_50 : decode cX2_line 50 = .ok (.iload_n 1, 1) := by decide +kernel
theorem dX2_line_51 : decode cX2_line 51 = .ok (.ifCond .eq 17, 3) := by decide +kernel
theorem dX2_line_54 : decode cX2_line 54 = .ok (.aload_n 0, 1) := by decide +kernel
theorem dX2_line_55 : decode cX2_line 55 = .ok (.getfield 32, 3) := by decide +kernel
theorem dX2_line_58 : decode cX2_line 58 = .ok (.ifCond .ne 10, 3) := by decide +kernel
theorem dX2_line_61 : decode cX2_line 61 = .ok (.aload_n 0, 1) := by decide +kernel
theorem dX2_line_62 : decode cX2_line 62 = .ok (.bipush 6, 2) := by decide +kernel
theorem dX2_line_64 : decode cX2_line 64 = .ok (.invokevirtual 58, 3) := by decide +kernel
theorem dX2_line_67 : decode cX2_line 67 = .ok (.ireturn, 1) := by decide +kernel
theorem dX2_line_68 : decode cX2_line 68 = .ok (.aload_n 0, 1) := by decide +kernel
theorem dX2_line_69 : decode cX2_line 69 = .ok (.iload_n 1, 1) := by decide +kernel
theorem dX2_line_70 : decode cX2_line 70 = .ok (.invokevirtual 127, 3) := by decide +kernel
theorem dX2_line_73 : decode cX2_line 73 = .ok (.ifCond .eq 9, 3) := by decide +kernel
theorem dX2_line_76 : decode cX2_line 76 = .ok (.aload_n 0, 1) := by decide +kernel
theorem dX2_line_77 : decode cX2_line 77 = .ok (.iconst 5, 1) := by decide +kernel
theorem dX2_line_78 : decode cX2_line 78 = .ok (.invokevirtual 58, 3) := by decide +kernel
theorem dX2_line_81 : decode cX2_line 81 = .ok (.ireturn, 1) := by decide +kernel
theorem dX2_line_82 : decode cX2_line 82 = .ok (.aload_n 0, 1) := by decide +kernel
theorem dX2_line_83 : decode cX2_line 83 = .ok (.invokevirtual 45, 3) := by decide +kernel
theorem dX2_line_86 : decode cX2_line 86 = .ok (.iload_n 1, 1) := by decide +kernel
theorem dX2_line_87 : decode cX2_line 87 = .ok (.tableswitch 76 0 6 #[41, 46, 51, 56, 61, 66, 71], 41) := by decide +kernel
theorem dX2_line_128 : decode cX2_line 128 = .ok (.aload_n 0, 1) := by decide +kernel
theorem dX2_line_129 : decode cX2_line 129 = .ok (.invokevirtual 130, 3) := by decide +kernel
theorem dX2_line_132 : decode cX2_line 132 = .ok (.ireturn, 1) := by decide +kernel
theorem dX2_line_133 : decode cX2_line 133 = .ok (.aload_n 0, 1) := by decide +kernel
theorem dX2_line_134 : decode cX2_line 134 = .ok (.invokevirtual 133, 3) := by decide +kernel
theorem dX2_line_137 : decode cX2_line 137 = .ok (.ireturn, 1) := by decide +kernel
theorem dX2_line_138 : decode cX2_line 138 = .ok (.aload_n 0, 1) := by decide +kernel
theorem dX2_line_139 : decode cX2_line 139 = .ok (.invokevirtual 136, 3) := by decide +kernel
theorem dX2_line_142 : decode cX2_line 142 = .ok (.ireturn, 1) := by decide +kernel
theorem dX2_line_143 : decode cX2_line 143 = .ok (.aload_n 0, 1) := by decide +kernel
theorem dX2_line_144 : decode cX2_line 144 = .ok (.invokevirtual 139, 3) := by decide +kernel
theorem dX2_line_147 : decode cX2_line 147 = .ok (.ireturn, 1) := by decide +kernel
theorem dX2_line_148 : decode cX2_line 148 = .ok (.aload_n 0, 1) := by decide +kernel
theorem dX2_line_149 : decode cX2_line 149 = .ok (.invokevirtual 142, 3) := by decide +kernel
theorem dX2_line_152 : decode cX2_line 152 = .ok (.ireturn, 1) := by decide +kernel
theorem dX2_line_153 : decode cX2_line 153 = .ok (.aload_n 0, 1) := by decide +kernel
theorem dX2_line_154 : decode cX2_line 154 = .ok (.invokevirtual 145, 3) := by decide +kernel
theorem dX2_line_157 : decode cX2_line 157 = .ok (.ireturn, 1) := by decide +kernel
theorem dX2_line_158 : decode cX2_line 158 = .ok (.aload_n 0, 1) := by decide +kernel
theorem dX2_line_159 : decode cX2_line 159 = .ok (.invokevirtual 148, 3) := by decide +kernel
theorem dX2_line_162 : decode cX2_line 162 = .ok (.ireturn, 1) := by decide +kernel
theorem dX2_line_163 : decode cX2_line 163 = .ok (.aload_n 0, 1) := by decide +kernel
theorem dX2_line_164 : decode cX2_line 164 = .ok (.invokevirtual 151, 3) := by decide +kernel
theorem dX2_line_167 : decode cX2_line 167 = .ok (.ireturn, 1) := by decide +kernel
theorem dX2_isFull_0 : decode cX2_isFull 0 = .ok (.iload_n 1, 1) := by decide +kernel
theorem dX2_isFull_1 : decode cX2_isFull 1 = .ok (.tableswitch 130 1 7 #[43, 61, 130, 130, 79, 96, 113], 43) := by decide +kernel
theorem dX2_isFull_44 : decode cX2_isFull 44 = .ok (.aload_n 0, 1) := by decide +kernel
theorem dX2_isFull_45 : decode cX2_isFull 45 = .ok (.getfield 19, 3) := by decide +kernel
theorem dX2_isFull_48 : decode cX2_isFull 48 = .ok (.getfield 55, 3) := by decide +kernel
theorem dX2_isFull_51 : decode cX2_isFull 51 = .ok (.bipush 6, 2) := by decide +kernel
theorem dX2_isFull_53 : decode cX2_isFull 53 = .ok (.if_icmp .lt 7, 3) := by decide +kernel
theorem dX2_isFull_56 : decode cX2_isFull 56 = .ok (.iconst 1, 1) := by decide +kernel
theorem dX2_isFull_57 : decode cX2_isFull 57 = .ok (.goto 4, 3) := by decide +kernel
theorem dX2_isFull_60 : decode cX2_isFull 60 = .ok (.iconst 0, 1) := by decide +kernel
theorem dX2_isFull_61 : decode cX2_isFull 61 = .ok (.ireturn, 1) := by decide +kernel
theorem dX2_isFull_62 : decode cX2_isFull 62 = .ok (.aload_n 0, 1) := by decide +kernel
theorem dX2_isFull_63 : decode cX2_isFull 63 = .ok (.getfield 19, 3) := by decide +kernel
theorem dX2_isFull_66 : decode cX2_isFull 66 = .ok (.getfield 154, 3) := by decide +kernel
theorem dX2_isFull_69 : decode cX2_isFull 69 = .ok (.bipush 9, 2) := by decide +kernel
theorem dX2_isFull_71 : decode cX2_isFull 71 = .ok (.if_icmp .lt 7, 3) := by decide +kernel
theorem dX2_isFull_74 : decode cX2_isFull 74 = .ok (.iconst 1, 1) := by decide +kernel
theorem dX2_isFull_75 : decode cX2_isFull 75 = .ok (.goto 4, 3) := by decide +kernel
theorem dX2_isFull_78 : decode cX2_isFull 78 = .ok (.iconst 0, 1) := by decide +kernel
theorem dX2_isFull_79 : decode cX2_isFull 79 = .ok (.ireturn, 1) := by decide +kernel
theorem dX2_isFull_80 : decode cX2_isFull 80 = .ok (.aload_n 0, 1) := by decide +kernel
theorem dX2_isFull_81 : decode cX2_isFull 81 = .ok (.getfield 19, 3) := by decide +kernel
theorem dX2_isFull_84 : decode cX2_isFull 84 = .ok (.getfield 157, 3) := by decide +kernel
theorem dX2_isFull_87 : decode cX2_isFull 87 = .ok (.iconst 4, 1) := by decide +kernel
theorem dX2_isFull_88 : decode cX2_isFull 88 = .ok (.if_icmp .lt 7, 3) := by decide +kernel
theorem dX2_isFull_91 : decode cX2_isFull 91 = .ok (.iconst 1, 1) := by decide +kernel
theorem dX2_isFull_92 : decode cX2_isFull 92 = .ok (.goto 4, 3) := by decide +kernel
theorem dX2_isFull_95 : decode cX2_isFull 95 = .ok (.iconst 0, 1) := by decide +kernel
theorem dX2_isFull_96 : decode cX2_isFull 96 = .ok (.ireturn, 1) := by decide +kernel
theorem dX2_isFull_97 : decode cX2_isFull 97 = .ok (.aload_n 0, 1) := by decide +kernel
theorem dX2_isFull_98 : decode cX2_isFull 98 = .ok (.getfield 19, 3) := by decide +kernel
theorem dX2_isFull_101 : decode cX2_isFull 101 = .ok (.getfield 160, 3) := by decide +kernel
theorem dX2_isFull_104 : decode cX2_isFull 104 = .ok (.iconst 2, 1) := by decide +kernel
theorem dX2_isFull_105 : decode cX2_isFull 105 = .ok (.if_icmp .lt 7, 3) := by decide +kernel
theorem dX2_isFull_108 : decode cX2_isFull 108 = .ok (.iconst 1, 1) := by decide +kernel
theorem dX2_isFull_109 : decode cX2_isFull 109 = .ok (.goto 4, 3) := by decide +kernel
theorem dX2_isFull_112 : decode cX2_isFull 112 = .ok (.iconst 0, 1) := by decide +kernel
theorem dX2_isFull_113 : decode cX2_isFull 113 = .ok (.ireturn, 1) := by decide +kernel
theorem dX2_isFull_114 : decode cX2_isFull 114 = .ok (.aload_n 0, 1) := by decide +kernel
theorem dX2_isFull_115 : decode cX2_isFull 115 = .ok (.getfield 19, 3) := by decide +kernel
theorem dX2_isFull_118 : decode cX2_isFull 118 = .ok (.getfield 163, 3) := by decide +kernel
theorem dX2_isFull_121 : decode cX2_isFull 121 = .ok (.iconst 4, 1) := by decide +kernel
theorem dX2_isFull_122 : decode cX2_isFull 122 = .ok (.if_icmp .lt 7, 3) := by decide +kernel
theorem dX2_isFull_125 : decode cX2_isFull 125 = .ok (.iconst 1, 1) := by decide +kernel
theorem dX2_isFull_126 : decode cX2_isFull 126 = .ok (.goto 4, 3) := by decide +kernel
theorem dX2_isFull_129 : decode cX2_isFull 129 = .ok (.iconst 0, 1) := by decide +kernel
theorem dX2_isFull_130 : decode cX2_isFull 130 = .ok (.ireturn, 1) := by decide +kernel
theorem dX2_isFull_131 : decode cX2_isFull 131 = .ok (.iconst 0, 1) := by decide +kernel
theorem dX2_isFull_132 : decode cX2_isFull 132 = .ok (.ireturn, 1) := by decide +kernel
theorem dX2_streetLine_0 : decode cX2_streetLine 0 = .ok (.aload_n 0, 1) := by decide +kernel
theorem dX2_streetLine_1 : decode cX2_streetLine 1 = .ok (.iconst 1, 1) := by decide +kernel
theorem dX2_streetLine_2 : decode cX2_streetLine 2 = .ok (.putfield 32, 3) := by decide +kernel
theorem dX2_streetLine_5 : decode cX2_streetLine 5 = .ok (.aload_n 0, 1) := by decide +kernel
theorem dX2_streetLine_6 : decode cX2_streetLine 6 = .ok (.ldc 166, 2) := by decide +kernel
theorem dX2_streetLine_8 : decode cX2_streetLine 8 = .ok (.invokevirtual 168, 3) := by decide +kernel
theorem dX2_streetLine_11 : decode cX2_streetLine 11 = .ok (.ifCond .eq 13, 3) := by decide +kernel
theorem dX2_streetLine_14 : decode cX2_streetLine 14 = .ok (.aload_n 0, 1) := by decide +kernel
theorem dX2_streetLine_15 : decode cX2_streetLine 15 = .ok (.iconst 0, 1) := by decide +kernel
theorem dX2_streetLine_16 : decode cX2_streetLine 16 = .ok (.bipush 9, 2) := by decide +kernel
theorem dX2_streetLine_18 : decode cX2_streetLine 18 = .ok (.invokevirtual 171, 3) := by decide +kernel
theorem dX2_streetLine_21 : decode cX2_streetLine 21 = .ok (.ifCond .ne 5, 3) := by decide +kernel
theorem dX2_streetLine_24 : decode cX2_streetLine 24 = .ok (.iconst 0, 1) := by decide +kernel
theorem dX2_streetLine_25 : decode cX2_streetLine 25 = .ok (.ireturn, 1) := by decide +kernel
theorem dX2_streetLine_26 : decode cX2_streetLine 26 = .ok (.aload_n 0, 1) := by decide +kernel
theorem dX2_streetLine_27 : decode cX2_streetLine 27 = .ok (.getfield 19, 3) := by decide +kernel
theorem dX2_streetLine_30 : decode cX2_streetLine 30 = .ok (.aload_n 0, 1) := by decide +kernel
theorem dX2_streetLine_31 : decode cX2_streetLine 31 = .ok (.getfield 113, 3) := by decide +kernel
theorem dX2_streetLine_34 : decode cX2_streetLine 34 = .ok (.putfield 175, 3) := by decide +kernel
theorem dX2_streetLine_37 : decode cX2_streetLine 37 = .ok (.iconst 1, 1) := by decide +kernel
theorem dX2_streetLine_38 : decode cX2_streetLine 38 = .ok (.ireturn, 1) := by decide +kernel
theorem dX2_houseLine_0 : decode cX2_houseLine 0 = .ok (.aload_n 0, 1) := by decide +kernel
theorem dX2_houseLine_1 : decode cX2_houseLine 1 = .ok (.getfield 52, 3) := by decide +kernel
theorem dX2_houseLine_4 : decode cX2_houseLine 4 = .ok (.iconst 1, 1) := by decide +kernel
theorem dX2_houseLine_5 : decode cX2_houseLine 5 = .ok (.if_icmp .ne 11, 3) := by decide +kernel
theorem dX2_houseLine_8 : decode cX2_houseLine 8 = .ok (.aload_n 0, 1) := by decide +kernel
theorem dX2_houseLine_9 : decode cX2_houseLine 9 = .ok (.invokevirtual 116, 3) := by decide +kernel
theorem dX2_houseLine_12 : decode cX2_houseLine 12 = .ok (.iconst (-1), 1) := by decide +kernel
theorem dX2_houseLine_13 : decode cX2_houseLine 13 = .ok (.if_icmp .eq 9, 3) := by decide +kernel
theorem dX2_houseLine_16 : decode cX2_houseLine 16 = .ok (.aload_n 0, 1) := by decide +kernel
theorem dX2_houseLine_17 : decode cX2_houseLine 17 = .ok (.iconst 1, 1) := by decide +kernel
theorem dX2_houseLine_18 : decode cX2_houseLine 18 = .ok (.invokevirtual 58, 3) := by decide +kernel
theorem dX2_houseLine_21 : decode cX2_houseLine 21 = .ok (.ireturn, 1) := by decide +kernel
theorem dX2_houseLine_22 : decode cX2_houseLine 22 = .ok (.aload_n 0, 1) := by decide +kernel
theorem dX2_houseLine_23 : decode cX2_houseLine 23 = .ok (.invokevirtual 119, 3) := by decide +kernel
theorem dX2_houseLine_26 : decode cX2_houseLine 26 = .ok (.lstore_n 1, 1) := by decide +kernel
theorem dX2_houseLine_27 : decode cX2_houseLine 27 = .ok (.aload_n 0, 1) := by decide +kernel
theorem dX2_houseLine_28 : decode cX2_houseLine 28 = .ok (.lload_n 1, 1) := by decide +kernel
theorem dX2_houseLine_29 : decode cX2_houseLine 29 = .ok (.invokevirtual 123, 3) := by decide +kernel
theorem dX2_houseLine_32 : decode cX2_houseLine 32 = .ok (.iconst (-1), 1) := by decide +kernel
theorem dX2_houseLine_33 : decode cX2_houseLine 33 = .ok (.if_icmp .eq 9, 3) := by decide +kernel
theorem dX2_houseLine_36 : decode cX2_houseLine 36 = .ok (.aload_n 0, 1) := by decide +kernel
theorem dX2_houseLine_37 : decode cX2_houseLine 37 = .ok (.iconst 3, 1) := by decide +kernel
theorem dX2_houseLine_38 : decode cX2_houseLine 38 = .ok (.invokevirtual 58, 3) := by decide +kernel
theorem dX2_houseLine_41 : decode cX2_houseLine 41 = .ok (.ireturn, 1) := by decide +kernel
theorem dX2_houseLine_42 : decode cX2_houseLine 42 = .ok (.aload_n 0, 1) := by decide +kernel
theorem dX2_houseLine_43 : decode cX2_houseLine 43 = .ok (.invokevirtual 45, 3) := by decide +kernel
theorem dX2_houseLine_46 : decode cX2_houseLine 46 = .ok (.aload_n 0, 1) := by decide +kernel
theorem dX2_houseLine_47 : decode cX2_houseLine 47 = .ok (.invokevirtual 177, 3) := by decide +kernel
theorem dX2_houseLine_50 : decode cX2_houseLine 50 = .ok (.istore_n 3, 1) := by decide +kernel
theorem dX2_houseLine_51 : decode cX2_houseLine 51 = .ok (.iload_n 3, 1) := by decide +kernel
theorem dX2_houseLine_52 : decode cX2_houseLine 52 = .ok (.iconst (-1), 1) := by decide +kernel
theorem dX2_houseLine_53 : decode cX2_houseLine 53 = .ok (.if_icmp .ne 9, 3) := by decide +kernel
theorem dX2_houseLine_56 : decode cX2_houseLine 56 = .ok (.aload_n 0, 1) := by decide +kernel
theorem dX2_houseLine_57 : decode cX2_houseLine 57 = .ok (.iconst 1, 1) := by decide +kernel
theorem dX2_houseLine_58 : decode cX2_houseLine 58 = .ok (.invokevirtual 58, 3) := by decide +kernel
theorem dX2_houseLine_61 : decode cX2_houseLine 61 = .ok (.ireturn, 1) := by decide +kernel
theorem dX2_houseLine_62 : decode cX2_houseLine 62 = .ok (.aload_n 0, 1) := by decide +kernel
theorem dX2_houseLine_63 : decode cX2_houseLine 63 = .ok (.invokevirtual 45, 3) := by decide +kernel
theorem dX2_houseLine_66 : decode cX2_houseLine 66 = .ok (.bipush (-2), 2) := by decide +kernel
theorem dX2_houseLine_68 : decode cX2_houseLine 68 = .ok (.istore 4, 2) := by decide +kernel
theorem dX2_houseLine_70 : decode cX2_houseLine 70 = .ok (.iconst 0, 1) := by decide +kernel
theorem dX2_houseLine_71 : decode cX2_houseLine 71 = .ok (.istore 5, 2) := by decide +kernel
theorem dX2_houseLine_73 : decode cX2_houseLine 73 = .ok (.aload_n 0, 1) := by decide +kernel
theorem dX2_houseLine_74 : decode cX2_houseLine 74 = .ok (.ldc 180, 2) := by decide +kernel
theorem dX2_houseLine_76 : decode cX2_houseLine 76 = .ok (.invokevirtual 89, 3) := by decide +kernel
theorem dX2_houseLine_79 : decode cX2_houseLine 79 = .ok (.ifCond .eq 10, 3) := by decide +kernel
theorem dX2_houseLine_82 : decode cX2_houseLine 82 = .ok (.aload_n 0, 1) := by decide +kernel
theorem dX2_houseLine_83 : decode cX2_houseLine 83 = .ok (.invokevirtual 45, 3) := by decide +kernel
theorem dX2_houseLine_86 : decode cX2_houseLine 86 = .ok (.goto 57, 3) := by decide +kernel
theorem dX2_houseLine_89 : decode cX2_houseLine 89 = .ok (.aload_n 0, 1) := by decide +kernel
theorem dX2_houseLine_90 : decode cX2_houseLine 90 = .ok (.ldc 182, 2) := by decide +kernel
theorem dX2_houseLine_92 : decode cX2_houseLine 92 = .ok (.invokevirtual 168, 3) := by decide +kernel
theorem dX2_houseLine_95 : decode cX2_houseLine 95 = .ok (.ifCond .eq 13, 3) := by decide +kernel
theorem dX2_houseLine_98 : decode cX2_houseLine 98 = .ok (.aload_n 0, 1) := by decide +kernel
theorem dX2_houseLine_99 : decode cX2_houseLine 99 = .ok (.iconst 0, 1) := by decide +kernel
theorem dX2_houseLine_100 : decode cX2_houseLine 100 = .ok (.bipush 60, 2) := by decide +kernel
theorem dX2_houseLine_102 : decode cX2_houseLine 102 = .ok (.invokevirtual 171, 3) := by decide +kernel
theorem dX2_houseLine_105 : decode cX2_houseLine 105 = .ok (.ifCond .ne 5, 3) := by decide +kernel
theorem dX2_houseLine_108 : decode cX2_houseLine 108 = .ok (.iconst 0, 1) := by decide +kernel
theorem dX2_houseLine_109 : decode cX2_houseLine 109 = .ok (.ireturn, 1) := by decide +kernel
theorem dX2_houseLine_110 : decode cX2_houseLine 110 = .ok (.aload_n 0, 1) := by decide +kernel
theorem dX2_houseLine_111 : decode cX2_houseLine 111 = .ok (.getfield 113, 3) := by decide +kernel
theorem dX2_houseLine_114 : decode cX2_houseLine 114 = .ok (.istore 4, 2) := by decide +kernel
theorem dX2_houseLine_116 : decode cX2_houseLine 116 = .ok (.aload_n 0, 1) := by decide +kernel
theorem dX2_houseLine_117 : decode cX2_houseLine 117 = .ok (.ldc 184, 2) := by decide +kernel
theorem dX2_houseLine_119 : decode cX2_houseLine 119 = .ok (.invokevirtual 168, 3) := by decide +kernel
theorem dX2_houseLine_122 : decode cX2_houseLine 122 = .ok (.ifCond .eq 13, 3) := by decide +kernel
theorem dX2_houseLine_125 : decode cX2_houseLine 125 = .ok (.aload_n 0, 1) := by decide +kernel
theorem dX2_houseLine_126 : decode cX2_houseLine 126 = .ok (.iconst 0, 1) := by decide +kernel
theorem dX2_houseLine_127 : decode cX2_houseLine 127 = .ok (.bipush 100, 2) := by decide +kernel
theorem dX2_houseLine_129 : decode cX2_houseLine 129 = .ok (.invokevirtual 171, 3) := by decide +kernel
theorem dX2_houseLine_132 : decode cX2_houseLine 132 = .ok (.ifCond .ne 5, 3) := by decide +kernel
theorem dX2_houseLine_135 : decode cX2_houseLine 135 = .ok (.iconst 0, 1) := by decide +kernel
theorem dX2_houseLine_136 : decode cX2_houseLine 136 = .ok (.ireturn, 1) := by decide +kernel
theorem dX2_houseLine_137 : decode cX2_houseLine 137 = .ok (.aload_n 0, 1) := by decide +kernel
theorem dX2_houseLine_138 : decode cX2_houseLine 138 = .ok (.getfield 113, 3) := by decide +kernel
theorem dX2_houseLine_141 : decode cX2_houseLine 141 = .ok (.istore 5, 2) := by decide +kernel
theorem dX2_houseLine_143 : decode cX2_houseLine 143 = .ok (.aload_n 0, 1) := by decide +kernel
theorem dX2_houseLine_144 : decode cX2_houseLine 144 = .ok (.lload_n 1, 1) := by decide +kernel
theorem dX2_houseLine_145 : decode cX2_houseLine 145 = .ok (.iload_n 3, 1) := by decide +kernel
theorem dX2_houseLine_146 : decode cX2_houseLine 146 = .ok (.iload 4, 2) := by decide +kernel
theorem dX2_houseLine_148 : decode cX2_houseLine 148 = .ok (.iload 5, 2) := by decide +kernel
theorem dX2_houseLine_150 : decode cX2_houseLine 150 = .ok (.invokevirtual 186, 3) := by decide +kernel
theorem dX2_houseLine_153 : decode cX2_houseLine 153 = .ok (.iconst 1, 1) := by decide +kernel
theorem dX2_houseLine_154 : decode cX2_houseLine 154 = .ok (.ireturn, 1) := by decide +kernel
theorem dX2_kindHere_0 : decode cX2_kindHere 0 = .ok (.aload_n 0, 1) := by decide +kernel
theorem dX2_kindHere_1 : decode cX2_kindHere 1 = .ok (.ldc 190, 2) := by decide +kernel
theorem dX2_kindHere_3 : decode cX2_kindHere 3 = .ok (.invokevirtual 89, 3) := by decide +kernel
theorem dX2_kindHere_6 : decode cX2_kindHere 6 = .ok (.ifCond .eq 5, 3) := by decide +kernel
theorem dX2_kindHere_9 : decode cX2_kindHere 9 = .ok (.iconst 0, 1) := by decide +kernel
theorem dX2_kindHere_10 : decode cX2_kindHere 10 = .ok (.ireturn, 1) := by decide +kernel
theorem dX2_kindHere_11 : decode cX2_kindHere 11 = .ok (.aload_n 0, 1) := by decide +kernel
theorem dX2_kindHere_12 : decode cX2_kindHere 12 = .ok (.ldc 192, 2) := by decide +kernel
theorem dX2_kindHere_14 : decode cX2_kindHere 14 = .ok (.invokevirtual 89, 3) := by decide +kernel
theorem dX2_kindHere_17 : decode cX2_kindHere 17 = .ok (.ifCond .eq 5, 3) := by decide +kernel
theorem dX2_kindHere_20 : decode cX2_kindHere 20 = .ok (.iconst 1, 1) := by decide +kernel
theorem dX2_kindHere_21 : decode cX2_kindHere 21 = .ok (.ireturn, 1) := by decide +kernel
theorem dX2_kindHere_22 : decode cX2_kindHere 22 = .ok (.aload_n 0, 1) := by decide +kernel
theorem dX2_kindHere_23 : decode cX2_kindHere 23 = .ok (.ldc 194, 2) := by decide +kernel
theorem dX2_kindHere_25 : decode cX2_kindHere 25 = .ok (.invokevirtual 89, 3) := by decide +kernel
theorem dX2_kindHere_28 : decode cX2_kindHere 28 = .ok (.ifCond .eq 5, 3) := by decide +kernel
theorem dX2_kindHere_31 : decode cX2_kindHere 31 = .ok (.iconst 2, 1) := by decide +kernel
theorem dX2_kindHere_32 : decode cX2_kindHere 32 = .ok (.ireturn, 1) := by decide +kernel
theorem dX2_kindHere_33 : decode cX2_kindHere 33 = .ok (.aload_n 0, 1) := by decide +kernel
theorem dX2_kindHere_34 : decode cX2_kindHere 34 = .ok (.ldc 196, 2) := by decide +kernel
theorem dX2_kindHere_36 : decode cX2_kindHere 36 = .ok (.invokevirtual 89, 3) := by decide +kernel
theorem dX2_kindHere_39 : decode cX2_kindHere 39 = .ok (.ifCond .eq 7, 3) := by decide +kernel
theorem dX2_kindHere_42 : decode cX2_kindHere 42 = .ok (.iconst 3, 1) := by decide +kernel
theorem dX2_kindHere_43 : decode cX2_kindHere 43 = .ok (.goto 4, 3) := by decide +kernel
theorem dX2_kindHere_46 : decode cX2_kindHere 46 = .ok (.iconst (-1), 1) := by decide +kernel
theorem dX2_kindHere_47 : decode cX2_kindHere 47 = .ok (.ireturn, 1) := by decide +kernel
theorem dX2_addHouse_0 : decode cX2_addHouse 0 = .ok (.aload_n 0, 1) := by decide +kernel
theorem dX2_addHouse_1 : decode cX2_addHouse 1 = .ok (.getfield 19, 3) := by decide +kernel
theorem dX2_addHouse_4 : decode cX2_addHouse 4 = .ok (.getfield 55, 3) := by decide +kernel
theorem dX2_addHouse_7 : decode cX2_addHouse 7 = .ok (.istore 6, 2) := by decide +kernel
theorem dX2_addHouse_9 : decode cX2_addHouse 9 = .ok (.aload_n 0, 1) := by decide +kernel
theorem dX2_addHouse_10 : decode cX2_addHouse 10 = .ok (.getfield 9, 3) := by decide +kernel
theorem dX2_addHouse_13 : decode cX2_addHouse 13 = .ok (.iload 6, 2) := by decide +kernel
theorem dX2_addHouse_15 : decode cX2_addHouse 15 = .ok (.lload_n 1, 1) := by decide +kernel
theorem dX2_addHouse_16 : decode cX2_addHouse 16 = .ok (.lastore, 1) := by decide +kernel
theorem dX2_addHouse_17 : decode cX2_addHouse 17 = .ok (.aload_n 0, 1) := by decide +kernel
theorem dX2_addHouse_18 : decode cX2_addHouse 18 = .ok (.getfield 19, 3) := by decide +kernel
theorem dX2_addHouse_21 : decode cX2_addHouse 21 = .ok (.getfield 198, 3) := by decide +kernel
theorem dX2_addHouse_24 : decode cX2_addHouse 24 = .ok (.iload 6, 2) := by decide +kernel
theorem dX2_addHouse_26 : decode cX2_addHouse 26 = .ok (.iload_n 3, 1) := by decide +kernel
theorem dX2_addHouse_27 : decode cX2_addHouse 27 = .ok (.iastore, 1) := by decide +kernel
theorem dX2_addHouse_28 : decode cX2_addHouse 28 = .ok (.aload_n 0, 1) := by decide +kernel
theorem dX2_addHouse_29 : decode cX2_addHouse 29 = .ok (.getfield 19, 3) := by decide +kernel
theorem dX2_addHouse_32 : decode cX2_addHouse 32 = .ok (.getfield 202, 3) := by decide +kernel
theorem dX2_addHouse_35 : decode cX2_addHouse 35 = .ok (.iload 6, 2) := by decide +kernel
theorem dX2_addHouse_37 : decode cX2_addHouse 37 = .ok (.iload 4, 2) := by decide +kernel
theorem dX2_addHouse_39 : decode cX2_addHouse 39 = .ok (.iastore, 1) := by decide +kernel
theorem dX2_addHouse_40 : decode cX2_addHouse 40 = .ok (.aload_n 0, 1) := by decide +kernel
theorem dX2_addHouse_41 : decode cX2_addHouse 41 = .ok (.getfield 19, 3) := by decide +kernel
theorem dX2_addHouse_44 : decode cX2_addHouse 44 = .ok (.getfield 205, 3) := by decide +kernel
theorem dX2_addHouse_47 : decode cX2_addHouse 47 = .ok (.iload 6, 2) := by decide +kernel
theorem dX2_addHouse_49 : decode cX2_addHouse 49 = .ok (.iload 5, 2) := by decide +kernel
theorem dX2_addHouse_51 : decode cX2_addHouse 51 = .ok (.iastore, 1) := by decide +kernel
theorem dX2_addHouse_52 : decode cX2_addHouse 52 = .ok (.aload_n 0, 1) := by decide +kernel
theorem dX2_addHouse_53 : decode cX2_addHouse 53 = .ok (.getfield 19, 3) := by decide +kernel
theorem dX2_addHouse_56 : decode cX2_addHouse 56 = .ok (.getfield 207, 3) := by decide +kernel
theorem dX2_addHouse_59 : decode cX2_addHouse 59 = .ok (.iload 6, 2) := by decide +kernel
theorem dX2_addHouse_61 : decode cX2_addHouse 61 = .ok (.iconst 0, 1) := by decide +kernel
theorem dX2_addHouse_62 : decode cX2_addHouse 62 = .ok (.iastore, 1) := by decide +kernel
theorem dX2_addHouse_63 : decode cX2_addHouse 63 = .ok (.aload_n 0, 1) := by decide +kernel
theorem dX2_addHouse_64 : decode cX2_addHouse 64 = .ok (.getfield 19, 3) := by decide +kernel
theorem dX2_addHouse_67 : decode cX2_addHouse 67 = .ok (.iload 6, 2) := by decide +kernel
theorem dX2_addHouse_69 : decode cX2_addHouse 69 = .ok (.iconst 1, 1) := by decide +kernel
theorem dX2_addHouse_70 : decode cX2_addHouse 70 = .ok (.iadd, 1) := by decide +kernel
theorem dX2_addHouse_71 : decode cX2_addHouse 71 = .ok (.putfield 55, 3) := by decide +kernel
theorem dX2_addHouse_74 : decode cX2_addHouse 74 = .ok (.return_, 1) := by decide +kernel
theorem dX2_sparkLine_0 : decode cX2_sparkLine 0 = .ok (.aload_n 0, 1) := by decide +kernel
theorem dX2_sparkLine_1 : decode cX2_sparkLine 1 = .ok (.invokevirtual 210, 3) := by decide +kernel
theorem dX2_sparkLine_4 : decode cX2_sparkLine 4 = .ok (.istore_n 1, 1) := by decide +kernel
theorem dX2_sparkLine_5 : decode cX2_sparkLine 5 = .ok (.iload_n 1, 1) := by decide +kernel
theorem dX2_sparkLine_6 : decode cX2_sparkLine 6 = .ok (.iconst (-1), 1) := by decide +kernel
theorem dX2_sparkLine_7 : decode cX2_sparkLine 7 = .ok (.if_icmp .ne 5, 3) := by decide +kernel
theorem dX2_sparkLine_10 : decode cX2_sparkLine 10 = .ok (.iconst 0, 1) := by decide +kernel
theorem dX2_sparkLine_11 : decode cX2_sparkLine 11 = .ok (.ireturn, 1) := by decide +kernel
theorem dX2_sparkLine_12 : decode cX2_sparkLine 12 = .ok (.aload_n 0, 1) := by decide +kernel
theorem dX2_sparkLine_13 : decode cX2_sparkLine 13 = .ok (.invokevirtual 45, 3) := by decide +kernel
theorem dX2_sparkLine_16 : decode cX2_sparkLine 16 = .ok (.aload_n 0, 1) := by decide +kernel
theorem dX2_sparkLine_17 : decode cX2_sparkLine 17 = .ok (.invokevirtual 210, 3) := by decide +kernel
theorem dX2_sparkLine_20 : decode cX2_sparkLine 20 = .ok (.istore_n 2, 1) := by decide +kernel
theorem dX2_sparkLine_21 : decode cX2_sparkLine 21 = .ok (.iload_n 2, 1) := by decide +kernel
theorem dX2_sparkLine_22 : decode cX2_sparkLine 22 = .ok (.iconst (-1), 1) := by decide +kernel
theorem dX2_sparkLine_23 : decode cX2_sparkLine 23 = .ok (.if_icmp .ne 5, 3) := by decide +kernel
theorem dX2_sparkLine_26 : decode cX2_sparkLine 26 = .ok (.iconst 0, 1) := by decide +kernel
theorem dX2_sparkLine_27 : decode cX2_sparkLine 27 = .ok (.ireturn, 1) := by decide +kernel
theorem dX2_sparkLine_28 : decode cX2_sparkLine 28 = .ok (.iload_n 2, 1) := by decide +kernel
theorem dX2_sparkLine_29 : decode cX2_sparkLine 29 = .ok (.iload_n 1, 1) := by decide +kernel
theorem dX2_sparkLine_30 : decode cX2_sparkLine 30 = .ok (.if_icmp .eq 16, 3) := by decide +kernel
theorem dX2_sparkLine_33 : decode cX2_sparkLine 33 = .ok (.aload_n 0, 1) := by decide +kernel
theorem dX2_sparkLine_34 : decode cX2_sparkLine 34 = .ok (.getfield 19, 3) := by decide +kernel
theorem dX2_sparkLine_37 : decode cX2_sparkLine 37 = .ok (.iload_n 1, 1) := by decide +kernel
theorem dX2_sparkLine_38 : decode cX2_sparkLine 38 = .ok (.iload_n 2, 1) := by decide +kernel
theorem dX2_sparkLine_39 : decode cX2_sparkLine 39 = .ok (.invokevirtual 213, 3) := by decide +kernel
theorem dX2_sparkLine_42 : decode cX2_sparkLine 42 = .ok (.iconst (-1), 1) := by decide +kernel
theorem dX2_sparkLine_43 : decode cX2_sparkLine 43 = .ok (.if_icmp .eq 9, 3) := by decide +kernel
theorem dX2_sparkLine_46 : decode cX2_sparkLine 46 = .ok (.aload_n 0, 1) := by decide +kernel
theorem dX2_sparkLine_47 : decode cX2_sparkLine 47 = .ok (.iconst 3, 1) := by decide +kernel
theorem dX2_sparkLine_48 : decode cX2_sparkLine 48 = .ok (.invokevirtual 58, 3) := by decide +kernel
theorem dX2_sparkLine_51 : decode cX2_sparkLine 51 = .ok (.ireturn, 1) := by decide +kernel
theorem dX2_sparkLine_52 : decode cX2_sparkLine 52 = .ok (.aload_n 0, 1) := by decide +kernel
theorem dX2_sparkLine_53 : decode cX2_sparkLine 53 = .ok (.invokevirtual 45, 3) := by decide +kernel
theorem dX2_sparkLine_56 : decode cX2_sparkLine 56 = .ok (.aload_n 0, 1) := by decide +kernel
theorem dX2_sparkLine_57 : decode cX2_sparkLine 57 = .ok (.ldc 217, 2) := by decide +kernel
theorem dX2_sparkLine_59 : decode cX2_sparkLine 59 = .ok (.invokevirtual 168, 3) := by decide +kernel
theorem dX2_sparkLine_62 : decode cX2_sparkLine 62 = .ok (.ifCond .eq 13, 3) := by decide +kernel
theorem dX2_sparkLine_65 : decode cX2_sparkLine 65 = .ok (.aload_n 0, 1) := by decide +kernel
theorem dX2_sparkLine_66 : decode cX2_sparkLine 66 = .ok (.iconst 0, 1) := by decide +kernel
theorem dX2_sparkLine_67 : decode cX2_sparkLine 67 = .ok (.bipush 9, 2) := by decide +kernel
theorem dX2_sparkLine_69 : decode cX2_sparkLine 69 = .ok (.invokevirtual 171, 3) := by decide +kernel
theorem dX2_sparkLine_72 : decode cX2_sparkLine 72 = .ok (.ifCond .ne 5, 3) := by decide +kernel
theorem dX2_sparkLine_75 : decode cX2_sparkLine 75 = .ok (.iconst 0, 1) := by decide +kernel
theorem dX2_sparkLine_76 : decode cX2_sparkLine 76 = .ok (.ireturn, 1) := by decide +kernel
theorem dX2_sparkLine_77 : decode cX2_sparkLine 77 = .ok (.aload_n 0, 1) := by decide +kernel
theorem dX2_sparkLine_78 : decode cX2_sparkLine 78 = .ok (.getfield 19, 3) := by decide +kernel
theorem dX2_sparkLine_81 : decode cX2_sparkLine 81 = .ok (.getfield 154, 3) := by decide +kernel
theorem dX2_sparkLine_84 : decode cX2_sparkLine 84 = .ok (.istore_n 3, 1) := by decide +kernel
theorem dX2_sparkLine_85 : decode cX2_sparkLine 85 = .ok (.aload_n 0, 1) := by decide +kernel
theorem dX2_sparkLine_86 : decode cX2_sparkLine 86 = .ok (.getfield 19, 3) := by decide +kernel
theorem dX2_sparkLine_89 : decode cX2_sparkLine 89 = .ok (.getfield 219, 3) := by decide +kernel
theorem dX2_sparkLine_92 : decode cX2_sparkLine 92 = .ok (.iload_n 3, 1) := by decide +kernel
theorem dX2_sparkLine_93 : decode cX2_sparkLine 93 = .ok (.iload_n 1, 1) := by decide +kernel
theorem dX2_sparkLine_94 : decode cX2_sparkLine 94 = .ok (.iastore, 1) := by decide +kernel
theorem dX2_sparkLine_95 : decode cX2_sparkLine 95 = .ok (.aload_n 0, 1) := by decide +kernel
theorem dX2_sparkLine_96 : decode cX2_sparkLine 96 = .ok (.getfield 19, 3) := by decide +kernel
theorem dX2_sparkLine_99 : decode cX2_sparkLine 99 = .ok (.getfield 222, 3) := by decide +kernel
theorem dX2_sparkLine_102 : decode cX2_sparkLine 102 = .ok (.iload_n 3, 1) := by decide +kernel
theorem dX2_sparkLine_103 : decode cX2_sparkLine 103 = .ok (.iload_n 2, 1) := by decide +kernel
theorem dX2_sparkLine_104 : decode cX2_sparkLine 104 = .ok (.iastore, 1) := by decide +kernel
theorem dX2_sparkLine_105 : decode cX2_sparkLine 105 = .ok (.aload_n 0, 1) := by decide +kernel
theorem dX2_sparkLine_106 : decode cX2_sparkLine 106 = .ok (.getfield 19, 3) := by decide +kernel
theorem dX2_sparkLine_109 : decode cX2_sparkLine 109 = .ok (.getfield 225, 3) := by decide +kernel
theorem dX2_sparkLine_112 : decode cX2_sparkLine 112 = .ok (.iload_n 3, 1) := by decide +kernel
theorem dX2_sparkLine_113 : decode cX2_sparkLine 113 = .ok (.aload_n 0, 1) := by decide +kernel
theorem dX2_sparkLine_114 : decode cX2_sparkLine 114 = .ok (.getfield 19, 3) := by decide +kernel
theorem dX2_sparkLine_117 : decode cX2_sparkLine 117 = .ok (.getfield 198, 3) := by decide +kernel
theorem dX2_sparkLine_120 : decode cX2_sparkLine 120 = .ok (.iload_n 2, 1) := by decide +kernel
theorem dX2_sparkLine_121 : decode cX2_sparkLine 121 = .ok (.iaload, 1) := by decide +kernel
theorem dX2_sparkLine_122 : decode cX2_sparkLine 122 = .ok (.aload_n 0, 1) := by decide +kernel
theorem dX2_sparkLine_123 : decode cX2_sparkLine 123 = .ok (.getfield 113, 3) := by decide +kernel
theorem dX2_sparkLine_126 : decode cX2_sparkLine 126 = .ok (.invokestatic 228, 3) := by decide +kernel
theorem dX2_sparkLine_129 : decode cX2_sparkLine 129 = .ok (.iastore, 1) := by decide +kernel
theorem dX2_sparkLine_130 : decode cX2_sparkLine 130 = .ok (.aload_n 0, 1) := by decide +kernel
theorem dX2_sparkLine_131 : decode cX2_sparkLine 131 = .ok (.getfield 19, 3) := by decide +kernel
theorem dX2_sparkLine_134 : decode cX2_sparkLine 134 = .ok (.iload_n 3, 1) := by decide +kernel
theorem dX2_sparkLine_135 : decode cX2_sparkLine 135 = .ok (.iconst 1, 1) := by decide +kernel
theorem dX2_sparkLine_136 : decode cX2_sparkLine 136 = .ok (.iadd, 1) := by decide +kernel
theorem dX2_sparkLine_137 : decode cX2_sparkLine 137 = .ok (.putfield 154, 3) := by decide +kernel
theorem dX2_sparkLine_140 : decode cX2_sparkLine 140 = .ok (.iconst 1, 1) := by decide +kernel
theorem dX2_sparkLine_141 : decode cX2_sparkLine 141 = .ok (.ireturn, 1) := by decide +kernel
theorem dX2_lagTo_0 : decode cX2_lagTo 0 = .ok (.iload_n 0, 1) := by decide +kernel
theorem dX2_lagTo_1 : decode cX2_lagTo 1 = .ok (.tableswitch 41 0 2 #[27, 31, 39], 27) := by decide +kernel
theorem dX2_lagTo_28 : decode cX2_lagTo 28 = .ok (.iload_n 1, 1) := by decide +kernel
theorem dX2_lagTo_29 : decode cX2_lagTo 29 = .ok (.iconst 1, 1) := by decide +kernel
theorem dX2_lagTo_30 : decode cX2_lagTo 30 = .ok (.iadd, 1) := by decide +kernel
theorem dX2_lagTo_31 : decode cX2_lagTo 31 = .ok (.ireturn, 1) := by decide +kernel
theorem dX2_lagTo_32 : decode cX2_lagTo 32 = .ok (.iconst 0, 1) := by decide +kernel
theorem dX2_lagTo_33 : decode cX2_lagTo 33 = .ok (.iload_n 1, 1) := by decide +kernel
theorem dX2_lagTo_34 : decode cX2_lagTo 34 = .ok (.iconst 1, 1) := by decide +kernel
theorem dX2_lagTo_35 : decode cX2_lagTo 35 = .ok (.isub, 1) := by decide +kernel
theorem dX2_lagTo_36 : decode cX2_lagTo 36 = .ok (.invokestatic 231, 3) := by decide +kernel
theorem dX2_lagTo_39 : decode cX2_lagTo 39 = .ok (.ireturn, 1) := by decide +kernel
theorem dX2_lagTo_40 : decode cX2_lagTo 40 = .ok (.iload_n 1, 1) := by decide +kernel
theorem dX2_lagTo_41 : decode cX2_lagTo 41 = .ok (.ireturn, 1) := by decide +kernel
theorem dX2_lagTo_42 : decode cX2_lagTo 42 = .ok (.sipush 1000, 3) := by decide +kernel
theorem dX2_lagTo_45 : decode cX2_lagTo 45 = .ok (.ireturn, 1) := by decide +kernel
theorem dX2_doesLine_0 : decode cX2_doesLine 0 = .ok (.aload_n 0, 1) := by decide +kernel
theorem dX2_doesLine_1 : decode cX2_doesLine 1 = .ok (.invokevirtual 210, 3) := by decide +kernel
theorem dX2_doesLine_4 : decode cX2_doesLine 4 = .ok (.istore_n 1, 1) := by decide +kernel
theorem dX2_doesLine_5 : decode cX2_doesLine 5 = .ok (.iload_n 1, 1) := by decide +kernel
theorem dX2_doesLine_6 : decode cX2_doesLine 6 = .ok (.iconst (-1), 1) := by decide +kernel
theorem dX2_doesLine_7 : decode cX2_doesLine 7 = .ok (.if_icmp .ne 5, 3) := by decide +kernel
theorem dX2_doesLine_10 : decode cX2_doesLine 10 = .ok (.iconst 0, 1) := by decide +kernel
theorem dX2_doesLine_11 : decode cX2_doesLine 11 = .ok (.ireturn, 1) := by decide +kernel
theorem dX2_doesLine_12 : decode cX2_doesLine 12 = .ok (.aload_n 0, 1) := by decide +kernel
theorem dX2_doesLine_13 : decode cX2_doesLine 13 = .ok (.getfield 19, 3) := by decide +kernel
theorem dX2_doesLine_16 : decode cX2_doesLine 16 = .ok (.getfield 207, 3) := by decide +kernel
theorem dX2_doesLine_19 : decode cX2_doesLine 19 = .ok (.iload_n 1, 1) := by decide +kernel
theorem dX2_doesLine_20 : decode cX2_doesLine 20 = .ok (.iaload, 1) := by decide +kernel
theorem dX2_doesLine_21 : decode cX2_doesLine 21 = .ok (.ifCond .eq 9, 3) := by decide +kernel
theorem dX2_doesLine_24 : decode cX2_doesLine 24 = .ok (.aload_n 0, 1) := by decide +kernel
theorem dX2_doesLine_25 : decode cX2_doesLine 25 = .ok (.iconst 3, 1) := by decide +kernel
theorem dX2_doesLine_26 : decode cX2_doesLine 26 = .ok (.invokevirtual 58, 3) := by decide +kernel
theorem dX2_doesLine_29 : decode cX2_doesLine 29 = .ok (.ireturn, 1) := by decide +kernel
theorem dX2_doesLine_30 : decode cX2_doesLine 30 = .ok (.aload_n 0, 1) := by decide +kernel
theorem dX2_doesLine_31 : decode cX2_doesLine 31 = .ok (.invokevirtual 45, 3) := by decide +kernel
theorem dX2_doesLine_34 : decode cX2_doesLine 34 = .ok (.aload_n 0, 1) := by decide +kernel
theorem dX2_doesLine_35 : decode cX2_doesLine 35 = .ok (.ldc 236, 2) := by decide +kernel
theorem dX2_doesLine_37 : decode cX2_doesLine 37 = .ok (.invokevirtual 89, 3) := by decide +kernel
theorem dX2_doesLine_40 : decode cX2_doesLine 40 = .ok (.ifCond .eq 16, 3) := by decide +kernel
theorem dX2_doesLine_43 : decode cX2_doesLine 43 = .ok (.aload_n 0, 1) := by decide +kernel
theorem dX2_doesLine_44 : decode cX2_doesLine 44 = .ok (.getfield 19, 3) := by decide +kernel
theorem dX2_doesLine_47 : decode cX2_doesLine 47 = .ok (.getfield 207, 3) := by decide +kernel
theorem dX2_doesLine_50 : decode cX2_doesLine 50 = .ok (.iload_n 1, 1) := by decide +kernel
theorem dX2_doesLine_51 : decode cX2_doesLine 51 = .ok (.iconst 1, 1) := by decide +kernel
theorem dX2_doesLine_52 : decode cX2_doesLine 52 = .ok (.iastore, 1) := by decide +kernel
theorem dX2_doesLine_53 : decode cX2_doesLine 53 = .ok (.goto 53, 3) := by decide +kernel
theorem dX2_doesLine_56 : decode cX2_doesLine 56 = .ok (.aload_n 0, 1) := by decide +kernel
theorem dX2_doesLine_57 : decode cX2_doesLine 57 = .ok (.ldc 238, 2) := by decide +kernel
theorem dX2_doesLine_59 : decode cX2_doesLine 59 = .ok (.invokevirtual 89, 3) := by decide +kernel
theorem dX2_doesLine_62 : decode cX2_doesLine 62 = .ok (.ifCond .eq 16, 3) := by decide +kernel
theorem dX2_doesLine_65 : decode cX2_doesLine 65 = .ok (.aload_n 0, 1) := by decide +kernel
theorem dX2_doesLine_66 : decode cX2_doesLine 66 = .ok (.getfield 19, 3) := by decide +kernel
theorem dX2_doesLine_69 : decode cX2_doesLine 69 = .ok (.getfield 207, 3) := by decide +kernel
theorem dX2_doesLine_72 : decode cX2_doesLine 72 = .ok (.iload_n 1, 1) := by decide +kernel
theorem dX2_doesLine_73 : decode cX2_doesLine 73 = .ok (.iconst 2, 1) := by decide +kernel
theorem dX2_doesLine_74 : decode cX2_doesLine 74 = .ok (.iastore, 1) := by decide +kernel
theorem dX2_doesLine_75 : decode cX2_doesLine 75 = .ok (.goto 31, 3) := by decide +kernel
theorem dX2_doesLine_78 : decode cX2_doesLine 78 = .ok (.aload_n 0, 1) := by decide +kernel
theorem dX2_doesLine_79 : decode cX2_doesLine 79 = .ok (.ldc 240, 2) := by decide +kernel
theorem dX2_doesLine_81 : decode cX2_doesLine 81 = .ok (.invokevirtual 89, 3) := by decide +kernel
theorem dX2_doesLine_84 : decode cX2_doesLine 84 = .ok (.ifCond .eq 16, 3) := by decide +kernel
theorem dX2_doesLine_87 : decode cX2_doesLine 87 = .ok (.aload_n 0, 1) := by decide +kernel
theorem dX2_doesLine_88 : decode cX2_doesLine 88 = .ok (.getfield 19, 3) := by decide +kernel
theorem dX2_doesLine_91 : decode cX2_doesLine 91 = .ok (.getfield 207, 3) := by decide +kernel
theorem dX2_doesLine_94 : decode cX2_doesLine 94 = .ok (.iload_n 1, 1) := by decide +kernel
theorem dX2_doesLine_95 : decode cX2_doesLine 95 = .ok (.iconst 3, 1) := by decide +kernel
theorem dX2_doesLine_96 : decode cX2_doesLine 96 = .ok (.iastore, 1) := by decide +kernel
theorem dX2_doesLine_97 : decode cX2_doesLine 97 = .ok (.goto 9, 3) := by decide +kernel
theorem dX2_doesLine_100 : decode cX2_doesLine 100 = .ok (.aload_n 0, 1) := by decide +kernel
theorem dX2_doesLine_101 : decode cX2_doesLine 101 = .ok (.iconst 1, 1) := by decide +kernel
theorem dX2_doesLine_102 : decode cX2_doesLine 102 = .ok (.invokevirtual 58, 3) := by decide +kernel
theorem dX2_doesLine_105 : decode cX2_doesLine 105 = .ok (.ireturn, 1) := by decide +kernel
theorem dX2_doesLine_106 : decode cX2_doesLine 106 = .ok (.aload_n 0, 1) := by decide +kernel
theorem dX2_doesLine_107 : decode cX2_doesLine 107 = .ok (.invokevirtual 45, 3) := by decide +kernel
theorem dX2_doesLine_110 : decode cX2_doesLine 110 = .ok (.iconst 1, 1) := by decide +kernel
theorem dX2_doesLine_111 : decode cX2_doesLine 111 = .ok (.ireturn, 1) := by decide +kernel
theorem dX2_pulledLine_0 : decode cX2_pulledLine 0 = .ok (.aload_n 0, 1) := by decide +kernel
theorem dX2_pulledLine_1 : decode cX2_pulledLine 1 = .ok (.invokevirtual 210, 3) := by decide +kernel
theorem dX2_pulledLine_4 : decode cX2_pulledLine 4 = .ok (.istore_n 1, 1) := by decide +kernel
theorem dX2_pulledLine_5 : decode cX2_pulledLine 5 = .ok (.iload_n 1, 1) := by decide +kernel
theorem dX2_pulledLine_6 : decode cX2_pulledLine 6 = .ok (.iconst (-1), 1) := by decide +kernel
theorem dX2_pulledLine_7 : decode cX2_pulledLine 7 = .ok (.if_icmp .ne 5, 3) := by decide +kernel
theorem dX2_pulledLine_10 : decode cX2_pulledLine 10 = .ok (.iconst 0, 1) := by decide +kernel
theorem dX2_pulledLine_11 : decode cX2_pulledLine 11 = .ok (.ireturn, 1) := by decide +kernel
theorem dX2_pulledLine_12 : decode cX2_pulledLine 12 = .ok (.aload_n 0, 1) := by decide +kernel
theorem dX2_pulledLine_13 : decode cX2_pulledLine 13 = .ok (.getfield 19, 3) := by decide +kernel
theorem dX2_pulledLine_16 : decode cX2_pulledLine 16 = .ok (.getfield 242, 3) := by decide +kernel
theorem dX2_pulledLine_19 : decode cX2_pulledLine 19 = .ok (.iload_n 1, 1) := by decide +kernel
theorem dX2_pulledLine_20 : decode cX2_pulledLine 20 = .ok (.ishr, 1) := by decide +kernel
theorem dX2_pulledLine_21 : decode cX2_pulledLine 21 = .ok (.iconst 1, 1) := by decide +kernel
theorem dX2_pulledLine_22 : decode cX2_pulledLine 22 = .ok (.iand, 1) := by decide +kernel
theorem dX2_pulledLine_23 : decode cX2_pulledLine 23 = .ok (.iconst 1, 1) := by decide +kernel
theorem dX2_pulledLine_24 : decode cX2_pulledLine 24 = .ok (.if_icmp .ne 9, 3) := by decide +kernel
theorem dX2_pulledLine_27 : decode cX2_pulledLine 27 = .ok (.aload_n 0, 1) := by decide +kernel
theorem dX2_pulledLine_28 : decode cX2_pulledLine 28 = .ok (.iconst 3, 1) := by decide +kernel
theorem dX2_pulledLine_29 : decode cX2_pulledLine 29 = .ok (.invokevirtual 58, 3) := by decide +kernel
theorem dX2_pulledLine_32 : decode cX2_pulledLine 32 = .ok (.ireturn, 1) := by decide +kernel
theorem dX2_pulledLine_33 : decode cX2_pulledLine 33 = .ok (.aload_n 0, 1) := by decide +kernel
theorem dX2_pulledLine_34 : decode cX2_pulledLine 34 = .ok (.getfield 19, 3) := by decide +kernel
theorem dX2_pulledLine_37 : decode cX2_pulledLine 37 = .ok (.dup, 1) := by decide +kernel
theorem dX2_pulledLine_38 : decode cX2_pulledLine 38 = .ok (.getfield 242, 3) := by decide +kernel
theorem dX2_pulledLine_41 : decode cX2_pulledLine 41 = .ok (.iconst 1, 1) := by decide +kernel
theorem dX2_pulledLine_42 : decode cX2_pulledLine 42 = .ok (.iload_n 1, 1) := by decide +kernel
theorem dX2_pulledLine_43 : decode cX2_pulledLine 43 = .ok (.ishl, 1) := by decide +kernel
theorem dX2_pulledLine_44 : decode cX2_pulledLine 44 = .ok (.ior, 1) := by decide +kernel
theorem dX2_pulledLine_45 : decode cX2_pulledLine 45 = .ok (.putfield 242, 3) := by decide +kernel
theorem dX2_pulledLine_48 : decode cX2_pulledLine 48 = .ok (.aload_n 0, 1) := by decide +kernel
theorem dX2_pulledLine_49 : decode cX2_pulledLine 49 = .ok (.invokevirtual 45, 3) := by decide +kernel
theorem dX2_pulledLine_52 : decode cX2_pulledLine 52 = .ok (.iconst 1, 1) := by decide +kernel
theorem dX2_pulledLine_53 : decode cX2_pulledLine 53 = .ok (.ireturn, 1) := by decide +kernel
theorem dX2_glassLine_0 : decode cX2_glassLine 0 = .ok (.aload_n 0, 1) := by decide +kernel
theorem dX2_glassLine_1 : decode cX2_glassLine 1 = .ok (.getfield 19, 3) := by decide +kernel
theorem dX2_glassLine_4 : decode cX2_glassLine 4 = .ok (.getfield 157, 3) := by decide +kernel
theorem dX2_glassLine_7 : decode cX2_glassLine 7 = .ok (.ifCond .le 25, 3) := by decide +kernel
theorem dX2_glassLine_10 : decode cX2_glassLine 10 = .ok (.aload_n 0, 1) := by decide +kernel
theorem dX2_glassLine_11 : decode cX2_glassLine 11 = .ok (.getfield 19, 3) := by decide +kernel
theorem dX2_glassLine_14 : decode cX2_glassLine 14 = .ok (.getfield 245, 3) := by decide +kernel
theorem dX2_glassLine_17 : decode cX2_glassLine 17 = .ok (.aload_n 0, 1) := by decide +kernel
theorem dX2_glassLine_18 : decode cX2_glassLine 18 = .ok (.getfield 19, 3) := by decide +kernel
theorem dX2_glassLine_21 : decode cX2_glassLine 21 = .ok (.getfield 157, 3) := by decide +kernel
theorem dX2_glassLine_24 : decode cX2_glassLine 24 = .ok (.iconst 1, 1) := by decide +kernel
theorem dX2_glassLine_25 : decode cX2_glassLine 25 = .ok (.isub, 1) := by decide +kernel
theorem dX2_glassLine_26 : decode cX2_glassLine 26 = .ok (.iaload, 1) := by decide +kernel
theorem dX2_glassLine_27 : decode cX2_glassLine 27 = .ok (.iconst 1, 1) := by decide +kernel
theorem dX2_glassLine_28 : decode cX2_glassLine 28 = .ok (.iadd, 1) := by decide +kernel
theorem dX2_glassLine_29 : decode cX2_glassLine 29 = .ok (.goto 4, 3) := by decide +kernel
theorem dX2_glassLine_32 : decode cX2_glassLine 32 = .ok (.iconst 0, 1) := by decide +kernel
theorem dX2_glassLine_33 : decode cX2_glassLine 33 = .ok (.istore_n 1, 1) := by decide +kernel
theorem dX2_glassLine_34 : decode cX2_glassLine 34 = .ok (.aload_n 0, 1) := by decide +kernel
theorem dX2_glassLine_35 : decode cX2_glassLine 35 = .ok (.ldc 182, 2) := by decide +kernel
theorem dX2_glassLine_37 : decode cX2_glassLine 37 = .ok (.invokevirtual 168, 3) := by decide +kernel
theorem dX2_glassLine_40 : decode cX2_glassLine 40 = .ok (.ifCond .eq 13, 3) := by decide +kernel
theorem dX2_glassLine_43 : decode cX2_glassLine 43 = .ok (.aload_n 0, 1) := by decide +kernel
theorem dX2_glassLine_44 : decode cX2_glassLine 44 = .ok (.iload_n 1, 1) := by decide +kernel
theorem dX2_glassLine_45 : decode cX2_glassLine 45 = .ok (.bipush 30, 2) := by decide +kernel
theorem dX2_glassLine_47 : decode cX2_glassLine 47 = .ok (.invokevirtual 171, 3) := by decide +kernel
theorem dX2_glassLine_50 : decode cX2_glassLine 50 = .ok (.ifCond .ne 5, 3) := by decide +kernel
theorem dX2_glassLine_53 : decode cX2_glassLine 53 = .ok (.iconst 0, 1) := by decide +kernel
theorem dX2_glassLine_54 : decode cX2_glassLine 54 = .ok (.ireturn, 1) := by decide +kernel
theorem dX2_glassLine_55 : decode cX2_glassLine 55 = .ok (.aload_n 0, 1) := by decide +kernel
theorem dX2_glassLine_56 : decode cX2_glassLine 56 = .ok (.getfield 19, 3) := by decide +kernel
theorem dX2_glassLine_59 : decode cX2_glassLine 59 = .ok (.getfield 245, 3) := by decide +kernel
theorem dX2_glassLine_62 : decode cX2_glassLine 62 = .ok (.aload_n 0, 1) := by decide +kernel
theorem dX2_glassLine_63 : decode cX2_glassLine 63 = .ok (.getfield 19, 3) := by decide +kernel
theorem dX2_glassLine_66 : decode cX2_glassLine 66 = .ok (.getfield 157, 3) := by decide +kernel
theorem dX2_glassLine_69 : decode cX2_glassLine 69 = .ok (.aload_n 0, 1) := by decide +kernel
theorem dX2_glassLine_70 : decode cX2_glassLine 70 = .ok (.getfield 113, 3) := by decide +kernel
theorem dX2_glassLine_73 : decode cX2_glassLine 73 = .ok (.iastore, 1) := by decide +kernel
theorem dX2_glassLine_74 : decode cX2_glassLine 74 = .ok (.aload_n 0, 1) := by decide +kernel
theorem dX2_glassLine_75 : decode cX2_glassLine 75 = .ok (.getfield 19, 3) := by decide +kernel
theorem dX2_glassLine_78 : decode cX2_glassLine 78 = .ok (.dup, 1) := by decide +kernel
theorem dX2_glassLine_79 : decode cX2_glassLine 79 = .ok (.getfield 157, 3) := by decide +kernel
theorem dX2_glassLine_82 : decode cX2_glassLine 82 = .ok (.iconst 1, 1) := by decide +kernel
theorem dX2_glassLine_83 : decode cX2_glassLine 83 = .ok (.iadd, 1) := by decide +kernel
theorem dX2_glassLine_84 : decode cX2_glassLine 84 = .ok (.putfield 157, 3) := by decide +kernel
theorem dX2_glassLine_87 : decode cX2_glassLine 87 = .ok (.iconst 1, 1) := by decide +kernel
theorem dX2_glassLine_88 : decode cX2_glassLine 88 = .ok (.ireturn, 1) := by decide +kernel
theorem dX2_unknownLine_0 : decode cX2_unknownLine 0 = .ok (.aload_n 0, 1) := by decide +kernel
theorem dX2_unknownLine_1 : decode cX2_unknownLine 1 = .ok (.invokevirtual 210, 3) := by decide +kernel
theorem dX2_unknownLine_4 : decode cX2_unknownLine 4 = .ok (.istore_n 1, 1) := by decide +kernel
theorem dX2_unknownLine_5 : decode cX2_unknownLine 5 = .ok (.iload_n 1, 1) := by decide +kernel
theorem dX2_unknownLine_6 : decode cX2_unknownLine 6 = .ok (.iconst (-1), 1) := by decide +kernel
theorem dX2_unknownLine_7 : decode cX2_unknownLine 7 = .ok (.if_icmp .ne 5, 3) := by decide +kernel
theorem dX2_unknownLine_10 : decode cX2_unknownLine 10 = .ok (.iconst 0, 1) := by decide +kernel
theorem dX2_unknownLine_11 : decode cX2_unknownLine 11 = .ok (.ireturn, 1) := by decide +kernel
theorem dX2_unknownLine_12 : decode cX2_unknownLine 12 = .ok (.iconst 0, 1) := by decide +kernel
theorem dX2_unknownLine_13 : decode cX2_unknownLine 13 = .ok (.istore_n 2, 1) := by decide +kernel
theorem dX2_unknownLine_14 : decode cX2_unknownLine 14 = .ok (.iload_n 2, 1) := by decide +kernel
theorem dX2_unknownLine_15 : decode cX2_unknownLine 15 = .ok (.aload_n 0, 1) := by decide +kernel
theorem dX2_unknownLine_16 : decode cX2_unknownLine 16 = .ok (.getfield 19, 3) := by decide +kernel
theorem dX2_unknownLine_19 : decode cX2_unknownLine 19 = .ok (.getfield 160, 3) := by decide +kernel
theorem dX2_unknownLine_22 : decode cX2_unknownLine 22 = .ok (.if_icmp .ge 28, 3) := by decide +kernel
theorem dX2_unknownLine_25 : decode cX2_unknownLine 25 = .ok (.aload_n 0, 1) := by decide +kernel
theorem dX2_unknownLine_26 : decode cX2_unknownLine 26 = .ok (.getfield 19, 3) := by decide +kernel
theorem dX2_unknownLine_29 : decode cX2_unknownLine 29 = .ok (.getfield 247, 3) := by decide +kernel
theorem dX2_unknownLine_32 : decode cX2_unknownLine 32 = .ok (.iload_n 2, 1) := by decide +kernel
theorem dX2_unknownLine_33 : decode cX2_unknownLine 33 = .ok (.iaload, 1) := by decide +kernel
theorem dX2_unknownLine_34 : decode cX2_unknownLine 34 = .ok (.iload_n 1, 1) := by decide +kernel
theorem dX2_unknownLine_35 : decode cX2_unknownLine 35 = .ok (.if_icmp .ne 9, 3) := by decide +kernel
theorem dX2_unknownLine_38 : decode cX2_unknownLine 38 = .ok (.aload_n 0, 1) := by decide +kernel
theorem dX2_unknownLine_39 : decode cX2_unknownLine 39 = .ok (.iconst 3, 1) := by decide +kernel
theorem dX2_unknownLine_40 : decode cX2_unknownLine 40 = .ok (.invokevirtual 58, 3) := by decide +kernel
theorem dX2_unknownLine_43 : decode cX2_unknownLine 43 = .ok (.ireturn, 1) := by decide +kernel
theorem dX2_unknownLine_44 : decode cX2_unknownLine 44 = .ok (.iinc 2 1, 3) := by decide +kernel
theorem dX2_unknownLine_47 : decode cX2_unknownLine 47 = .ok (.goto (-33), 3) := by decide +kernel
theorem dX2_unknownLine_50 : decode cX2_unknownLine 50 = .ok (.aload_n 0, 1) := by decide +kernel
theorem dX2_unknownLine_51 : decode cX2_unknownLine 51 = .ok (.getfield 19, 3) := by decide +kernel
theorem dX2_unknownLine_54 : decode cX2_unknownLine 54 = .ok (.getfield 247, 3) := by decide +kernel
theorem dX2_unknownLine_57 : decode cX2_unknownLine 57 = .ok (.aload_n 0, 1) := by decide +kernel
theorem dX2_unknownLine_58 : decode cX2_unknownLine 58 = .ok (.getfield 19, 3) := by decide +kernel
theorem dX2_unknownLine_61 : decode cX2_unknownLine 61 = .ok (.getfield 160, 3) := by decide +kernel
theorem dX2_unknownLine_64 : decode cX2_unknownLine 64 = .ok (.iload_n 1, 1) := by decide +kernel
theorem dX2_unknownLine_65 : decode cX2_unknownLine 65 = .ok (.iastore, 1) := by decide +kernel
theorem dX2_unknownLine_66 : decode cX2_unknownLine 66 = .ok (.aload_n 0, 1) := by decide +kernel
theorem dX2_unknownLine_67 : decode cX2_unknownLine 67 = .ok (.getfield 19, 3) := by decide +kernel
theorem dX2_unknownLine_70 : decode cX2_unknownLine 70 = .ok (.dup, 1) := by decide +kernel
theorem dX2_unknownLine_71 : decode cX2_unknownLine 71 = .ok (.getfield 160, 3) := by decide +kernel
theorem dX2_unknownLine_74 : decode cX2_unknownLine 74 = .ok (.iconst 1, 1) := by decide +kernel
theorem dX2_unknownLine_75 : decode cX2_unknownLine 75 = .ok (.iadd, 1) := by decide +kernel
theorem dX2_unknownLine_76 : decode cX2_unknownLine 76 = .ok (.putfield 160, 3) := by decide +kernel
theorem dX2_unknownLine_79 : decode cX2_unknownLine 79 = .ok (.aload_n 0, 1) := by decide +kernel
theorem dX2_unknownLine_80 : decode cX2_unknownLine 80 = .ok (.invokevirtual 45, 3) := by decide +kernel
theorem dX2_unknownLine_83 : decode cX2_unknownLine 83 = .ok (.iconst 1, 1) := by decide +kernel
theorem dX2_unknownLine_84 : decode cX2_unknownLine 84 = .ok (.ireturn, 1) := by decide +kernel
theorem dX2_rungLine_0 : decode cX2_rungLine 0 = .ok (.aload_n 0, 1) := by decide +kernel
theorem dX2_rungLine_1 : decode cX2_rungLine 1 = .ok (.ldc 182, 2) := by decide +kernel
theorem dX2_rungLine_3 : decode cX2_rungLine 3 = .ok (.invokevirtual 168, 3) := by decide +kernel
theorem dX2_rungLine_6 : decode cX2_rungLine 6 = .ok (.ifCond .eq 13, 3) := by decide +kernel
theorem dX2_rungLine_9 : decode cX2_rungLine 9 = .ok (.aload_n 0, 1) := by decide +kernel
theorem dX2_rungLine_10 : decode cX2_rungLine 10 = .ok (.iconst 0, 1) := by decide +kernel
theorem dX2_rungLine_11 : decode cX2_rungLine 11 = .ok (.bipush 30, 2) := by decide +kernel
theorem dX2_rungLine_13 : decode cX2_rungLine 13 = .ok (.invokevirtual 171, 3) := by decide +kernel
theorem dX2_rungLine_16 : decode cX2_rungLine 16 = .ok (.ifCond .ne 5, 3) := by decide +kernel
theorem dX2_rungLine_19 : decode cX2_rungLine 19 = .ok (.iconst 0, 1) := by decide +kernel
theorem dX2_rungLine_20 : decode cX2_rungLine 20 = .ok (.ireturn, 1) := by decide +kernel
theorem dX2_rungLine_21 : decode cX2_rungLine 21 = .ok (.bipush (-2), 2) := by decide +kernel
theorem dX2_rungLine_23 : decode cX2_rungLine 23 = .ok (.istore_n 1, 1) := by decide +kernel
theorem dX2_rungLine_24 : decode cX2_rungLine 24 = .ok (.aload_n 0, 1) := by decide +kernel
theorem dX2_rungLine_25 : decode cX2_rungLine 25 = .ok (.ldc 107, 2) := by decide +kernel
theorem dX2_rungLine_27 : decode cX2_rungLine 27 = .ok (.invokevirtual 89, 3) := by decide +kernel
theorem dX2_rungLine_30 : decode cX2_rungLine 30 = .ok (.ifCond .ne 15, 3) := by decide +kernel
theorem dX2_rungLine_33 : decode cX2_rungLine 33 = .ok (.aload_n 0, 1) := by decide +kernel
theorem dX2_rungLine_34 : decode cX2_rungLine 34 = .ok (.invokevirtual 210, 3) := by decide +kernel
